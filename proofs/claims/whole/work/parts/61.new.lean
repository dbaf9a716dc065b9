abbrev mX1_init : zM := (yX1_init, cX1_init, 2, none, { frames := 2, cells := 24, slots := 122, locals := 32 })
set_option maxRecDepth 100000 in
set_option maxHeartbeats 4000000 in
theorem c_X1_init_8 (l : Launch) (B : zB) (G : Nat → va_E) (hG : ∀ k, 8 ≤ k → k < 33 → G k = zg B z0 zt1 k) : zMet l B mX1_init 24 122 9 (va_up G 8 (.inr (1, [.null, .null, .null, .null, .int 0, .int 0, .int 0]))) [.ref (B.1 + 8)] (zRi G) := by
  refine z_met (by decide) (Nat.le_of_ble_eq_true rfl) ?_
  intro X hl C E hnm
  show Z X B mX1_init 9 (va_up G 8 (.inr (1, [.null, .null, .null, .null, .int 0, .int 0, .int 0]))) 0 0 0 [(0, .ref (B.1 + 8))] []
  refine z_aload_n C dX1_init_0 0 rfl rfl ?_
  refine z_obj C tw_76 (Nat.le_of_ble_eq_true rfl) (Nat.le_of_ble_eq_true rfl) dX1_init_1 ?_
  refine z_aload_n C dX1_init_4 0 rfl rfl ?_
  refine z_new C (ci := 8) (fs := [.int 0, .int 0, .int 0, .int 0, .int 0, .int 0]) tyX8 tyX8_ok zc_8 tw_77 tw_78 tw_9 rfl (by decide) (hG 9 (by decide) (by decide)) (Nat.le_of_ble_eq_true rfl) (Nat.le_of_ble_eq_true rfl) dX1_init_5 (n2 := 10) (a2 := 1) (w2 := 6) rfl rfl rfl ?_
  refine z_dup C dX1_init_8 rfl ?_
  refine z_callIN C hl (o := 9) (c_X8_init l B 10 (va_up G 8 (.inr (1, [.null, .null, .null, .null, .int 0, .int 0, .int 0]))) 9) (zCN (nA := 0) C rfl rfl tw_81 tw_9 (by decide +kernel) (by decide +kernel) ⟨Nat.le_of_ble_eq_true rfl, Nat.le_of_ble_eq_true rfl⟩) rfl tw_80 (Nat.le_of_ble_eq_true rfl) dX1_init_9 ⟨Nat.le_of_ble_eq_true rfl, Nat.le_of_ble_eq_true rfl⟩ (n2 := 10) (a2 := 1) (w2 := 6) rfl rfl rfl ?_
  refine z_putF C hnm (ci := 1) (o := 8) (j := 0) (fs := [.null, .null, .null, .null, .int 0, .int 0, .int 0]) (ty := tyX1 0) tyX1 tyX1_ok nmX1 zc_1 rfl (by decide) tw_167 rfl rfl rfl (by decide +kernel) rfl rfl (by decide) rfl (Nat.le_of_ble_eq_true rfl) dX1_init_12 ?_
  refine z_G (G2 := (va_up G 8 (.inr (1, [.ref (B.1 + 9), .null, .null, .null, .int 0, .int 0, .int 0])))) (va_upA _ _ _ _) ?_
  refine z_aload_n C dX1_init_15 0 rfl rfl ?_
  refine z_bipush C dX1_init_16 kb_6 ?_
  refine z_GG (G2 := (va_up (va_up G 8 (.inr (1, [.ref (B.1 + 9), .null, .null, .null, .int 0, .int 0, .int 0]))) 10 (.inl (B.2.2.1 3, 6, .inr (.inr (.inr (.inr (fun _ => none)))))))) (fun k hk => (va_up_ne _ _ (Nat.ne_of_lt hk)).symm) ?_
  refine z_anew C 3 (Cn := RX0) tw_110 (by decide) rfl (by decide) (N' := 6) (by decide) (by decide) rfl (Nat.le_of_ble_eq_true rfl) (Nat.le_of_ble_eq_true rfl) dX1_init_18 (n2 := 11) (a2 := 2) (w2 := 12) rfl rfl rfl ?_
  refine z_G (G2 := (va_up (va_up G 8 (.inr (1, [.ref (B.1 + 9), .null, .null, .null, .int 0, .int 0, .int 0]))) 10 (.inl (B.2.2.1 3, 6, .inr (.inr (.inr (.inr (zq B (fun j => 10 + 1 + j) 0)))))))) (by rw [← zq_0]) ?_
  refine z_putF C hnm (ci := 1) (o := 8) (j := 1) (fs := [.ref (B.1 + 9), .null, .null, .null, .int 0, .int 0, .int 0]) (ty := tyX1 1) tyX1 tyX1_ok nmX1 zc_1 rfl (by decide) tw_169 rfl rfl rfl (by decide +kernel) rfl rfl (by decide) rfl (Nat.le_of_ble_eq_true rfl) dX1_init_21 ?_
  refine z_G (G2 := (va_up (va_up G 8 (.inr (1, [.ref (B.1 + 9), .ref (B.1 + 10), .null, .null, .int 0, .int 0, .int 0]))) 10 (.inl (B.2.2.1 3, 6, .inr (.inr (.inr (.inr (zq B (fun j => 10 + 1 + j) 0)))))))) (va_upB _ _ _ _ _ _ (by decide)) ?_
  refine z_iconst C dX1_init_24 ki_0 ?_
  refine z_istore_n C [(1, .int 0), (0, .ref (B.1 + 8))] dX1_init_25 rfl (by decide) rfl ?_
  refine z_iload_n C dX1_init_26 0 rfl rfl ?_
  refine z_aload_n C dX1_init_27 1 rfl rfl ?_
  refine z_get C (ci := 1) (o := 8) (j := 1) (v := .ref (B.1 + 10)) (fs := [.ref (B.1 + 9), .ref (B.1 + 10), .null, .null, .int 0, .int 0, .int 0]) zc_1 rfl (by decide) tw_169 rfl (by decide) rfl rfl dX1_init_28 ?_
  refine z_alen C (v := 6) 3 (o := 10) (by decide) rfl rfl rfl dX1_init_31 ?_
  refine z_icmp_ge C 54 dX1_init_32 (by decide) (fun hbr => absurd hbr (by decide)) (fun _ => ?_)
  refine z_aload_n C dX1_init_35 1 rfl rfl ?_
  refine z_get C (ci := 1) (o := 8) (j := 1) (v := .ref (B.1 + 10)) (fs := [.ref (B.1 + 9), .ref (B.1 + 10), .null, .null, .int 0, .int 0, .int 0]) zc_1 rfl (by decide) tw_169 rfl (by decide) rfl rfl dX1_init_36 ?_
  refine z_iload_n C dX1_init_39 0 rfl rfl ?_
  refine z_new C (ci := 0) (fs := [.int 0, .int 0, .int 0, .int 0]) tyX0 tyX0_ok zc_0 tw_110 tw_112 tw_10 rfl (by decide) (hG 11 (by decide) (by decide)) (Nat.le_of_ble_eq_true rfl) (Nat.le_of_ble_eq_true rfl) dX1_init_40 (n2 := 12) (a2 := 3) (w2 := 16) rfl rfl rfl ?_
  refine z_dup C dX1_init_43 rfl ?_
  refine z_callIN C hl (o := 11) (c_X0_init l B 12 (va_up (va_up G 8 (.inr (1, [.ref (B.1 + 9), .ref (B.1 + 10), .null, .null, .int 0, .int 0, .int 0]))) 10 (.inl (B.2.2.1 3, 6, .inr (.inr (.inr (.inr (zq B (fun j => 10 + 1 + j) 0))))))) 11) (zCN (nA := 0) C rfl rfl tw_115 tw_10 (by decide +kernel) (by decide +kernel) ⟨Nat.le_of_ble_eq_true rfl, Nat.le_of_ble_eq_true rfl⟩) rfl tw_114 (Nat.le_of_ble_eq_true rfl) dX1_init_44 ⟨Nat.le_of_ble_eq_true rfl, Nat.le_of_ble_eq_true rfl⟩ (n2 := 12) (a2 := 3) (w2 := 16) rfl rfl rfl ?_
  refine z_aast C 3 (o := 10) (v := 11) (by decide) rfl rfl (by decide) (hG 11 (by decide) (by decide)) rfl (by unfold vp_in; decide) dX1_init_47 ?_
  refine z_G (G2 := (va_up (va_up G 8 (.inr (1, [.ref (B.1 + 9), .ref (B.1 + 10), .null, .null, .int 0, .int 0, .int 0]))) 10 (.inl (B.2.2.1 3, 6, .inr (.inr (.inr (.inr (zq B (fun j => 10 + 1 + j) 1)))))))) ((va_upA _ _ _ _).trans (by rw [show va_up (zq B (fun j => 10 + 1 + j) 0) (Int32.toNatClampNeg 0) (some (B.1 + 11)) = zq B (fun j => 10 + 1 + j) 1 from zq_s B (fun j => 10 + 1 + j) 0])) ?_
  refine z_iinc C [(1, .int 1), (0, .ref (B.1 + 8))] dX1_init_48 0 rfl (by decide) (by decide) rfl ?_
  refine z_goto C 26 dX1_init_51 (by decide) ?_
  refine z_iload_n C dX1_init_26 0 rfl rfl ?_
  refine z_aload_n C dX1_init_27 1 rfl rfl ?_
  refine z_get C (ci := 1) (o := 8) (j := 1) (v := .ref (B.1 + 10)) (fs := [.ref (B.1 + 9), .ref (B.1 + 10), .null, .null, .int 0, .int 0, .int 0]) zc_1 rfl (by decide) tw_169 rfl (by decide) rfl rfl dX1_init_28 ?_
  refine z_alen C (v := 6) 3 (o := 10) (by decide) rfl rfl rfl dX1_init_31 ?_
  refine z_icmp_ge C 54 dX1_init_32 (by decide) (fun hbr => absurd hbr (by decide)) (fun _ => ?_)
  refine z_aload_n C dX1_init_35 1 rfl rfl ?_
  refine z_get C (ci := 1) (o := 8) (j := 1) (v := .ref (B.1 + 10)) (fs := [.ref (B.1 + 9), .ref (B.1 + 10), .null, .null, .int 0, .int 0, .int 0]) zc_1 rfl (by decide) tw_169 rfl (by decide) rfl rfl dX1_init_36 ?_
  refine z_iload_n C dX1_init_39 0 rfl rfl ?_
  refine z_new C (ci := 0) (fs := [.int 0, .int 0, .int 0, .int 0]) tyX0 tyX0_ok zc_0 tw_110 tw_112 tw_10 rfl (by decide) (hG 12 (by decide) (by decide)) (Nat.le_of_ble_eq_true rfl) (Nat.le_of_ble_eq_true rfl) dX1_init_40 (n2 := 13) (a2 := 4) (w2 := 20) rfl rfl rfl ?_
  refine z_dup C dX1_init_43 rfl ?_
  refine z_callIN C hl (o := 12) (c_X0_init l B 13 (va_up (va_up G 8 (.inr (1, [.ref (B.1 + 9), .ref (B.1 + 10), .null, .null, .int 0, .int 0, .int 0]))) 10 (.inl (B.2.2.1 3, 6, .inr (.inr (.inr (.inr (zq B (fun j => 10 + 1 + j) 1))))))) 12) (zCN (nA := 0) C rfl rfl tw_115 tw_10 (by decide +kernel) (by decide +kernel) ⟨Nat.le_of_ble_eq_true rfl, Nat.le_of_ble_eq_true rfl⟩) rfl tw_114 (Nat.le_of_ble_eq_true rfl) dX1_init_44 ⟨Nat.le_of_ble_eq_true rfl, Nat.le_of_ble_eq_true rfl⟩ (n2 := 13) (a2 := 4) (w2 := 20) rfl rfl rfl ?_
  refine z_aast C 3 (o := 10) (v := 12) (by decide) rfl rfl (by decide) (hG 12 (by decide) (by decide)) rfl (by unfold vp_in; decide) dX1_init_47 ?_
  refine z_G (G2 := (va_up (va_up G 8 (.inr (1, [.ref (B.1 + 9), .ref (B.1 + 10), .null, .null, .int 0, .int 0, .int 0]))) 10 (.inl (B.2.2.1 3, 6, .inr (.inr (.inr (.inr (zq B (fun j => 10 + 1 + j) 2)))))))) ((va_upA _ _ _ _).trans (by rw [show va_up (zq B (fun j => 10 + 1 + j) 1) (Int32.toNatClampNeg 1) (some (B.1 + 12)) = zq B (fun j => 10 + 1 + j) 2 from zq_s B (fun j => 10 + 1 + j) 1])) ?_
  refine z_iinc C [(1, .int 2), (0, .ref (B.1 + 8))] dX1_init_48 0 rfl (by decide) (by decide) rfl ?_
  refine z_goto C 26 dX1_init_51 (by decide) ?_
  refine z_iload_n C dX1_init_26 0 rfl rfl ?_
  refine z_aload_n C dX1_init_27 1 rfl rfl ?_
  refine z_get C (ci := 1) (o := 8) (j := 1) (v := .ref (B.1 + 10)) (fs := [.ref (B.1 + 9), .ref (B.1 + 10), .null, .null, .int 0, .int 0, .int 0]) zc_1 rfl (by decide) tw_169 rfl (by decide) rfl rfl dX1_init_28 ?_
  refine z_alen C (v := 6) 3 (o := 10) (by decide) rfl rfl rfl dX1_init_31 ?_
  refine z_icmp_ge C 54 dX1_init_32 (by decide) (fun hbr => absurd hbr (by decide)) (fun _ => ?_)
  refine z_aload_n C dX1_init_35 1 rfl rfl ?_
  refine z_get C (ci := 1) (o := 8) (j := 1) (v := .ref (B.1 + 10)) (fs := [.ref (B.1 + 9), .ref (B.1 + 10), .null, .null, .int 0, .int 0, .int 0]) zc_1 rfl (by decide) tw_169 rfl (by decide) rfl rfl dX1_init_36 ?_
  refine z_iload_n C dX1_init_39 0 rfl rfl ?_
  refine z_new C (ci := 0) (fs := [.int 0, .int 0, .int 0, .int 0]) tyX0 tyX0_ok zc_0 tw_110 tw_112 tw_10 rfl (by decide) (hG 13 (by decide) (by decide)) (Nat.le_of_ble_eq_true rfl) (Nat.le_of_ble_eq_true rfl) dX1_init_40 (n2 := 14) (a2 := 5) (w2 := 24) rfl rfl rfl ?_
  refine z_dup C dX1_init_43 rfl ?_
  refine z_callIN C hl (o := 13) (c_X0_init l B 14 (va_up (va_up G 8 (.inr (1, [.ref (B.1 + 9), .ref (B.1 + 10), .null, .null, .int 0, .int 0, .int 0]))) 10 (.inl (B.2.2.1 3, 6, .inr (.inr (.inr (.inr (zq B (fun j => 10 + 1 + j) 2))))))) 13) (zCN (nA := 0) C rfl rfl tw_115 tw_10 (by decide +kernel) (by decide +kernel) ⟨Nat.le_of_ble_eq_true rfl, Nat.le_of_ble_eq_true rfl⟩) rfl tw_114 (Nat.le_of_ble_eq_true rfl) dX1_init_44 ⟨Nat.le_of_ble_eq_true rfl, Nat.le_of_ble_eq_true rfl⟩ (n2 := 14) (a2 := 5) (w2 := 24) rfl rfl rfl ?_
  refine z_aast C 3 (o := 10) (v := 13) (by decide) rfl rfl (by decide) (hG 13 (by decide) (by decide)) rfl (by unfold vp_in; decide) dX1_init_47 ?_
  refine z_G (G2 := (va_up (va_up G 8 (.inr (1, [.ref (B.1 + 9), .ref (B.1 + 10), .null, .null, .int 0, .int 0, .int 0]))) 10 (.inl (B.2.2.1 3, 6, .inr (.inr (.inr (.inr (zq B (fun j => 10 + 1 + j) 3)))))))) ((va_upA _ _ _ _).trans (by rw [show va_up (zq B (fun j => 10 + 1 + j) 2) (Int32.toNatClampNeg 2) (some (B.1 + 13)) = zq B (fun j => 10 + 1 + j) 3 from zq_s B (fun j => 10 + 1 + j) 2])) ?_
  refine z_iinc C [(1, .int 3), (0, .ref (B.1 + 8))] dX1_init_48 0 rfl (by decide) (by decide) rfl ?_
  refine z_goto C 26 dX1_init_51 (by decide) ?_
  refine z_iload_n C dX1_init_26 0 rfl rfl ?_
  refine z_aload_n C dX1_init_27 1 rfl rfl ?_
  refine z_get C (ci := 1) (o := 8) (j := 1) (v := .ref (B.1 + 10)) (fs := [.ref (B.1 + 9), .ref (B.1 + 10), .null, .null, .int 0, .int 0, .int 0]) zc_1 rfl (by decide) tw_169 rfl (by decide) rfl rfl dX1_init_28 ?_
  refine z_alen C (v := 6) 3 (o := 10) (by decide) rfl rfl rfl dX1_init_31 ?_
  refine z_icmp_ge C 54 dX1_init_32 (by decide) (fun hbr => absurd hbr (by decide)) (fun _ => ?_)
  refine z_aload_n C dX1_init_35 1 rfl rfl ?_
  refine z_get C (ci := 1) (o := 8) (j := 1) (v := .ref (B.1 + 10)) (fs := [.ref (B.1 + 9), .ref (B.1 + 10), .null, .null, .int 0, .int 0, .int 0]) zc_1 rfl (by decide) tw_169 rfl (by decide) rfl rfl dX1_init_36 ?_
  refine z_iload_n C dX1_init_39 0 rfl rfl ?_
  refine z_new C (ci := 0) (fs := [.int 0, .int 0, .int 0, .int 0]) tyX0 tyX0_ok zc_0 tw_110 tw_112 tw_10 rfl (by decide) (hG 14 (by decide) (by decide)) (Nat.le_of_ble_eq_true rfl) (Nat.le_of_ble_eq_true rfl) dX1_init_40 (n2 := 15) (a2 := 6) (w2 := 28) rfl rfl rfl ?_
  refine z_dup C dX1_init_43 rfl ?_
  refine z_callIN C hl (o := 14) (c_X0_init l B 15 (va_up (va_up G 8 (.inr (1, [.ref (B.1 + 9), .ref (B.1 + 10), .null, .null, .int 0, .int 0, .int 0]))) 10 (.inl (B.2.2.1 3, 6, .inr (.inr (.inr (.inr (zq B (fun j => 10 + 1 + j) 3))))))) 14) (zCN (nA := 0) C rfl rfl tw_115 tw_10 (by decide +kernel) (by decide +kernel) ⟨Nat.le_of_ble_eq_true rfl, Nat.le_of_ble_eq_true rfl⟩) rfl tw_114 (Nat.le_of_ble_eq_true rfl) dX1_init_44 ⟨Nat.le_of_ble_eq_true rfl, Nat.le_of_ble_eq_true rfl⟩ (n2 := 15) (a2 := 6) (w2 := 28) rfl rfl rfl ?_
  refine z_aast C 3 (o := 10) (v := 14) (by decide) rfl rfl (by decide) (hG 14 (by decide) (by decide)) rfl (by unfold vp_in; decide) dX1_init_47 ?_
  refine z_G (G2 := (va_up (va_up G 8 (.inr (1, [.ref (B.1 + 9), .ref (B.1 + 10), .null, .null, .int 0, .int 0, .int 0]))) 10 (.inl (B.2.2.1 3, 6, .inr (.inr (.inr (.inr (zq B (fun j => 10 + 1 + j) 4)))))))) ((va_upA _ _ _ _).trans (by rw [show va_up (zq B (fun j => 10 + 1 + j) 3) (Int32.toNatClampNeg 3) (some (B.1 + 14)) = zq B (fun j => 10 + 1 + j) 4 from zq_s B (fun j => 10 + 1 + j) 3])) ?_
  refine z_iinc C [(1, .int 4), (0, .ref (B.1 + 8))] dX1_init_48 0 rfl (by decide) (by decide) rfl ?_
  refine z_goto C 26 dX1_init_51 (by decide) ?_
  refine z_iload_n C dX1_init_26 0 rfl rfl ?_
  refine z_aload_n C dX1_init_27 1 rfl rfl ?_
  refine z_get C (ci := 1) (o := 8) (j := 1) (v := .ref (B.1 + 10)) (fs := [.ref (B.1 + 9), .ref (B.1 + 10), .null, .null, .int 0, .int 0, .int 0]) zc_1 rfl (by decide) tw_169 rfl (by decide) rfl rfl dX1_init_28 ?_
  refine z_alen C (v := 6) 3 (o := 10) (by decide) rfl rfl rfl dX1_init_31 ?_
  refine z_icmp_ge C 54 dX1_init_32 (by decide) (fun hbr => absurd hbr (by decide)) (fun _ => ?_)
  refine z_aload_n C dX1_init_35 1 rfl rfl ?_
  refine z_get C (ci := 1) (o := 8) (j := 1) (v := .ref (B.1 + 10)) (fs := [.ref (B.1 + 9), .ref (B.1 + 10), .null, .null, .int 0, .int 0, .int 0]) zc_1 rfl (by decide) tw_169 rfl (by decide) rfl rfl dX1_init_36 ?_
  refine z_iload_n C dX1_init_39 0 rfl rfl ?_
  refine z_new C (ci := 0) (fs := [.int 0, .int 0, .int 0, .int 0]) tyX0 tyX0_ok zc_0 tw_110 tw_112 tw_10 rfl (by decide) (hG 15 (by decide) (by decide)) (Nat.le_of_ble_eq_true rfl) (Nat.le_of_ble_eq_true rfl) dX1_init_40 (n2 := 16) (a2 := 7) (w2 := 32) rfl rfl rfl ?_
  refine z_dup C dX1_init_43 rfl ?_
  refine z_callIN C hl (o := 15) (c_X0_init l B 16 (va_up (va_up G 8 (.inr (1, [.ref (B.1 + 9), .ref (B.1 + 10), .null, .null, .int 0, .int 0, .int 0]))) 10 (.inl (B.2.2.1 3, 6, .inr (.inr (.inr (.inr (zq B (fun j => 10 + 1 + j) 4))))))) 15) (zCN (nA := 0) C rfl rfl tw_115 tw_10 (by decide +kernel) (by decide +kernel) ⟨Nat.le_of_ble_eq_true rfl, Nat.le_of_ble_eq_true rfl⟩) rfl tw_114 (Nat.le_of_ble_eq_true rfl) dX1_init_44 ⟨Nat.le_of_ble_eq_true rfl, Nat.le_of_ble_eq_true rfl⟩ (n2 := 16) (a2 := 7) (w2 := 32) rfl rfl rfl ?_
  refine z_aast C 3 (o := 10) (v := 15) (by decide) rfl rfl (by decide) (hG 15 (by decide) (by decide)) rfl (by unfold vp_in; decide) dX1_init_47 ?_
  refine z_G (G2 := (va_up (va_up G 8 (.inr (1, [.ref (B.1 + 9), .ref (B.1 + 10), .null, .null, .int 0, .int 0, .int 0]))) 10 (.inl (B.2.2.1 3, 6, .inr (.inr (.inr (.inr (zq B (fun j => 10 + 1 + j) 5)))))))) ((va_upA _ _ _ _).trans (by rw [show va_up (zq B (fun j => 10 + 1 + j) 4) (Int32.toNatClampNeg 4) (some (B.1 + 15)) = zq B (fun j => 10 + 1 + j) 5 from zq_s B (fun j => 10 + 1 + j) 4])) ?_
  refine z_iinc C [(1, .int 5), (0, .ref (B.1 + 8))] dX1_init_48 0 rfl (by decide) (by decide) rfl ?_
  refine z_goto C 26 dX1_init_51 (by decide) ?_
  refine z_iload_n C dX1_init_26 0 rfl rfl ?_
  refine z_aload_n C dX1_init_27 1 rfl rfl ?_
  refine z_get C (ci := 1) (o := 8) (j := 1) (v := .ref (B.1 + 10)) (fs := [.ref (B.1 + 9), .ref (B.1 + 10), .null, .null, .int 0, .int 0, .int 0]) zc_1 rfl (by decide) tw_169 rfl (by decide) rfl rfl dX1_init_28 ?_
  refine z_alen C (v := 6) 3 (o := 10) (by decide) rfl rfl rfl dX1_init_31 ?_
  refine z_icmp_ge C 54 dX1_init_32 (by decide) (fun hbr => absurd hbr (by decide)) (fun _ => ?_)
  refine z_aload_n C dX1_init_35 1 rfl rfl ?_
  refine z_get C (ci := 1) (o := 8) (j := 1) (v := .ref (B.1 + 10)) (fs := [.ref (B.1 + 9), .ref (B.1 + 10), .null, .null, .int 0, .int 0, .int 0]) zc_1 rfl (by decide) tw_169 rfl (by decide) rfl rfl dX1_init_36 ?_
  refine z_iload_n C dX1_init_39 0 rfl rfl ?_
  refine z_new C (ci := 0) (fs := [.int 0, .int 0, .int 0, .int 0]) tyX0 tyX0_ok zc_0 tw_110 tw_112 tw_10 rfl (by decide) (hG 16 (by decide) (by decide)) (Nat.le_of_ble_eq_true rfl) (Nat.le_of_ble_eq_true rfl) dX1_init_40 (n2 := 17) (a2 := 8) (w2 := 36) rfl rfl rfl ?_
  refine z_dup C dX1_init_43 rfl ?_
  refine z_callIN C hl (o := 16) (c_X0_init l B 17 (va_up (va_up G 8 (.inr (1, [.ref (B.1 + 9), .ref (B.1 + 10), .null, .null, .int 0, .int 0, .int 0]))) 10 (.inl (B.2.2.1 3, 6, .inr (.inr (.inr (.inr (zq B (fun j => 10 + 1 + j) 5))))))) 16) (zCN (nA := 0) C rfl rfl tw_115 tw_10 (by decide +kernel) (by decide +kernel) ⟨Nat.le_of_ble_eq_true rfl, Nat.le_of_ble_eq_true rfl⟩) rfl tw_114 (Nat.le_of_ble_eq_true rfl) dX1_init_44 ⟨Nat.le_of_ble_eq_true rfl, Nat.le_of_ble_eq_true rfl⟩ (n2 := 17) (a2 := 8) (w2 := 36) rfl rfl rfl ?_
  refine z_aast C 3 (o := 10) (v := 16) (by decide) rfl rfl (by decide) (hG 16 (by decide) (by decide)) rfl (by unfold vp_in; decide) dX1_init_47 ?_
  refine z_G (G2 := (va_up (va_up G 8 (.inr (1, [.ref (B.1 + 9), .ref (B.1 + 10), .null, .null, .int 0, .int 0, .int 0]))) 10 (.inl (B.2.2.1 3, 6, .inr (.inr (.inr (.inr (zq B (fun j => 10 + 1 + j) 6)))))))) ((va_upA _ _ _ _).trans (by rw [show va_up (zq B (fun j => 10 + 1 + j) 5) (Int32.toNatClampNeg 5) (some (B.1 + 16)) = zq B (fun j => 10 + 1 + j) 6 from zq_s B (fun j => 10 + 1 + j) 5])) ?_
  refine z_fill ?_
  refine z_G (G2 := (va_up G 8 (.inr (1, [.ref (B.1 + 9), .ref (B.1 + 10), .null, .null, .int 0, .int 0, .int 0])))) (va_upI _ _ _ (hG 10 (by decide) (by decide))) ?_
  refine z_iinc C [(1, .int 6), (0, .ref (B.1 + 8))] dX1_init_48 0 rfl (by decide) (by decide) rfl ?_
  refine z_goto C 26 dX1_init_51 (by decide) ?_
  refine z_iload_n C dX1_init_26 0 rfl rfl ?_
  refine z_aload_n C dX1_init_27 1 rfl rfl ?_
  refine z_get C (ci := 1) (o := 8) (j := 1) (v := .ref (B.1 + 10)) (fs := [.ref (B.1 + 9), .ref (B.1 + 10), .null, .null, .int 0, .int 0, .int 0]) zc_1 rfl (by decide) tw_169 rfl (by decide) rfl rfl dX1_init_28 ?_
  refine z_alen C (v := 6) 3 (o := 10) (by decide) (hG 10 (by decide) (by decide)) rfl rfl dX1_init_31 ?_
  refine z_icmp_ge C 54 dX1_init_32 (by decide) (fun _ => ?_) (fun hbr => absurd (by decide) hbr)
  refine z_aload_n C dX1_init_54 1 rfl rfl ?_
  refine z_bipush C dX1_init_55 kb_6 ?_
  refine z_GG (G2 := (va_up (va_up G 8 (.inr (1, [.ref (B.1 + 9), .ref (B.1 + 10), .null, .null, .int 0, .int 0, .int 0]))) 17 (.inl (B.2.2.1 5, 6, .inr (.inr (.inr (.inr (fun _ => none)))))))) (fun k hk => (va_up_ne _ _ (Nat.ne_of_lt hk)).symm) ?_
  refine z_anew C 5 (Cn := RX4) tw_138 (by decide) rfl (by decide) (N' := 6) (by decide) (by decide) rfl (Nat.le_of_ble_eq_true rfl) (Nat.le_of_ble_eq_true rfl) dX1_init_57 (n2 := 18) (a2 := 9) (w2 := 42) rfl rfl rfl ?_
  refine z_G (G2 := (va_up (va_up G 8 (.inr (1, [.ref (B.1 + 9), .ref (B.1 + 10), .null, .null, .int 0, .int 0, .int 0]))) 17 (.inl (B.2.2.1 5, 6, .inr (.inr (.inr (.inr (zq B (fun j => 17 + 1 + j) 0)))))))) (by rw [← zq_0]) ?_
  refine z_putF C hnm (ci := 1) (o := 8) (j := 2) (fs := [.ref (B.1 + 9), .ref (B.1 + 10), .null, .null, .int 0, .int 0, .int 0]) (ty := tyX1 2) tyX1 tyX1_ok nmX1 zc_1 rfl (by decide) tw_170 rfl rfl rfl (by decide +kernel) rfl rfl (by decide) rfl (Nat.le_of_ble_eq_true rfl) dX1_init_60 ?_
  refine z_G (G2 := (va_up (va_up G 8 (.inr (1, [.ref (B.1 + 9), .ref (B.1 + 10), .ref (B.1 + 17), .null, .int 0, .int 0, .int 0]))) 17 (.inl (B.2.2.1 5, 6, .inr (.inr (.inr (.inr (zq B (fun j => 17 + 1 + j) 0)))))))) (va_upB _ _ _ _ _ _ (by decide)) ?_
  refine z_iconst C dX1_init_63 ki_0 ?_
  refine z_istore_n C [(1, .int 0), (0, .ref (B.1 + 8))] dX1_init_64 rfl (by decide) rfl ?_
  refine z_iload_n C dX1_init_65 0 rfl rfl ?_
  refine z_aload_n C dX1_init_66 1 rfl rfl ?_
  refine z_get C (ci := 1) (o := 8) (j := 2) (v := .ref (B.1 + 17)) (fs := [.ref (B.1 + 9), .ref (B.1 + 10), .ref (B.1 + 17), .null, .int 0, .int 0, .int 0]) zc_1 rfl (by decide) tw_170 rfl (by decide) rfl rfl dX1_init_67 ?_
  refine z_alen C (v := 6) 5 (o := 17) (by decide) rfl rfl rfl dX1_init_70 ?_
  refine z_icmp_ge C 93 dX1_init_71 (by decide) (fun hbr => absurd hbr (by decide)) (fun _ => ?_)
  refine z_aload_n C dX1_init_74 1 rfl rfl ?_
  refine z_get C (ci := 1) (o := 8) (j := 2) (v := .ref (B.1 + 17)) (fs := [.ref (B.1 + 9), .ref (B.1 + 10), .ref (B.1 + 17), .null, .int 0, .int 0, .int 0]) zc_1 rfl (by decide) tw_170 rfl (by decide) rfl rfl dX1_init_75 ?_
  refine z_iload_n C dX1_init_78 0 rfl rfl ?_
  refine z_new C (ci := 4) (fs := [.int 0, .int 0, .int 0, .int 0]) tyX4 tyX4_ok zc_4 tw_138 tw_140 tw_11 rfl (by decide) (hG 18 (by decide) (by decide)) (Nat.le_of_ble_eq_true rfl) (Nat.le_of_ble_eq_true rfl) dX1_init_79 (n2 := 19) (a2 := 10) (w2 := 46) rfl rfl rfl ?_
  refine z_dup C dX1_init_82 rfl ?_
  refine z_callIN C hl (o := 18) (c_X4_init l B 19 (va_up (va_up G 8 (.inr (1, [.ref (B.1 + 9), .ref (B.1 + 10), .ref (B.1 + 17), .null, .int 0, .int 0, .int 0]))) 17 (.inl (B.2.2.1 5, 6, .inr (.inr (.inr (.inr (zq B (fun j => 17 + 1 + j) 0))))))) 18) (zCN (nA := 0) C rfl rfl tw_143 tw_11 (by decide +kernel) (by decide +kernel) ⟨Nat.le_of_ble_eq_true rfl, Nat.le_of_ble_eq_true rfl⟩) rfl tw_142 (Nat.le_of_ble_eq_true rfl) dX1_init_83 ⟨Nat.le_of_ble_eq_true rfl, Nat.le_of_ble_eq_true rfl⟩ (n2 := 19) (a2 := 10) (w2 := 46) rfl rfl rfl ?_
  refine z_aast C 5 (o := 17) (v := 18) (by decide) rfl rfl (by decide) (hG 18 (by decide) (by decide)) rfl (by unfold vp_in; decide) dX1_init_86 ?_
  refine z_G (G2 := (va_up (va_up G 8 (.inr (1, [.ref (B.1 + 9), .ref (B.1 + 10), .ref (B.1 + 17), .null, .int 0, .int 0, .int 0]))) 17 (.inl (B.2.2.1 5, 6, .inr (.inr (.inr (.inr (zq B (fun j => 17 + 1 + j) 1)))))))) ((va_upA _ _ _ _).trans (by rw [show va_up (zq B (fun j => 17 + 1 + j) 0) (Int32.toNatClampNeg 0) (some (B.1 + 18)) = zq B (fun j => 17 + 1 + j) 1 from zq_s B (fun j => 17 + 1 + j) 0])) ?_
  refine z_iinc C [(1, .int 1), (0, .ref (B.1 + 8))] dX1_init_87 0 rfl (by decide) (by decide) rfl ?_
  refine z_goto C 65 dX1_init_90 (by decide) ?_
  refine z_iload_n C dX1_init_65 0 rfl rfl ?_
  refine z_aload_n C dX1_init_66 1 rfl rfl ?_
  refine z_get C (ci := 1) (o := 8) (j := 2) (v := .ref (B.1 + 17)) (fs := [.ref (B.1 + 9), .ref (B.1 + 10), .ref (B.1 + 17), .null, .int 0, .int 0, .int 0]) zc_1 rfl (by decide) tw_170 rfl (by decide) rfl rfl dX1_init_67 ?_
  refine z_alen C (v := 6) 5 (o := 17) (by decide) rfl rfl rfl dX1_init_70 ?_
  refine z_icmp_ge C 93 dX1_init_71 (by decide) (fun hbr => absurd hbr (by decide)) (fun _ => ?_)
  refine z_aload_n C dX1_init_74 1 rfl rfl ?_
  refine z_get C (ci := 1) (o := 8) (j := 2) (v := .ref (B.1 + 17)) (fs := [.ref (B.1 + 9), .ref (B.1 + 10), .ref (B.1 + 17), .null, .int 0, .int 0, .int 0]) zc_1 rfl (by decide) tw_170 rfl (by decide) rfl rfl dX1_init_75 ?_
  refine z_iload_n C dX1_init_78 0 rfl rfl ?_
  refine z_new C (ci := 4) (fs := [.int 0, .int 0, .int 0, .int 0]) tyX4 tyX4_ok zc_4 tw_138 tw_140 tw_11 rfl (by decide) (hG 19 (by decide) (by decide)) (Nat.le_of_ble_eq_true rfl) (Nat.le_of_ble_eq_true rfl) dX1_init_79 (n2 := 20) (a2 := 11) (w2 := 50) rfl rfl rfl ?_
  refine z_dup C dX1_init_82 rfl ?_
  refine z_callIN C hl (o := 19) (c_X4_init l B 20 (va_up (va_up G 8 (.inr (1, [.ref (B.1 + 9), .ref (B.1 + 10), .ref (B.1 + 17), .null, .int 0, .int 0, .int 0]))) 17 (.inl (B.2.2.1 5, 6, .inr (.inr (.inr (.inr (zq B (fun j => 17 + 1 + j) 1))))))) 19) (zCN (nA := 0) C rfl rfl tw_143 tw_11 (by decide +kernel) (by decide +kernel) ⟨Nat.le_of_ble_eq_true rfl, Nat.le_of_ble_eq_true rfl⟩) rfl tw_142 (Nat.le_of_ble_eq_true rfl) dX1_init_83 ⟨Nat.le_of_ble_eq_true rfl, Nat.le_of_ble_eq_true rfl⟩ (n2 := 20) (a2 := 11) (w2 := 50) rfl rfl rfl ?_
  refine z_aast C 5 (o := 17) (v := 19) (by decide) rfl rfl (by decide) (hG 19 (by decide) (by decide)) rfl (by unfold vp_in; decide) dX1_init_86 ?_
  refine z_G (G2 := (va_up (va_up G 8 (.inr (1, [.ref (B.1 + 9), .ref (B.1 + 10), .ref (B.1 + 17), .null, .int 0, .int 0, .int 0]))) 17 (.inl (B.2.2.1 5, 6, .inr (.inr (.inr (.inr (zq B (fun j => 17 + 1 + j) 2)))))))) ((va_upA _ _ _ _).trans (by rw [show va_up (zq B (fun j => 17 + 1 + j) 1) (Int32.toNatClampNeg 1) (some (B.1 + 19)) = zq B (fun j => 17 + 1 + j) 2 from zq_s B (fun j => 17 + 1 + j) 1])) ?_
  refine z_iinc C [(1, .int 2), (0, .ref (B.1 + 8))] dX1_init_87 0 rfl (by decide) (by decide) rfl ?_
  refine z_goto C 65 dX1_init_90 (by decide) ?_
  refine z_iload_n C dX1_init_65 0 rfl rfl ?_
  refine z_aload_n C dX1_init_66 1 rfl rfl ?_
  refine z_get C (ci := 1) (o := 8) (j := 2) (v := .ref (B.1 + 17)) (fs := [.ref (B.1 + 9), .ref (B.1 + 10), .ref (B.1 + 17), .null, .int 0, .int 0, .int 0]) zc_1 rfl (by decide) tw_170 rfl (by decide) rfl rfl dX1_init_67 ?_
  refine z_alen C (v := 6) 5 (o := 17) (by decide) rfl rfl rfl dX1_init_70 ?_
  refine z_icmp_ge C 93 dX1_init_71 (by decide) (fun hbr => absurd hbr (by decide)) (fun _ => ?_)
  refine z_aload_n C dX1_init_74 1 rfl rfl ?_
  refine z_get C (ci := 1) (o := 8) (j := 2) (v := .ref (B.1 + 17)) (fs := [.ref (B.1 + 9), .ref (B.1 + 10), .ref (B.1 + 17), .null, .int 0, .int 0, .int 0]) zc_1 rfl (by decide) tw_170 rfl (by decide) rfl rfl dX1_init_75 ?_
  refine z_iload_n C dX1_init_78 0 rfl rfl ?_
  refine z_new C (ci := 4) (fs := [.int 0, .int 0, .int 0, .int 0]) tyX4 tyX4_ok zc_4 tw_138 tw_140 tw_11 rfl (by decide) (hG 20 (by decide) (by decide)) (Nat.le_of_ble_eq_true rfl) (Nat.le_of_ble_eq_true rfl) dX1_init_79 (n2 := 21) (a2 := 12) (w2 := 54) rfl rfl rfl ?_
  refine z_dup C dX1_init_82 rfl ?_
  refine z_callIN C hl (o := 20) (c_X4_init l B 21 (va_up (va_up G 8 (.inr (1, [.ref (B.1 + 9), .ref (B.1 + 10), .ref (B.1 + 17), .null, .int 0, .int 0, .int 0]))) 17 (.inl (B.2.2.1 5, 6, .inr (.inr (.inr (.inr (zq B (fun j => 17 + 1 + j) 2))))))) 20) (zCN (nA := 0) C rfl rfl tw_143 tw_11 (by decide +kernel) (by decide +kernel) ⟨Nat.le_of_ble_eq_true rfl, Nat.le_of_ble_eq_true rfl⟩) rfl tw_142 (Nat.le_of_ble_eq_true rfl) dX1_init_83 ⟨Nat.le_of_ble_eq_true rfl, Nat.le_of_ble_eq_true rfl⟩ (n2 := 21) (a2 := 12) (w2 := 54) rfl rfl rfl ?_
  refine z_aast C 5 (o := 17) (v := 20) (by decide) rfl rfl (by decide) (hG 20 (by decide) (by decide)) rfl (by unfold vp_in; decide) dX1_init_86 ?_
  refine z_G (G2 := (va_up (va_up G 8 (.inr (1, [.ref (B.1 + 9), .ref (B.1 + 10), .ref (B.1 + 17), .null, .int 0, .int 0, .int 0]))) 17 (.inl (B.2.2.1 5, 6, .inr (.inr (.inr (.inr (zq B (fun j => 17 + 1 + j) 3)))))))) ((va_upA _ _ _ _).trans (by rw [show va_up (zq B (fun j => 17 + 1 + j) 2) (Int32.toNatClampNeg 2) (some (B.1 + 20)) = zq B (fun j => 17 + 1 + j) 3 from zq_s B (fun j => 17 + 1 + j) 2])) ?_
  refine z_iinc C [(1, .int 3), (0, .ref (B.1 + 8))] dX1_init_87 0 rfl (by decide) (by decide) rfl ?_
  refine z_goto C 65 dX1_init_90 (by decide) ?_
  refine z_iload_n C dX1_init_65 0 rfl rfl ?_
  refine z_aload_n C dX1_init_66 1 rfl rfl ?_
  refine z_get C (ci := 1) (o := 8) (j := 2) (v := .ref (B.1 + 17)) (fs := [.ref (B.1 + 9), .ref (B.1 + 10), .ref (B.1 + 17), .null, .int 0, .int 0, .int 0]) zc_1 rfl (by decide) tw_170 rfl (by decide) rfl rfl dX1_init_67 ?_
  refine z_alen C (v := 6) 5 (o := 17) (by decide) rfl rfl rfl dX1_init_70 ?_
  refine z_icmp_ge C 93 dX1_init_71 (by decide) (fun hbr => absurd hbr (by decide)) (fun _ => ?_)
  refine z_aload_n C dX1_init_74 1 rfl rfl ?_
  refine z_get C (ci := 1) (o := 8) (j := 2) (v := .ref (B.1 + 17)) (fs := [.ref (B.1 + 9), .ref (B.1 + 10), .ref (B.1 + 17), .null, .int 0, .int 0, .int 0]) zc_1 rfl (by decide) tw_170 rfl (by decide) rfl rfl dX1_init_75 ?_
  refine z_iload_n C dX1_init_78 0 rfl rfl ?_
  refine z_new C (ci := 4) (fs := [.int 0, .int 0, .int 0, .int 0]) tyX4 tyX4_ok zc_4 tw_138 tw_140 tw_11 rfl (by decide) (hG 21 (by decide) (by decide)) (Nat.le_of_ble_eq_true rfl) (Nat.le_of_ble_eq_true rfl) dX1_init_79 (n2 := 22) (a2 := 13) (w2 := 58) rfl rfl rfl ?_
  refine z_dup C dX1_init_82 rfl ?_
  refine z_callIN C hl (o := 21) (c_X4_init l B 22 (va_up (va_up G 8 (.inr (1, [.ref (B.1 + 9), .ref (B.1 + 10), .ref (B.1 + 17), .null, .int 0, .int 0, .int 0]))) 17 (.inl (B.2.2.1 5, 6, .inr (.inr (.inr (.inr (zq B (fun j => 17 + 1 + j) 3))))))) 21) (zCN (nA := 0) C rfl rfl tw_143 tw_11 (by decide +kernel) (by decide +kernel) ⟨Nat.le_of_ble_eq_true rfl, Nat.le_of_ble_eq_true rfl⟩) rfl tw_142 (Nat.le_of_ble_eq_true rfl) dX1_init_83 ⟨Nat.le_of_ble_eq_true rfl, Nat.le_of_ble_eq_true rfl⟩ (n2 := 22) (a2 := 13) (w2 := 58) rfl rfl rfl ?_
  refine z_aast C 5 (o := 17) (v := 21) (by decide) rfl rfl (by decide) (hG 21 (by decide) (by decide)) rfl (by unfold vp_in; decide) dX1_init_86 ?_
  refine z_G (G2 := (va_up (va_up G 8 (.inr (1, [.ref (B.1 + 9), .ref (B.1 + 10), .ref (B.1 + 17), .null, .int 0, .int 0, .int 0]))) 17 (.inl (B.2.2.1 5, 6, .inr (.inr (.inr (.inr (zq B (fun j => 17 + 1 + j) 4)))))))) ((va_upA _ _ _ _).trans (by rw [show va_up (zq B (fun j => 17 + 1 + j) 3) (Int32.toNatClampNeg 3) (some (B.1 + 21)) = zq B (fun j => 17 + 1 + j) 4 from zq_s B (fun j => 17 + 1 + j) 3])) ?_
  refine z_iinc C [(1, .int 4), (0, .ref (B.1 + 8))] dX1_init_87 0 rfl (by decide) (by decide) rfl ?_
  refine z_goto C 65 dX1_init_90 (by decide) ?_
  refine z_iload_n C dX1_init_65 0 rfl rfl ?_
  refine z_aload_n C dX1_init_66 1 rfl rfl ?_
  refine z_get C (ci := 1) (o := 8) (j := 2) (v := .ref (B.1 + 17)) (fs := [.ref (B.1 + 9), .ref (B.1 + 10), .ref (B.1 + 17), .null, .int 0, .int 0, .int 0]) zc_1 rfl (by decide) tw_170 rfl (by decide) rfl rfl dX1_init_67 ?_
  refine z_alen C (v := 6) 5 (o := 17) (by decide) rfl rfl rfl dX1_init_70 ?_
  refine z_icmp_ge C 93 dX1_init_71 (by decide) (fun hbr => absurd hbr (by decide)) (fun _ => ?_)
  refine z_aload_n C dX1_init_74 1 rfl rfl ?_
  refine z_get C (ci := 1) (o := 8) (j := 2) (v := .ref (B.1 + 17)) (fs := [.ref (B.1 + 9), .ref (B.1 + 10), .ref (B.1 + 17), .null, .int 0, .int 0, .int 0]) zc_1 rfl (by decide) tw_170 rfl (by decide) rfl rfl dX1_init_75 ?_
  refine z_iload_n C dX1_init_78 0 rfl rfl ?_
  refine z_new C (ci := 4) (fs := [.int 0, .int 0, .int 0, .int 0]) tyX4 tyX4_ok zc_4 tw_138 tw_140 tw_11 rfl (by decide) (hG 22 (by decide) (by decide)) (Nat.le_of_ble_eq_true rfl) (Nat.le_of_ble_eq_true rfl) dX1_init_79 (n2 := 23) (a2 := 14) (w2 := 62) rfl rfl rfl ?_
  refine z_dup C dX1_init_82 rfl ?_
  refine z_callIN C hl (o := 22) (c_X4_init l B 23 (va_up (va_up G 8 (.inr (1, [.ref (B.1 + 9), .ref (B.1 + 10), .ref (B.1 + 17), .null, .int 0, .int 0, .int 0]))) 17 (.inl (B.2.2.1 5, 6, .inr (.inr (.inr (.inr (zq B (fun j => 17 + 1 + j) 4))))))) 22) (zCN (nA := 0) C rfl rfl tw_143 tw_11 (by decide +kernel) (by decide +kernel) ⟨Nat.le_of_ble_eq_true rfl, Nat.le_of_ble_eq_true rfl⟩) rfl tw_142 (Nat.le_of_ble_eq_true rfl) dX1_init_83 ⟨Nat.le_of_ble_eq_true rfl, Nat.le_of_ble_eq_true rfl⟩ (n2 := 23) (a2 := 14) (w2 := 62) rfl rfl rfl ?_
  refine z_aast C 5 (o := 17) (v := 22) (by decide) rfl rfl (by decide) (hG 22 (by decide) (by decide)) rfl (by unfold vp_in; decide) dX1_init_86 ?_
  refine z_G (G2 := (va_up (va_up G 8 (.inr (1, [.ref (B.1 + 9), .ref (B.1 + 10), .ref (B.1 + 17), .null, .int 0, .int 0, .int 0]))) 17 (.inl (B.2.2.1 5, 6, .inr (.inr (.inr (.inr (zq B (fun j => 17 + 1 + j) 5)))))))) ((va_upA _ _ _ _).trans (by rw [show va_up (zq B (fun j => 17 + 1 + j) 4) (Int32.toNatClampNeg 4) (some (B.1 + 22)) = zq B (fun j => 17 + 1 + j) 5 from zq_s B (fun j => 17 + 1 + j) 4])) ?_
  refine z_iinc C [(1, .int 5), (0, .ref (B.1 + 8))] dX1_init_87 0 rfl (by decide) (by decide) rfl ?_
  refine z_goto C 65 dX1_init_90 (by decide) ?_
  refine z_iload_n C dX1_init_65 0 rfl rfl ?_
  refine z_aload_n C dX1_init_66 1 rfl rfl ?_
  refine z_get C (ci := 1) (o := 8) (j := 2) (v := .ref (B.1 + 17)) (fs := [.ref (B.1 + 9), .ref (B.1 + 10), .ref (B.1 + 17), .null, .int 0, .int 0, .int 0]) zc_1 rfl (by decide) tw_170 rfl (by decide) rfl rfl dX1_init_67 ?_
  refine z_alen C (v := 6) 5 (o := 17) (by decide) rfl rfl rfl dX1_init_70 ?_
  refine z_icmp_ge C 93 dX1_init_71 (by decide) (fun hbr => absurd hbr (by decide)) (fun _ => ?_)
  refine z_aload_n C dX1_init_74 1 rfl rfl ?_
  refine z_get C (ci := 1) (o := 8) (j := 2) (v := .ref (B.1 + 17)) (fs := [.ref (B.1 + 9), .ref (B.1 + 10), .ref (B.1 + 17), .null, .int 0, .int 0, .int 0]) zc_1 rfl (by decide) tw_170 rfl (by decide) rfl rfl dX1_init_75 ?_
  refine z_iload_n C dX1_init_78 0 rfl rfl ?_
  refine z_new C (ci := 4) (fs := [.int 0, .int 0, .int 0, .int 0]) tyX4 tyX4_ok zc_4 tw_138 tw_140 tw_11 rfl (by decide) (hG 23 (by decide) (by decide)) (Nat.le_of_ble_eq_true rfl) (Nat.le_of_ble_eq_true rfl) dX1_init_79 (n2 := 24) (a2 := 15) (w2 := 66) rfl rfl rfl ?_
  refine z_dup C dX1_init_82 rfl ?_
  refine z_callIN C hl (o := 23) (c_X4_init l B 24 (va_up (va_up G 8 (.inr (1, [.ref (B.1 + 9), .ref (B.1 + 10), .ref (B.1 + 17), .null, .int 0, .int 0, .int 0]))) 17 (.inl (B.2.2.1 5, 6, .inr (.inr (.inr (.inr (zq B (fun j => 17 + 1 + j) 5))))))) 23) (zCN (nA := 0) C rfl rfl tw_143 tw_11 (by decide +kernel) (by decide +kernel) ⟨Nat.le_of_ble_eq_true rfl, Nat.le_of_ble_eq_true rfl⟩) rfl tw_142 (Nat.le_of_ble_eq_true rfl) dX1_init_83 ⟨Nat.le_of_ble_eq_true rfl, Nat.le_of_ble_eq_true rfl⟩ (n2 := 24) (a2 := 15) (w2 := 66) rfl rfl rfl ?_
  refine z_aast C 5 (o := 17) (v := 23) (by decide) rfl rfl (by decide) (hG 23 (by decide) (by decide)) rfl (by unfold vp_in; decide) dX1_init_86 ?_
  refine z_G (G2 := (va_up (va_up G 8 (.inr (1, [.ref (B.1 + 9), .ref (B.1 + 10), .ref (B.1 + 17), .null, .int 0, .int 0, .int 0]))) 17 (.inl (B.2.2.1 5, 6, .inr (.inr (.inr (.inr (zq B (fun j => 17 + 1 + j) 6)))))))) ((va_upA _ _ _ _).trans (by rw [show va_up (zq B (fun j => 17 + 1 + j) 5) (Int32.toNatClampNeg 5) (some (B.1 + 23)) = zq B (fun j => 17 + 1 + j) 6 from zq_s B (fun j => 17 + 1 + j) 5])) ?_
  refine z_fill ?_
  refine z_G (G2 := (va_up G 8 (.inr (1, [.ref (B.1 + 9), .ref (B.1 + 10), .ref (B.1 + 17), .null, .int 0, .int 0, .int 0])))) (va_upI _ _ _ (hG 17 (by decide) (by decide))) ?_
  refine z_iinc C [(1, .int 6), (0, .ref (B.1 + 8))] dX1_init_87 0 rfl (by decide) (by decide) rfl ?_
  refine z_goto C 65 dX1_init_90 (by decide) ?_
  refine z_iload_n C dX1_init_65 0 rfl rfl ?_
  refine z_aload_n C dX1_init_66 1 rfl rfl ?_
  refine z_get C (ci := 1) (o := 8) (j := 2) (v := .ref (B.1 + 17)) (fs := [.ref (B.1 + 9), .ref (B.1 + 10), .ref (B.1 + 17), .null, .int 0, .int 0, .int 0]) zc_1 rfl (by decide) tw_170 rfl (by decide) rfl rfl dX1_init_67 ?_
  refine z_alen C (v := 6) 5 (o := 17) (by decide) (hG 17 (by decide) (by decide)) rfl rfl dX1_init_70 ?_
  refine z_icmp_ge C 93 dX1_init_71 (by decide) (fun _ => ?_) (fun hbr => absurd (by decide) hbr)
  refine z_aload_n C dX1_init_93 1 rfl rfl ?_
  refine z_bipush C dX1_init_94 kb_8 ?_
  refine z_GG (G2 := (va_up (va_up G 8 (.inr (1, [.ref (B.1 + 9), .ref (B.1 + 10), .ref (B.1 + 17), .null, .int 0, .int 0, .int 0]))) 24 (.inl (B.2.2.1 7, 8, .inr (.inr (.inr (.inr (fun _ => none)))))))) (fun k hk => (va_up_ne _ _ (Nat.ne_of_lt hk)).symm) ?_
  refine z_anew C 7 (Cn := RX8) tw_77 (by decide) rfl (by decide) (N' := 8) (by decide) (by decide) rfl (Nat.le_of_ble_eq_true rfl) (Nat.le_of_ble_eq_true rfl) dX1_init_96 (n2 := 25) (a2 := 16) (w2 := 74) rfl rfl rfl ?_
  refine z_G (G2 := (va_up (va_up G 8 (.inr (1, [.ref (B.1 + 9), .ref (B.1 + 10), .ref (B.1 + 17), .null, .int 0, .int 0, .int 0]))) 24 (.inl (B.2.2.1 7, 8, .inr (.inr (.inr (.inr (zq B (fun j => 24 + 1 + j) 0)))))))) (by rw [← zq_0]) ?_
  refine z_putF C hnm (ci := 1) (o := 8) (j := 3) (fs := [.ref (B.1 + 9), .ref (B.1 + 10), .ref (B.1 + 17), .null, .int 0, .int 0, .int 0]) (ty := tyX1 3) tyX1 tyX1_ok nmX1 zc_1 rfl (by decide) tw_171 rfl rfl rfl (by decide +kernel) rfl rfl (by decide) rfl (Nat.le_of_ble_eq_true rfl) dX1_init_99 ?_
  refine z_G (G2 := (va_up (va_up G 8 (.inr (1, [.ref (B.1 + 9), .ref (B.1 + 10), .ref (B.1 + 17), .ref (B.1 + 24), .int 0, .int 0, .int 0]))) 24 (.inl (B.2.2.1 7, 8, .inr (.inr (.inr (.inr (zq B (fun j => 24 + 1 + j) 0)))))))) (va_upB _ _ _ _ _ _ (by decide)) ?_
  refine z_iconst C dX1_init_102 ki_0 ?_
  refine z_istore_n C [(1, .int 0), (0, .ref (B.1 + 8))] dX1_init_103 rfl (by decide) rfl ?_
  refine z_iload_n C dX1_init_104 0 rfl rfl ?_
  refine z_aload_n C dX1_init_105 1 rfl rfl ?_
  refine z_get C (ci := 1) (o := 8) (j := 3) (v := .ref (B.1 + 24)) (fs := [.ref (B.1 + 9), .ref (B.1 + 10), .ref (B.1 + 17), .ref (B.1 + 24), .int 0, .int 0, .int 0]) zc_1 rfl (by decide) tw_171 rfl (by decide) rfl rfl dX1_init_106 ?_
  refine z_alen C (v := 8) 7 (o := 24) (by decide) rfl rfl rfl dX1_init_109 ?_
  refine z_icmp_ge C 132 dX1_init_110 (by decide) (fun hbr => absurd hbr (by decide)) (fun _ => ?_)
  refine z_aload_n C dX1_init_113 1 rfl rfl ?_
  refine z_get C (ci := 1) (o := 8) (j := 3) (v := .ref (B.1 + 24)) (fs := [.ref (B.1 + 9), .ref (B.1 + 10), .ref (B.1 + 17), .ref (B.1 + 24), .int 0, .int 0, .int 0]) zc_1 rfl (by decide) tw_171 rfl (by decide) rfl rfl dX1_init_114 ?_
  refine z_iload_n C dX1_init_117 0 rfl rfl ?_
  refine z_new C (ci := 8) (fs := [.int 0, .int 0, .int 0, .int 0, .int 0, .int 0]) tyX8 tyX8_ok zc_8 tw_77 tw_78 tw_9 rfl (by decide) (hG 25 (by decide) (by decide)) (Nat.le_of_ble_eq_true rfl) (Nat.le_of_ble_eq_true rfl) dX1_init_118 (n2 := 26) (a2 := 17) (w2 := 80) rfl rfl rfl ?_
  refine z_dup C dX1_init_121 rfl ?_
  refine z_callIN C hl (o := 25) (c_X8_init l B 26 (va_up (va_up G 8 (.inr (1, [.ref (B.1 + 9), .ref (B.1 + 10), .ref (B.1 + 17), .ref (B.1 + 24), .int 0, .int 0, .int 0]))) 24 (.inl (B.2.2.1 7, 8, .inr (.inr (.inr (.inr (zq B (fun j => 24 + 1 + j) 0))))))) 25) (zCN (nA := 0) C rfl rfl tw_81 tw_9 (by decide +kernel) (by decide +kernel) ⟨Nat.le_of_ble_eq_true rfl, Nat.le_of_ble_eq_true rfl⟩) rfl tw_80 (Nat.le_of_ble_eq_true rfl) dX1_init_122 ⟨Nat.le_of_ble_eq_true rfl, Nat.le_of_ble_eq_true rfl⟩ (n2 := 26) (a2 := 17) (w2 := 80) rfl rfl rfl ?_
  refine z_aast C 7 (o := 24) (v := 25) (by decide) rfl rfl (by decide) (hG 25 (by decide) (by decide)) rfl (by unfold vp_in; decide) dX1_init_125 ?_
  refine z_G (G2 := (va_up (va_up G 8 (.inr (1, [.ref (B.1 + 9), .ref (B.1 + 10), .ref (B.1 + 17), .ref (B.1 + 24), .int 0, .int 0, .int 0]))) 24 (.inl (B.2.2.1 7, 8, .inr (.inr (.inr (.inr (zq B (fun j => 24 + 1 + j) 1)))))))) ((va_upA _ _ _ _).trans (by rw [show va_up (zq B (fun j => 24 + 1 + j) 0) (Int32.toNatClampNeg 0) (some (B.1 + 25)) = zq B (fun j => 24 + 1 + j) 1 from zq_s B (fun j => 24 + 1 + j) 0])) ?_
  refine z_iinc C [(1, .int 1), (0, .ref (B.1 + 8))] dX1_init_126 0 rfl (by decide) (by decide) rfl ?_
  refine z_goto C 104 dX1_init_129 (by decide) ?_
  refine z_iload_n C dX1_init_104 0 rfl rfl ?_
  refine z_aload_n C dX1_init_105 1 rfl rfl ?_
  refine z_get C (ci := 1) (o := 8) (j := 3) (v := .ref (B.1 + 24)) (fs := [.ref (B.1 + 9), .ref (B.1 + 10), .ref (B.1 + 17), .ref (B.1 + 24), .int 0, .int 0, .int 0]) zc_1 rfl (by decide) tw_171 rfl (by decide) rfl rfl dX1_init_106 ?_
  refine z_alen C (v := 8) 7 (o := 24) (by decide) rfl rfl rfl dX1_init_109 ?_
  refine z_icmp_ge C 132 dX1_init_110 (by decide) (fun hbr => absurd hbr (by decide)) (fun _ => ?_)
  refine z_aload_n C dX1_init_113 1 rfl rfl ?_
  refine z_get C (ci := 1) (o := 8) (j := 3) (v := .ref (B.1 + 24)) (fs := [.ref (B.1 + 9), .ref (B.1 + 10), .ref (B.1 + 17), .ref (B.1 + 24), .int 0, .int 0, .int 0]) zc_1 rfl (by decide) tw_171 rfl (by decide) rfl rfl dX1_init_114 ?_
  refine z_iload_n C dX1_init_117 0 rfl rfl ?_
  refine z_new C (ci := 8) (fs := [.int 0, .int 0, .int 0, .int 0, .int 0, .int 0]) tyX8 tyX8_ok zc_8 tw_77 tw_78 tw_9 rfl (by decide) (hG 26 (by decide) (by decide)) (Nat.le_of_ble_eq_true rfl) (Nat.le_of_ble_eq_true rfl) dX1_init_118 (n2 := 27) (a2 := 18) (w2 := 86) rfl rfl rfl ?_
  refine z_dup C dX1_init_121 rfl ?_
  refine z_callIN C hl (o := 26) (c_X8_init l B 27 (va_up (va_up G 8 (.inr (1, [.ref (B.1 + 9), .ref (B.1 + 10), .ref (B.1 + 17), .ref (B.1 + 24), .int 0, .int 0, .int 0]))) 24 (.inl (B.2.2.1 7, 8, .inr (.inr (.inr (.inr (zq B (fun j => 24 + 1 + j) 1))))))) 26) (zCN (nA := 0) C rfl rfl tw_81 tw_9 (by decide +kernel) (by decide +kernel) ⟨Nat.le_of_ble_eq_true rfl, Nat.le_of_ble_eq_true rfl⟩) rfl tw_80 (Nat.le_of_ble_eq_true rfl) dX1_init_122 ⟨Nat.le_of_ble_eq_true rfl, Nat.le_of_ble_eq_true rfl⟩ (n2 := 27) (a2 := 18) (w2 := 86) rfl rfl rfl ?_
  refine z_aast C 7 (o := 24) (v := 26) (by decide) rfl rfl (by decide) (hG 26 (by decide) (by decide)) rfl (by unfold vp_in; decide) dX1_init_125 ?_
  refine z_G (G2 := (va_up (va_up G 8 (.inr (1, [.ref (B.1 + 9), .ref (B.1 + 10), .ref (B.1 + 17), .ref (B.1 + 24), .int 0, .int 0, .int 0]))) 24 (.inl (B.2.2.1 7, 8, .inr (.inr (.inr (.inr (zq B (fun j => 24 + 1 + j) 2)))))))) ((va_upA _ _ _ _).trans (by rw [show va_up (zq B (fun j => 24 + 1 + j) 1) (Int32.toNatClampNeg 1) (some (B.1 + 26)) = zq B (fun j => 24 + 1 + j) 2 from zq_s B (fun j => 24 + 1 + j) 1])) ?_
  refine z_iinc C [(1, .int 2), (0, .ref (B.1 + 8))] dX1_init_126 0 rfl (by decide) (by decide) rfl ?_
  refine z_goto C 104 dX1_init_129 (by decide) ?_
  refine z_iload_n C dX1_init_104 0 rfl rfl ?_
  refine z_aload_n C dX1_init_105 1 rfl rfl ?_
  refine z_get C (ci := 1) (o := 8) (j := 3) (v := .ref (B.1 + 24)) (fs := [.ref (B.1 + 9), .ref (B.1 + 10), .ref (B.1 + 17), .ref (B.1 + 24), .int 0, .int 0, .int 0]) zc_1 rfl (by decide) tw_171 rfl (by decide) rfl rfl dX1_init_106 ?_
  refine z_alen C (v := 8) 7 (o := 24) (by decide) rfl rfl rfl dX1_init_109 ?_
  refine z_icmp_ge C 132 dX1_init_110 (by decide) (fun hbr => absurd hbr (by decide)) (fun _ => ?_)
  refine z_aload_n C dX1_init_113 1 rfl rfl ?_
  refine z_get C (ci := 1) (o := 8) (j := 3) (v := .ref (B.1 + 24)) (fs := [.ref (B.1 + 9), .ref (B.1 + 10), .ref (B.1 + 17), .ref (B.1 + 24), .int 0, .int 0, .int 0]) zc_1 rfl (by decide) tw_171 rfl (by decide) rfl rfl dX1_init_114 ?_
  refine z_iload_n C dX1_init_117 0 rfl rfl ?_
  refine z_new C (ci := 8) (fs := [.int 0, .int 0, .int 0, .int 0, .int 0, .int 0]) tyX8 tyX8_ok zc_8 tw_77 tw_78 tw_9 rfl (by decide) (hG 27 (by decide) (by decide)) (Nat.le_of_ble_eq_true rfl) (Nat.le_of_ble_eq_true rfl) dX1_init_118 (n2 := 28) (a2 := 19) (w2 := 92) rfl rfl rfl ?_
  refine z_dup C dX1_init_121 rfl ?_
  refine z_callIN C hl (o := 27) (c_X8_init l B 28 (va_up (va_up G 8 (.inr (1, [.ref (B.1 + 9), .ref (B.1 + 10), .ref (B.1 + 17), .ref (B.1 + 24), .int 0, .int 0, .int 0]))) 24 (.inl (B.2.2.1 7, 8, .inr (.inr (.inr (.inr (zq B (fun j => 24 + 1 + j) 2))))))) 27) (zCN (nA := 0) C rfl rfl tw_81 tw_9 (by decide +kernel) (by decide +kernel) ⟨Nat.le_of_ble_eq_true rfl, Nat.le_of_ble_eq_true rfl⟩) rfl tw_80 (Nat.le_of_ble_eq_true rfl) dX1_init_122 ⟨Nat.le_of_ble_eq_true rfl, Nat.le_of_ble_eq_true rfl⟩ (n2 := 28) (a2 := 19) (w2 := 92) rfl rfl rfl ?_
  refine z_aast C 7 (o := 24) (v := 27) (by decide) rfl rfl (by decide) (hG 27 (by decide) (by decide)) rfl (by unfold vp_in; decide) dX1_init_125 ?_
  refine z_G (G2 := (va_up (va_up G 8 (.inr (1, [.ref (B.1 + 9), .ref (B.1 + 10), .ref (B.1 + 17), .ref (B.1 + 24), .int 0, .int 0, .int 0]))) 24 (.inl (B.2.2.1 7, 8, .inr (.inr (.inr (.inr (zq B (fun j => 24 + 1 + j) 3)))))))) ((va_upA _ _ _ _).trans (by rw [show va_up (zq B (fun j => 24 + 1 + j) 2) (Int32.toNatClampNeg 2) (some (B.1 + 27)) = zq B (fun j => 24 + 1 + j) 3 from zq_s B (fun j => 24 + 1 + j) 2])) ?_
  refine z_iinc C [(1, .int 3), (0, .ref (B.1 + 8))] dX1_init_126 0 rfl (by decide) (by decide) rfl ?_
  refine z_goto C 104 dX1_init_129 (by decide) ?_
  refine z_iload_n C dX1_init_104 0 rfl rfl ?_
  refine z_aload_n C dX1_init_105 1 rfl rfl ?_
  refine z_get C (ci := 1) (o := 8) (j := 3) (v := .ref (B.1 + 24)) (fs := [.ref (B.1 + 9), .ref (B.1 + 10), .ref (B.1 + 17), .ref (B.1 + 24), .int 0, .int 0, .int 0]) zc_1 rfl (by decide) tw_171 rfl (by decide) rfl rfl dX1_init_106 ?_
  refine z_alen C (v := 8) 7 (o := 24) (by decide) rfl rfl rfl dX1_init_109 ?_
  refine z_icmp_ge C 132 dX1_init_110 (by decide) (fun hbr => absurd hbr (by decide)) (fun _ => ?_)
  refine z_aload_n C dX1_init_113 1 rfl rfl ?_
  refine z_get C (ci := 1) (o := 8) (j := 3) (v := .ref (B.1 + 24)) (fs := [.ref (B.1 + 9), .ref (B.1 + 10), .ref (B.1 + 17), .ref (B.1 + 24), .int 0, .int 0, .int 0]) zc_1 rfl (by decide) tw_171 rfl (by decide) rfl rfl dX1_init_114 ?_
  refine z_iload_n C dX1_init_117 0 rfl rfl ?_
  refine z_new C (ci := 8) (fs := [.int 0, .int 0, .int 0, .int 0, .int 0, .int 0]) tyX8 tyX8_ok zc_8 tw_77 tw_78 tw_9 rfl (by decide) (hG 28 (by decide) (by decide)) (Nat.le_of_ble_eq_true rfl) (Nat.le_of_ble_eq_true rfl) dX1_init_118 (n2 := 29) (a2 := 20) (w2 := 98) rfl rfl rfl ?_
  refine z_dup C dX1_init_121 rfl ?_
  refine z_callIN C hl (o := 28) (c_X8_init l B 29 (va_up (va_up G 8 (.inr (1, [.ref (B.1 + 9), .ref (B.1 + 10), .ref (B.1 + 17), .ref (B.1 + 24), .int 0, .int 0, .int 0]))) 24 (.inl (B.2.2.1 7, 8, .inr (.inr (.inr (.inr (zq B (fun j => 24 + 1 + j) 3))))))) 28) (zCN (nA := 0) C rfl rfl tw_81 tw_9 (by decide +kernel) (by decide +kernel) ⟨Nat.le_of_ble_eq_true rfl, Nat.le_of_ble_eq_true rfl⟩) rfl tw_80 (Nat.le_of_ble_eq_true rfl) dX1_init_122 ⟨Nat.le_of_ble_eq_true rfl, Nat.le_of_ble_eq_true rfl⟩ (n2 := 29) (a2 := 20) (w2 := 98) rfl rfl rfl ?_
  refine z_aast C 7 (o := 24) (v := 28) (by decide) rfl rfl (by decide) (hG 28 (by decide) (by decide)) rfl (by unfold vp_in; decide) dX1_init_125 ?_
  refine z_G (G2 := (va_up (va_up G 8 (.inr (1, [.ref (B.1 + 9), .ref (B.1 + 10), .ref (B.1 + 17), .ref (B.1 + 24), .int 0, .int 0, .int 0]))) 24 (.inl (B.2.2.1 7, 8, .inr (.inr (.inr (.inr (zq B (fun j => 24 + 1 + j) 4)))))))) ((va_upA _ _ _ _).trans (by rw [show va_up (zq B (fun j => 24 + 1 + j) 3) (Int32.toNatClampNeg 3) (some (B.1 + 28)) = zq B (fun j => 24 + 1 + j) 4 from zq_s B (fun j => 24 + 1 + j) 3])) ?_
  refine z_iinc C [(1, .int 4), (0, .ref (B.1 + 8))] dX1_init_126 0 rfl (by decide) (by decide) rfl ?_
  refine z_goto C 104 dX1_init_129 (by decide) ?_
  refine z_iload_n C dX1_init_104 0 rfl rfl ?_
  refine z_aload_n C dX1_init_105 1 rfl rfl ?_
  refine z_get C (ci := 1) (o := 8) (j := 3) (v := .ref (B.1 + 24)) (fs := [.ref (B.1 + 9), .ref (B.1 + 10), .ref (B.1 + 17), .ref (B.1 + 24), .int 0, .int 0, .int 0]) zc_1 rfl (by decide) tw_171 rfl (by decide) rfl rfl dX1_init_106 ?_
  refine z_alen C (v := 8) 7 (o := 24) (by decide) rfl rfl rfl dX1_init_109 ?_
  refine z_icmp_ge C 132 dX1_init_110 (by decide) (fun hbr => absurd hbr (by decide)) (fun _ => ?_)
  refine z_aload_n C dX1_init_113 1 rfl rfl ?_
  refine z_get C (ci := 1) (o := 8) (j := 3) (v := .ref (B.1 + 24)) (fs := [.ref (B.1 + 9), .ref (B.1 + 10), .ref (B.1 + 17), .ref (B.1 + 24), .int 0, .int 0, .int 0]) zc_1 rfl (by decide) tw_171 rfl (by decide) rfl rfl dX1_init_114 ?_
  refine z_iload_n C dX1_init_117 0 rfl rfl ?_
  refine z_new C (ci := 8) (fs := [.int 0, .int 0, .int 0, .int 0, .int 0, .int 0]) tyX8 tyX8_ok zc_8 tw_77 tw_78 tw_9 rfl (by decide) (hG 29 (by decide) (by decide)) (Nat.le_of_ble_eq_true rfl) (Nat.le_of_ble_eq_true rfl) dX1_init_118 (n2 := 30) (a2 := 21) (w2 := 104) rfl rfl rfl ?_
  refine z_dup C dX1_init_121 rfl ?_
  refine z_callIN C hl (o := 29) (c_X8_init l B 30 (va_up (va_up G 8 (.inr (1, [.ref (B.1 + 9), .ref (B.1 + 10), .ref (B.1 + 17), .ref (B.1 + 24), .int 0, .int 0, .int 0]))) 24 (.inl (B.2.2.1 7, 8, .inr (.inr (.inr (.inr (zq B (fun j => 24 + 1 + j) 4))))))) 29) (zCN (nA := 0) C rfl rfl tw_81 tw_9 (by decide +kernel) (by decide +kernel) ⟨Nat.le_of_ble_eq_true rfl, Nat.le_of_ble_eq_true rfl⟩) rfl tw_80 (Nat.le_of_ble_eq_true rfl) dX1_init_122 ⟨Nat.le_of_ble_eq_true rfl, Nat.le_of_ble_eq_true rfl⟩ (n2 := 30) (a2 := 21) (w2 := 104) rfl rfl rfl ?_
  refine z_aast C 7 (o := 24) (v := 29) (by decide) rfl rfl (by decide) (hG 29 (by decide) (by decide)) rfl (by unfold vp_in; decide) dX1_init_125 ?_
  refine z_G (G2 := (va_up (va_up G 8 (.inr (1, [.ref (B.1 + 9), .ref (B.1 + 10), .ref (B.1 + 17), .ref (B.1 + 24), .int 0, .int 0, .int 0]))) 24 (.inl (B.2.2.1 7, 8, .inr (.inr (.inr (.inr (zq B (fun j => 24 + 1 + j) 5)))))))) ((va_upA _ _ _ _).trans (by rw [show va_up (zq B (fun j => 24 + 1 + j) 4) (Int32.toNatClampNeg 4) (some (B.1 + 29)) = zq B (fun j => 24 + 1 + j) 5 from zq_s B (fun j => 24 + 1 + j) 4])) ?_
  refine z_iinc C [(1, .int 5), (0, .ref (B.1 + 8))] dX1_init_126 0 rfl (by decide) (by decide) rfl ?_
  refine z_goto C 104 dX1_init_129 (by decide) ?_
  refine z_iload_n C dX1_init_104 0 rfl rfl ?_
  refine z_aload_n C dX1_init_105 1 rfl rfl ?_
  refine z_get C (ci := 1) (o := 8) (j := 3) (v := .ref (B.1 + 24)) (fs := [.ref (B.1 + 9), .ref (B.1 + 10), .ref (B.1 + 17), .ref (B.1 + 24), .int 0, .int 0, .int 0]) zc_1 rfl (by decide) tw_171 rfl (by decide) rfl rfl dX1_init_106 ?_
  refine z_alen C (v := 8) 7 (o := 24) (by decide) rfl rfl rfl dX1_init_109 ?_
  refine z_icmp_ge C 132 dX1_init_110 (by decide) (fun hbr => absurd hbr (by decide)) (fun _ => ?_)
  refine z_aload_n C dX1_init_113 1 rfl rfl ?_
  refine z_get C (ci := 1) (o := 8) (j := 3) (v := .ref (B.1 + 24)) (fs := [.ref (B.1 + 9), .ref (B.1 + 10), .ref (B.1 + 17), .ref (B.1 + 24), .int 0, .int 0, .int 0]) zc_1 rfl (by decide) tw_171 rfl (by decide) rfl rfl dX1_init_114 ?_
  refine z_iload_n C dX1_init_117 0 rfl rfl ?_
  refine z_new C (ci := 8) (fs := [.int 0, .int 0, .int 0, .int 0, .int 0, .int 0]) tyX8 tyX8_ok zc_8 tw_77 tw_78 tw_9 rfl (by decide) (hG 30 (by decide) (by decide)) (Nat.le_of_ble_eq_true rfl) (Nat.le_of_ble_eq_true rfl) dX1_init_118 (n2 := 31) (a2 := 22) (w2 := 110) rfl rfl rfl ?_
  refine z_dup C dX1_init_121 rfl ?_
  refine z_callIN C hl (o := 30) (c_X8_init l B 31 (va_up (va_up G 8 (.inr (1, [.ref (B.1 + 9), .ref (B.1 + 10), .ref (B.1 + 17), .ref (B.1 + 24), .int 0, .int 0, .int 0]))) 24 (.inl (B.2.2.1 7, 8, .inr (.inr (.inr (.inr (zq B (fun j => 24 + 1 + j) 5))))))) 30) (zCN (nA := 0) C rfl rfl tw_81 tw_9 (by decide +kernel) (by decide +kernel) ⟨Nat.le_of_ble_eq_true rfl, Nat.le_of_ble_eq_true rfl⟩) rfl tw_80 (Nat.le_of_ble_eq_true rfl) dX1_init_122 ⟨Nat.le_of_ble_eq_true rfl, Nat.le_of_ble_eq_true rfl⟩ (n2 := 31) (a2 := 22) (w2 := 110) rfl rfl rfl ?_
  refine z_aast C 7 (o := 24) (v := 30) (by decide) rfl rfl (by decide) (hG 30 (by decide) (by decide)) rfl (by unfold vp_in; decide) dX1_init_125 ?_
  refine z_G (G2 := (va_up (va_up G 8 (.inr (1, [.ref (B.1 + 9), .ref (B.1 + 10), .ref (B.1 + 17), .ref (B.1 + 24), .int 0, .int 0, .int 0]))) 24 (.inl (B.2.2.1 7, 8, .inr (.inr (.inr (.inr (zq B (fun j => 24 + 1 + j) 6)))))))) ((va_upA _ _ _ _).trans (by rw [show va_up (zq B (fun j => 24 + 1 + j) 5) (Int32.toNatClampNeg 5) (some (B.1 + 30)) = zq B (fun j => 24 + 1 + j) 6 from zq_s B (fun j => 24 + 1 + j) 5])) ?_
  refine z_iinc C [(1, .int 6), (0, .ref (B.1 + 8))] dX1_init_126 0 rfl (by decide) (by decide) rfl ?_
  refine z_goto C 104 dX1_init_129 (by decide) ?_
  refine z_iload_n C dX1_init_104 0 rfl rfl ?_
  refine z_aload_n C dX1_init_105 1 rfl rfl ?_
  refine z_get C (ci := 1) (o := 8) (j := 3) (v := .ref (B.1 + 24)) (fs := [.ref (B.1 + 9), .ref (B.1 + 10), .ref (B.1 + 17), .ref (B.1 + 24), .int 0, .int 0, .int 0]) zc_1 rfl (by decide) tw_171 rfl (by decide) rfl rfl dX1_init_106 ?_
  refine z_alen C (v := 8) 7 (o := 24) (by decide) rfl rfl rfl dX1_init_109 ?_
  refine z_icmp_ge C 132 dX1_init_110 (by decide) (fun hbr => absurd hbr (by decide)) (fun _ => ?_)
  refine z_aload_n C dX1_init_113 1 rfl rfl ?_
  refine z_get C (ci := 1) (o := 8) (j := 3) (v := .ref (B.1 + 24)) (fs := [.ref (B.1 + 9), .ref (B.1 + 10), .ref (B.1 + 17), .ref (B.1 + 24), .int 0, .int 0, .int 0]) zc_1 rfl (by decide) tw_171 rfl (by decide) rfl rfl dX1_init_114 ?_
  refine z_iload_n C dX1_init_117 0 rfl rfl ?_
  refine z_new C (ci := 8) (fs := [.int 0, .int 0, .int 0, .int 0, .int 0, .int 0]) tyX8 tyX8_ok zc_8 tw_77 tw_78 tw_9 rfl (by decide) (hG 31 (by decide) (by decide)) (Nat.le_of_ble_eq_true rfl) (Nat.le_of_ble_eq_true rfl) dX1_init_118 (n2 := 32) (a2 := 23) (w2 := 116) rfl rfl rfl ?_
  refine z_dup C dX1_init_121 rfl ?_
  refine z_callIN C hl (o := 31) (c_X8_init l B 32 (va_up (va_up G 8 (.inr (1, [.ref (B.1 + 9), .ref (B.1 + 10), .ref (B.1 + 17), .ref (B.1 + 24), .int 0, .int 0, .int 0]))) 24 (.inl (B.2.2.1 7, 8, .inr (.inr (.inr (.inr (zq B (fun j => 24 + 1 + j) 6))))))) 31) (zCN (nA := 0) C rfl rfl tw_81 tw_9 (by decide +kernel) (by decide +kernel) ⟨Nat.le_of_ble_eq_true rfl, Nat.le_of_ble_eq_true rfl⟩) rfl tw_80 (Nat.le_of_ble_eq_true rfl) dX1_init_122 ⟨Nat.le_of_ble_eq_true rfl, Nat.le_of_ble_eq_true rfl⟩ (n2 := 32) (a2 := 23) (w2 := 116) rfl rfl rfl ?_
  refine z_aast C 7 (o := 24) (v := 31) (by decide) rfl rfl (by decide) (hG 31 (by decide) (by decide)) rfl (by unfold vp_in; decide) dX1_init_125 ?_
  refine z_G (G2 := (va_up (va_up G 8 (.inr (1, [.ref (B.1 + 9), .ref (B.1 + 10), .ref (B.1 + 17), .ref (B.1 + 24), .int 0, .int 0, .int 0]))) 24 (.inl (B.2.2.1 7, 8, .inr (.inr (.inr (.inr (zq B (fun j => 24 + 1 + j) 7)))))))) ((va_upA _ _ _ _).trans (by rw [show va_up (zq B (fun j => 24 + 1 + j) 6) (Int32.toNatClampNeg 6) (some (B.1 + 31)) = zq B (fun j => 24 + 1 + j) 7 from zq_s B (fun j => 24 + 1 + j) 6])) ?_
  refine z_iinc C [(1, .int 7), (0, .ref (B.1 + 8))] dX1_init_126 0 rfl (by decide) (by decide) rfl ?_
  refine z_goto C 104 dX1_init_129 (by decide) ?_
  refine z_iload_n C dX1_init_104 0 rfl rfl ?_
  refine z_aload_n C dX1_init_105 1 rfl rfl ?_
  refine z_get C (ci := 1) (o := 8) (j := 3) (v := .ref (B.1 + 24)) (fs := [.ref (B.1 + 9), .ref (B.1 + 10), .ref (B.1 + 17), .ref (B.1 + 24), .int 0, .int 0, .int 0]) zc_1 rfl (by decide) tw_171 rfl (by decide) rfl rfl dX1_init_106 ?_
  refine z_alen C (v := 8) 7 (o := 24) (by decide) rfl rfl rfl dX1_init_109 ?_
  refine z_icmp_ge C 132 dX1_init_110 (by decide) (fun hbr => absurd hbr (by decide)) (fun _ => ?_)
  refine z_aload_n C dX1_init_113 1 rfl rfl ?_
  refine z_get C (ci := 1) (o := 8) (j := 3) (v := .ref (B.1 + 24)) (fs := [.ref (B.1 + 9), .ref (B.1 + 10), .ref (B.1 + 17), .ref (B.1 + 24), .int 0, .int 0, .int 0]) zc_1 rfl (by decide) tw_171 rfl (by decide) rfl rfl dX1_init_114 ?_
  refine z_iload_n C dX1_init_117 0 rfl rfl ?_
  refine z_new C (ci := 8) (fs := [.int 0, .int 0, .int 0, .int 0, .int 0, .int 0]) tyX8 tyX8_ok zc_8 tw_77 tw_78 tw_9 rfl (by decide) (hG 32 (by decide) (by decide)) (Nat.le_of_ble_eq_true rfl) (Nat.le_of_ble_eq_true rfl) dX1_init_118 (n2 := 33) (a2 := 24) (w2 := 122) rfl rfl rfl ?_
  refine z_dup C dX1_init_121 rfl ?_
  refine z_callIN C hl (o := 32) (c_X8_init l B 33 (va_up (va_up G 8 (.inr (1, [.ref (B.1 + 9), .ref (B.1 + 10), .ref (B.1 + 17), .ref (B.1 + 24), .int 0, .int 0, .int 0]))) 24 (.inl (B.2.2.1 7, 8, .inr (.inr (.inr (.inr (zq B (fun j => 24 + 1 + j) 7))))))) 32) (zCN (nA := 0) C rfl rfl tw_81 tw_9 (by decide +kernel) (by decide +kernel) ⟨Nat.le_of_ble_eq_true rfl, Nat.le_of_ble_eq_true rfl⟩) rfl tw_80 (Nat.le_of_ble_eq_true rfl) dX1_init_122 ⟨Nat.le_of_ble_eq_true rfl, Nat.le_of_ble_eq_true rfl⟩ (n2 := 33) (a2 := 24) (w2 := 122) rfl rfl rfl ?_
  refine z_aast C 7 (o := 24) (v := 32) (by decide) rfl rfl (by decide) (hG 32 (by decide) (by decide)) rfl (by unfold vp_in; decide) dX1_init_125 ?_
  refine z_G (G2 := (va_up (va_up G 8 (.inr (1, [.ref (B.1 + 9), .ref (B.1 + 10), .ref (B.1 + 17), .ref (B.1 + 24), .int 0, .int 0, .int 0]))) 24 (.inl (B.2.2.1 7, 8, .inr (.inr (.inr (.inr (zq B (fun j => 24 + 1 + j) 8)))))))) ((va_upA _ _ _ _).trans (by rw [show va_up (zq B (fun j => 24 + 1 + j) 7) (Int32.toNatClampNeg 7) (some (B.1 + 32)) = zq B (fun j => 24 + 1 + j) 8 from zq_s B (fun j => 24 + 1 + j) 7])) ?_
  refine z_fill ?_
  refine z_G (G2 := (va_up G 8 (.inr (1, [.ref (B.1 + 9), .ref (B.1 + 10), .ref (B.1 + 17), .ref (B.1 + 24), .int 0, .int 0, .int 0])))) (va_upI _ _ _ (hG 24 (by decide) (by decide))) ?_
  refine z_iinc C [(1, .int 8), (0, .ref (B.1 + 8))] dX1_init_126 0 rfl (by decide) (by decide) rfl ?_
  refine z_goto C 104 dX1_init_129 (by decide) ?_
  refine z_iload_n C dX1_init_104 0 rfl rfl ?_
  refine z_aload_n C dX1_init_105 1 rfl rfl ?_
  refine z_get C (ci := 1) (o := 8) (j := 3) (v := .ref (B.1 + 24)) (fs := [.ref (B.1 + 9), .ref (B.1 + 10), .ref (B.1 + 17), .ref (B.1 + 24), .int 0, .int 0, .int 0]) zc_1 rfl (by decide) tw_171 rfl (by decide) rfl rfl dX1_init_106 ?_
  refine z_alen C (v := 8) 7 (o := 24) (by decide) (hG 24 (by decide) (by decide)) rfl rfl dX1_init_109 ?_
  refine z_icmp_ge C 132 dX1_init_110 (by decide) (fun _ => ?_) (fun hbr => absurd (by decide) hbr)
  refine z_G (G2 := G) (va_upI _ _ _ (hG 8 (by decide) (by decide))) ?_
  exact z_vret C E rfl dX1_init_132 rfl (Nat.le_refl _) ⟨rfl, rfl⟩
set_option maxRecDepth 100000 in
set_option maxHeartbeats 4000000 in
theorem c_X1_init_33 (l : Launch) (B : zB) (G : Nat → va_E) (hG : ∀ k, 33 ≤ k → k < 58 → G k = zg B z0 zt1 k) : zMet l B mX1_init 24 122 34 (va_up G 33 (.inr (1, [.null, .null, .null, .null, .int 0, .int 0, .int 0]))) [.ref (B.1 + 33)] (zRi G) := by
  refine z_met (by decide) (Nat.le_of_ble_eq_true rfl) ?_
  intro X hl C E hnm
  show Z X B mX1_init 34 (va_up G 33 (.inr (1, [.null, .null, .null, .null, .int 0, .int 0, .int 0]))) 0 0 0 [(0, .ref (B.1 + 33))] []
  refine z_aload_n C dX1_init_0 0 rfl rfl ?_
  refine z_obj C tw_76 (Nat.le_of_ble_eq_true rfl) (Nat.le_of_ble_eq_true rfl) dX1_init_1 ?_
  refine z_aload_n C dX1_init_4 0 rfl rfl ?_
  refine z_new C (ci := 8) (fs := [.int 0, .int 0, .int 0, .int 0, .int 0, .int 0]) tyX8 tyX8_ok zc_8 tw_77 tw_78 tw_9 rfl (by decide) (hG 34 (by decide) (by decide)) (Nat.le_of_ble_eq_true rfl) (Nat.le_of_ble_eq_true rfl) dX1_init_5 (n2 := 35) (a2 := 1) (w2 := 6) rfl rfl rfl ?_
  refine z_dup C dX1_init_8 rfl ?_
  refine z_callIN C hl (o := 34) (c_X8_init l B 35 (va_up G 33 (.inr (1, [.null, .null, .null, .null, .int 0, .int 0, .int 0]))) 34) (zCN (nA := 0) C rfl rfl tw_81 tw_9 (by decide +kernel) (by decide +kernel) ⟨Nat.le_of_ble_eq_true rfl, Nat.le_of_ble_eq_true rfl⟩) rfl tw_80 (Nat.le_of_ble_eq_true rfl) dX1_init_9 ⟨Nat.le_of_ble_eq_true rfl, Nat.le_of_ble_eq_true rfl⟩ (n2 := 35) (a2 := 1) (w2 := 6) rfl rfl rfl ?_
  refine z_putF C hnm (ci := 1) (o := 33) (j := 0) (fs := [.null, .null, .null, .null, .int 0, .int 0, .int 0]) (ty := tyX1 0) tyX1 tyX1_ok nmX1 zc_1 rfl (by decide) tw_167 rfl rfl rfl (by decide +kernel) rfl rfl (by decide) rfl (Nat.le_of_ble_eq_true rfl) dX1_init_12 ?_
  refine z_G (G2 := (va_up G 33 (.inr (1, [.ref (B.1 + 34), .null, .null, .null, .int 0, .int 0, .int 0])))) (va_upA _ _ _ _) ?_
  refine z_aload_n C dX1_init_15 0 rfl rfl ?_
  refine z_bipush C dX1_init_16 kb_6 ?_
  refine z_GG (G2 := (va_up (va_up G 33 (.inr (1, [.ref (B.1 + 34), .null, .null, .null, .int 0, .int 0, .int 0]))) 35 (.inl (B.2.2.1 3, 6, .inr (.inr (.inr (.inr (fun _ => none)))))))) (fun k hk => (va_up_ne _ _ (Nat.ne_of_lt hk)).symm) ?_
  refine z_anew C 3 (Cn := RX0) tw_110 (by decide) rfl (by decide) (N' := 6) (by decide) (by decide) rfl (Nat.le_of_ble_eq_true rfl) (Nat.le_of_ble_eq_true rfl) dX1_init_18 (n2 := 36) (a2 := 2) (w2 := 12) rfl rfl rfl ?_
  refine z_G (G2 := (va_up (va_up G 33 (.inr (1, [.ref (B.1 + 34), .null, .null, .null, .int 0, .int 0, .int 0]))) 35 (.inl (B.2.2.1 3, 6, .inr (.inr (.inr (.inr (zq B (fun j => 35 + 1 + j) 0)))))))) (by rw [← zq_0]) ?_
  refine z_putF C hnm (ci := 1) (o := 33) (j := 1) (fs := [.ref (B.1 + 34), .null, .null, .null, .int 0, .int 0, .int 0]) (ty := tyX1 1) tyX1 tyX1_ok nmX1 zc_1 rfl (by decide) tw_169 rfl rfl rfl (by decide +kernel) rfl rfl (by decide) rfl (Nat.le_of_ble_eq_true rfl) dX1_init_21 ?_
  refine z_G (G2 := (va_up (va_up G 33 (.inr (1, [.ref (B.1 + 34), .ref (B.1 + 35), .null, .null, .int 0, .int 0, .int 0]))) 35 (.inl (B.2.2.1 3, 6, .inr (.inr (.inr (.inr (zq B (fun j => 35 + 1 + j) 0)))))))) (va_upB _ _ _ _ _ _ (by decide)) ?_
  refine z_iconst C dX1_init_24 ki_0 ?_
  refine z_istore_n C [(1, .int 0), (0, .ref (B.1 + 33))] dX1_init_25 rfl (by decide) rfl ?_
  refine z_iload_n C dX1_init_26 0 rfl rfl ?_
  refine z_aload_n C dX1_init_27 1 rfl rfl ?_
  refine z_get C (ci := 1) (o := 33) (j := 1) (v := .ref (B.1 + 35)) (fs := [.ref (B.1 + 34), .ref (B.1 + 35), .null, .null, .int 0, .int 0, .int 0]) zc_1 rfl (by decide) tw_169 rfl (by decide) rfl rfl dX1_init_28 ?_
  refine z_alen C (v := 6) 3 (o := 35) (by decide) rfl rfl rfl dX1_init_31 ?_
  refine z_icmp_ge C 54 dX1_init_32 (by decide) (fun hbr => absurd hbr (by decide)) (fun _ => ?_)
  refine z_aload_n C dX1_init_35 1 rfl rfl ?_
  refine z_get C (ci := 1) (o := 33) (j := 1) (v := .ref (B.1 + 35)) (fs := [.ref (B.1 + 34), .ref (B.1 + 35), .null, .null, .int 0, .int 0, .int 0]) zc_1 rfl (by decide) tw_169 rfl (by decide) rfl rfl dX1_init_36 ?_
  refine z_iload_n C dX1_init_39 0 rfl rfl ?_
  refine z_new C (ci := 0) (fs := [.int 0, .int 0, .int 0, .int 0]) tyX0 tyX0_ok zc_0 tw_110 tw_112 tw_10 rfl (by decide) (hG 36 (by decide) (by decide)) (Nat.le_of_ble_eq_true rfl) (Nat.le_of_ble_eq_true rfl) dX1_init_40 (n2 := 37) (a2 := 3) (w2 := 16) rfl rfl rfl ?_
  refine z_dup C dX1_init_43 rfl ?_
  refine z_callIN C hl (o := 36) (c_X0_init l B 37 (va_up (va_up G 33 (.inr (1, [.ref (B.1 + 34), .ref (B.1 + 35), .null, .null, .int 0, .int 0, .int 0]))) 35 (.inl (B.2.2.1 3, 6, .inr (.inr (.inr (.inr (zq B (fun j => 35 + 1 + j) 0))))))) 36) (zCN (nA := 0) C rfl rfl tw_115 tw_10 (by decide +kernel) (by decide +kernel) ⟨Nat.le_of_ble_eq_true rfl, Nat.le_of_ble_eq_true rfl⟩) rfl tw_114 (Nat.le_of_ble_eq_true rfl) dX1_init_44 ⟨Nat.le_of_ble_eq_true rfl, Nat.le_of_ble_eq_true rfl⟩ (n2 := 37) (a2 := 3) (w2 := 16) rfl rfl rfl ?_
  refine z_aast C 3 (o := 35) (v := 36) (by decide) rfl rfl (by decide) (hG 36 (by decide) (by decide)) rfl (by unfold vp_in; decide) dX1_init_47 ?_
  refine z_G (G2 := (va_up (va_up G 33 (.inr (1, [.ref (B.1 + 34), .ref (B.1 + 35), .null, .null, .int 0, .int 0, .int 0]))) 35 (.inl (B.2.2.1 3, 6, .inr (.inr (.inr (.inr (zq B (fun j => 35 + 1 + j) 1)))))))) ((va_upA _ _ _ _).trans (by rw [show va_up (zq B (fun j => 35 + 1 + j) 0) (Int32.toNatClampNeg 0) (some (B.1 + 36)) = zq B (fun j => 35 + 1 + j) 1 from zq_s B (fun j => 35 + 1 + j) 0])) ?_
  refine z_iinc C [(1, .int 1), (0, .ref (B.1 + 33))] dX1_init_48 0 rfl (by decide) (by decide) rfl ?_
  refine z_goto C 26 dX1_init_51 (by decide) ?_
  refine z_iload_n C dX1_init_26 0 rfl rfl ?_
  refine z_aload_n C dX1_init_27 1 rfl rfl ?_
  refine z_get C (ci := 1) (o := 33) (j := 1) (v := .ref (B.1 + 35)) (fs := [.ref (B.1 + 34), .ref (B.1 + 35), .null, .null, .int 0, .int 0, .int 0]) zc_1 rfl (by decide) tw_169 rfl (by decide) rfl rfl dX1_init_28 ?_
  refine z_alen C (v := 6) 3 (o := 35) (by decide) rfl rfl rfl dX1_init_31 ?_
  refine z_icmp_ge C 54 dX1_init_32 (by decide) (fun hbr => absurd hbr (by decide)) (fun _ => ?_)
  refine z_aload_n C dX1_init_35 1 rfl rfl ?_
  refine z_get C (ci := 1) (o := 33) (j := 1) (v := .ref (B.1 + 35)) (fs := [.ref (B.1 + 34), .ref (B.1 + 35), .null, .null, .int 0, .int 0, .int 0]) zc_1 rfl (by decide) tw_169 rfl (by decide) rfl rfl dX1_init_36 ?_
  refine z_iload_n C dX1_init_39 0 rfl rfl ?_
  refine z_new C (ci := 0) (fs := [.int 0, .int 0, .int 0, .int 0]) tyX0 tyX0_ok zc_0 tw_110 tw_112 tw_10 rfl (by decide) (hG 37 (by decide) (by decide)) (Nat.le_of_ble_eq_true rfl) (Nat.le_of_ble_eq_true rfl) dX1_init_40 (n2 := 38) (a2 := 4) (w2 := 20) rfl rfl rfl ?_
  refine z_dup C dX1_init_43 rfl ?_
  refine z_callIN C hl (o := 37) (c_X0_init l B 38 (va_up (va_up G 33 (.inr (1, [.ref (B.1 + 34), .ref (B.1 + 35), .null, .null, .int 0, .int 0, .int 0]))) 35 (.inl (B.2.2.1 3, 6, .inr (.inr (.inr (.inr (zq B (fun j => 35 + 1 + j) 1))))))) 37) (zCN (nA := 0) C rfl rfl tw_115 tw_10 (by decide +kernel) (by decide +kernel) ⟨Nat.le_of_ble_eq_true rfl, Nat.le_of_ble_eq_true rfl⟩) rfl tw_114 (Nat.le_of_ble_eq_true rfl) dX1_init_44 ⟨Nat.le_of_ble_eq_true rfl, Nat.le_of_ble_eq_true rfl⟩ (n2 := 38) (a2 := 4) (w2 := 20) rfl rfl rfl ?_
  refine z_aast C 3 (o := 35) (v := 37) (by decide) rfl rfl (by decide) (hG 37 (by decide) (by decide)) rfl (by unfold vp_in; decide) dX1_init_47 ?_
  refine z_G (G2 := (va_up (va_up G 33 (.inr (1, [.ref (B.1 + 34), .ref (B.1 + 35), .null, .null, .int 0, .int 0, .int 0]))) 35 (.inl (B.2.2.1 3, 6, .inr (.inr (.inr (.inr (zq B (fun j => 35 + 1 + j) 2)))))))) ((va_upA _ _ _ _).trans (by rw [show va_up (zq B (fun j => 35 + 1 + j) 1) (Int32.toNatClampNeg 1) (some (B.1 + 37)) = zq B (fun j => 35 + 1 + j) 2 from zq_s B (fun j => 35 + 1 + j) 1])) ?_
  refine z_iinc C [(1, .int 2), (0, .ref (B.1 + 33))] dX1_init_48 0 rfl (by decide) (by decide) rfl ?_
  refine z_goto C 26 dX1_init_51 (by decide) ?_
  refine z_iload_n C dX1_init_26 0 rfl rfl ?_
  refine z_aload_n C dX1_init_27 1 rfl rfl ?_
  refine z_get C (ci := 1) (o := 33) (j := 1) (v := .ref (B.1 + 35)) (fs := [.ref (B.1 + 34), .ref (B.1 + 35), .null, .null, .int 0, .int 0, .int 0]) zc_1 rfl (by decide) tw_169 rfl (by decide) rfl rfl dX1_init_28 ?_
  refine z_alen C (v := 6) 3 (o := 35) (by decide) rfl rfl rfl dX1_init_31 ?_
  refine z_icmp_ge C 54 dX1_init_32 (by decide) (fun hbr => absurd hbr (by decide)) (fun _ => ?_)
  refine z_aload_n C dX1_init_35 1 rfl rfl ?_
  refine z_get C (ci := 1) (o := 33) (j := 1) (v := .ref (B.1 + 35)) (fs := [.ref (B.1 + 34), .ref (B.1 + 35), .null, .null, .int 0, .int 0, .int 0]) zc_1 rfl (by decide) tw_169 rfl (by decide) rfl rfl dX1_init_36 ?_
  refine z_iload_n C dX1_init_39 0 rfl rfl ?_
  refine z_new C (ci := 0) (fs := [.int 0, .int 0, .int 0, .int 0]) tyX0 tyX0_ok zc_0 tw_110 tw_112 tw_10 rfl (by decide) (hG 38 (by decide) (by decide)) (Nat.le_of_ble_eq_true rfl) (Nat.le_of_ble_eq_true rfl) dX1_init_40 (n2 := 39) (a2 := 5) (w2 := 24) rfl rfl rfl ?_
  refine z_dup C dX1_init_43 rfl ?_
  refine z_callIN C hl (o := 38) (c_X0_init l B 39 (va_up (va_up G 33 (.inr (1, [.ref (B.1 + 34), .ref (B.1 + 35), .null, .null, .int 0, .int 0, .int 0]))) 35 (.inl (B.2.2.1 3, 6, .inr (.inr (.inr (.inr (zq B (fun j => 35 + 1 + j) 2))))))) 38) (zCN (nA := 0) C rfl rfl tw_115 tw_10 (by decide +kernel) (by decide +kernel) ⟨Nat.le_of_ble_eq_true rfl, Nat.le_of_ble_eq_true rfl⟩) rfl tw_114 (Nat.le_of_ble_eq_true rfl) dX1_init_44 ⟨Nat.le_of_ble_eq_true rfl, Nat.le_of_ble_eq_true rfl⟩ (n2 := 39) (a2 := 5) (w2 := 24) rfl rfl rfl ?_
  refine z_aast C 3 (o := 35) (v := 38) (by decide) rfl rfl (by decide) (hG 38 (by decide) (by decide)) rfl (by unfold vp_in; decide) dX1_init_47 ?_
  refine z_G (G2 := (va_up (va_up G 33 (.inr (1, [.ref (B.1 + 34), .ref (B.1 + 35), .null, .null, .int 0, .int 0, .int 0]))) 35 (.inl (B.2.2.1 3, 6, .inr (.inr (.inr (.inr (zq B (fun j => 35 + 1 + j) 3)))))))) ((va_upA _ _ _ _).trans (by rw [show va_up (zq B (fun j => 35 + 1 + j) 2) (Int32.toNatClampNeg 2) (some (B.1 + 38)) = zq B (fun j => 35 + 1 + j) 3 from zq_s B (fun j => 35 + 1 + j) 2])) ?_
  refine z_iinc C [(1, .int 3), (0, .ref (B.1 + 33))] dX1_init_48 0 rfl (by decide) (by decide) rfl ?_
  refine z_goto C 26 dX1_init_51 (by decide) ?_
  refine z_iload_n C dX1_init_26 0 rfl rfl ?_
  refine z_aload_n C dX1_init_27 1 rfl rfl ?_
  refine z_get C (ci := 1) (o := 33) (j := 1) (v := .ref (B.1 + 35)) (fs := [.ref (B.1 + 34), .ref (B.1 + 35), .null, .null, .int 0, .int 0, .int 0]) zc_1 rfl (by decide) tw_169 rfl (by decide) rfl rfl dX1_init_28 ?_
  refine z_alen C (v := 6) 3 (o := 35) (by decide) rfl rfl rfl dX1_init_31 ?_
  refine z_icmp_ge C 54 dX1_init_32 (by decide) (fun hbr => absurd hbr (by decide)) (fun _ => ?_)
  refine z_aload_n C dX1_init_35 1 rfl rfl ?_
  refine z_get C (ci := 1) (o := 33) (j := 1) (v := .ref (B.1 + 35)) (fs := [.ref (B.1 + 34), .ref (B.1 + 35), .null, .null, .int 0, .int 0, .int 0]) zc_1 rfl (by decide) tw_169 rfl (by decide) rfl rfl dX1_init_36 ?_
  refine z_iload_n C dX1_init_39 0 rfl rfl ?_
  refine z_new C (ci := 0) (fs := [.int 0, .int 0, .int 0, .int 0]) tyX0 tyX0_ok zc_0 tw_110 tw_112 tw_10 rfl (by decide) (hG 39 (by decide) (by decide)) (Nat.le_of_ble_eq_true rfl) (Nat.le_of_ble_eq_true rfl) dX1_init_40 (n2 := 40) (a2 := 6) (w2 := 28) rfl rfl rfl ?_
  refine z_dup C dX1_init_43 rfl ?_
  refine z_callIN C hl (o := 39) (c_X0_init l B 40 (va_up (va_up G 33 (.inr (1, [.ref (B.1 + 34), .ref (B.1 + 35), .null, .null, .int 0, .int 0, .int 0]))) 35 (.inl (B.2.2.1 3, 6, .inr (.inr (.inr (.inr (zq B (fun j => 35 + 1 + j) 3))))))) 39) (zCN (nA := 0) C rfl rfl tw_115 tw_10 (by decide +kernel) (by decide +kernel) ⟨Nat.le_of_ble_eq_true rfl, Nat.le_of_ble_eq_true rfl⟩) rfl tw_114 (Nat.le_of_ble_eq_true rfl) dX1_init_44 ⟨Nat.le_of_ble_eq_true rfl, Nat.le_of_ble_eq_true rfl⟩ (n2 := 40) (a2 := 6) (w2 := 28) rfl rfl rfl ?_
  refine z_aast C 3 (o := 35) (v := 39) (by decide) rfl rfl (by decide) (hG 39 (by decide) (by decide)) rfl (by unfold vp_in; decide) dX1_init_47 ?_
  refine z_G (G2 := (va_up (va_up G 33 (.inr (1, [.ref (B.1 + 34), .ref (B.1 + 35), .null, .null, .int 0, .int 0, .int 0]))) 35 (.inl (B.2.2.1 3, 6, .inr (.inr (.inr (.inr (zq B (fun j => 35 + 1 + j) 4)))))))) ((va_upA _ _ _ _).trans (by rw [show va_up (zq B (fun j => 35 + 1 + j) 3) (Int32.toNatClampNeg 3) (some (B.1 + 39)) = zq B (fun j => 35 + 1 + j) 4 from zq_s B (fun j => 35 + 1 + j) 3])) ?_
  refine z_iinc C [(1, .int 4), (0, .ref (B.1 + 33))] dX1_init_48 0 rfl (by decide) (by decide) rfl ?_
  refine z_goto C 26 dX1_init_51 (by decide) ?_
  refine z_iload_n C dX1_init_26 0 rfl rfl ?_
  refine z_aload_n C dX1_init_27 1 rfl rfl ?_
  refine z_get C (ci := 1) (o := 33) (j := 1) (v := .ref (B.1 + 35)) (fs := [.ref (B.1 + 34), .ref (B.1 + 35), .null, .null, .int 0, .int 0, .int 0]) zc_1 rfl (by decide) tw_169 rfl (by decide) rfl rfl dX1_init_28 ?_
  refine z_alen C (v := 6) 3 (o := 35) (by decide) rfl rfl rfl dX1_init_31 ?_
  refine z_icmp_ge C 54 dX1_init_32 (by decide) (fun hbr => absurd hbr (by decide)) (fun _ => ?_)
  refine z_aload_n C dX1_init_35 1 rfl rfl ?_
  refine z_get C (ci := 1) (o := 33) (j := 1) (v := .ref (B.1 + 35)) (fs := [.ref (B.1 + 34), .ref (B.1 + 35), .null, .null, .int 0, .int 0, .int 0]) zc_1 rfl (by decide) tw_169 rfl (by decide) rfl rfl dX1_init_36 ?_
  refine z_iload_n C dX1_init_39 0 rfl rfl ?_
  refine z_new C (ci := 0) (fs := [.int 0, .int 0, .int 0, .int 0]) tyX0 tyX0_ok zc_0 tw_110 tw_112 tw_10 rfl (by decide) (hG 40 (by decide) (by decide)) (Nat.le_of_ble_eq_true rfl) (Nat.le_of_ble_eq_true rfl) dX1_init_40 (n2 := 41) (a2 := 7) (w2 := 32) rfl rfl rfl ?_
  refine z_dup C dX1_init_43 rfl ?_
  refine z_callIN C hl (o := 40) (c_X0_init l B 41 (va_up (va_up G 33 (.inr (1, [.ref (B.1 + 34), .ref (B.1 + 35), .null, .null, .int 0, .int 0, .int 0]))) 35 (.inl (B.2.2.1 3, 6, .inr (.inr (.inr (.inr (zq B (fun j => 35 + 1 + j) 4))))))) 40) (zCN (nA := 0) C rfl rfl tw_115 tw_10 (by decide +kernel) (by decide +kernel) ⟨Nat.le_of_ble_eq_true rfl, Nat.le_of_ble_eq_true rfl⟩) rfl tw_114 (Nat.le_of_ble_eq_true rfl) dX1_init_44 ⟨Nat.le_of_ble_eq_true rfl, Nat.le_of_ble_eq_true rfl⟩ (n2 := 41) (a2 := 7) (w2 := 32) rfl rfl rfl ?_
  refine z_aast C 3 (o := 35) (v := 40) (by decide) rfl rfl (by decide) (hG 40 (by decide) (by decide)) rfl (by unfold vp_in; decide) dX1_init_47 ?_
  refine z_G (G2 := (va_up (va_up G 33 (.inr (1, [.ref (B.1 + 34), .ref (B.1 + 35), .null, .null, .int 0, .int 0, .int 0]))) 35 (.inl (B.2.2.1 3, 6, .inr (.inr (.inr (.inr (zq B (fun j => 35 + 1 + j) 5)))))))) ((va_upA _ _ _ _).trans (by rw [show va_up (zq B (fun j => 35 + 1 + j) 4) (Int32.toNatClampNeg 4) (some (B.1 + 40)) = zq B (fun j => 35 + 1 + j) 5 from zq_s B (fun j => 35 + 1 + j) 4])) ?_
  refine z_iinc C [(1, .int 5), (0, .ref (B.1 + 33))] dX1_init_48 0 rfl (by decide) (by decide) rfl ?_
  refine z_goto C 26 dX1_init_51 (by decide) ?_
  refine z_iload_n C dX1_init_26 0 rfl rfl ?_
  refine z_aload_n C dX1_init_27 1 rfl rfl ?_
  refine z_get C (ci := 1) (o := 33) (j := 1) (v := .ref (B.1 + 35)) (fs := [.ref (B.1 + 34), .ref (B.1 + 35), .null, .null, .int 0, .int 0, .int 0]) zc_1 rfl (by decide) tw_169 rfl (by decide) rfl rfl dX1_init_28 ?_
  refine z_alen C (v := 6) 3 (o := 35) (by decide) rfl rfl rfl dX1_init_31 ?_
  refine z_icmp_ge C 54 dX1_init_32 (by decide) (fun hbr => absurd hbr (by decide)) (fun _ => ?_)
  refine z_aload_n C dX1_init_35 1 rfl rfl ?_
  refine z_get C (ci := 1) (o := 33) (j := 1) (v := .ref (B.1 + 35)) (fs := [.ref (B.1 + 34), .ref (B.1 + 35), .null, .null, .int 0, .int 0, .int 0]) zc_1 rfl (by decide) tw_169 rfl (by decide) rfl rfl dX1_init_36 ?_
  refine z_iload_n C dX1_init_39 0 rfl rfl ?_
  refine z_new C (ci := 0) (fs := [.int 0, .int 0, .int 0, .int 0]) tyX0 tyX0_ok zc_0 tw_110 tw_112 tw_10 rfl (by decide) (hG 41 (by decide) (by decide)) (Nat.le_of_ble_eq_true rfl) (Nat.le_of_ble_eq_true rfl) dX1_init_40 (n2 := 42) (a2 := 8) (w2 := 36) rfl rfl rfl ?_
  refine z_dup C dX1_init_43 rfl ?_
  refine z_callIN C hl (o := 41) (c_X0_init l B 42 (va_up (va_up G 33 (.inr (1, [.ref (B.1 + 34), .ref (B.1 + 35), .null, .null, .int 0, .int 0, .int 0]))) 35 (.inl (B.2.2.1 3, 6, .inr (.inr (.inr (.inr (zq B (fun j => 35 + 1 + j) 5))))))) 41) (zCN (nA := 0) C rfl rfl tw_115 tw_10 (by decide +kernel) (by decide +kernel) ⟨Nat.le_of_ble_eq_true rfl, Nat.le_of_ble_eq_true rfl⟩) rfl tw_114 (Nat.le_of_ble_eq_true rfl) dX1_init_44 ⟨Nat.le_of_ble_eq_true rfl, Nat.le_of_ble_eq_true rfl⟩ (n2 := 42) (a2 := 8) (w2 := 36) rfl rfl rfl ?_
  refine z_aast C 3 (o := 35) (v := 41) (by decide) rfl rfl (by decide) (hG 41 (by decide) (by decide)) rfl (by unfold vp_in; decide) dX1_init_47 ?_
  refine z_G (G2 := (va_up (va_up G 33 (.inr (1, [.ref (B.1 + 34), .ref (B.1 + 35), .null, .null, .int 0, .int 0, .int 0]))) 35 (.inl (B.2.2.1 3, 6, .inr (.inr (.inr (.inr (zq B (fun j => 35 + 1 + j) 6)))))))) ((va_upA _ _ _ _).trans (by rw [show va_up (zq B (fun j => 35 + 1 + j) 5) (Int32.toNatClampNeg 5) (some (B.1 + 41)) = zq B (fun j => 35 + 1 + j) 6 from zq_s B (fun j => 35 + 1 + j) 5])) ?_
  refine z_fill ?_
  refine z_G (G2 := (va_up G 33 (.inr (1, [.ref (B.1 + 34), .ref (B.1 + 35), .null, .null, .int 0, .int 0, .int 0])))) (va_upI _ _ _ (hG 35 (by decide) (by decide))) ?_
  refine z_iinc C [(1, .int 6), (0, .ref (B.1 + 33))] dX1_init_48 0 rfl (by decide) (by decide) rfl ?_
  refine z_goto C 26 dX1_init_51 (by decide) ?_
  refine z_iload_n C dX1_init_26 0 rfl rfl ?_
  refine z_aload_n C dX1_init_27 1 rfl rfl ?_
  refine z_get C (ci := 1) (o := 33) (j := 1) (v := .ref (B.1 + 35)) (fs := [.ref (B.1 + 34), .ref (B.1 + 35), .null, .null, .int 0, .int 0, .int 0]) zc_1 rfl (by decide) tw_169 rfl (by decide) rfl rfl dX1_init_28 ?_
  refine z_alen C (v := 6) 3 (o := 35) (by decide) (hG 35 (by decide) (by decide)) rfl rfl dX1_init_31 ?_
  refine z_icmp_ge C 54 dX1_init_32 (by decide) (fun _ => ?_) (fun hbr => absurd (by decide) hbr)
  refine z_aload_n C dX1_init_54 1 rfl rfl ?_
  refine z_bipush C dX1_init_55 kb_6 ?_
  refine z_GG (G2 := (va_up (va_up G 33 (.inr (1, [.ref (B.1 + 34), .ref (B.1 + 35), .null, .null, .int 0, .int 0, .int 0]))) 42 (.inl (B.2.2.1 5, 6, .inr (.inr (.inr (.inr (fun _ => none)))))))) (fun k hk => (va_up_ne _ _ (Nat.ne_of_lt hk)).symm) ?_
  refine z_anew C 5 (Cn := RX4) tw_138 (by decide) rfl (by decide) (N' := 6) (by decide) (by decide) rfl (Nat.le_of_ble_eq_true rfl) (Nat.le_of_ble_eq_true rfl) dX1_init_57 (n2 := 43) (a2 := 9) (w2 := 42) rfl rfl rfl ?_
  refine z_G (G2 := (va_up (va_up G 33 (.inr (1, [.ref (B.1 + 34), .ref (B.1 + 35), .null, .null, .int 0, .int 0, .int 0]))) 42 (.inl (B.2.2.1 5, 6, .inr (.inr (.inr (.inr (zq B (fun j => 42 + 1 + j) 0)))))))) (by rw [← zq_0]) ?_
  refine z_putF C hnm (ci := 1) (o := 33) (j := 2) (fs := [.ref (B.1 + 34), .ref (B.1 + 35), .null, .null, .int 0, .int 0, .int 0]) (ty := tyX1 2) tyX1 tyX1_ok nmX1 zc_1 rfl (by decide) tw_170 rfl rfl rfl (by decide +kernel) rfl rfl (by decide) rfl (Nat.le_of_ble_eq_true rfl) dX1_init_60 ?_
  refine z_G (G2 := (va_up (va_up G 33 (.inr (1, [.ref (B.1 + 34), .ref (B.1 + 35), .ref (B.1 + 42), .null, .int 0, .int 0, .int 0]))) 42 (.inl (B.2.2.1 5, 6, .inr (.inr (.inr (.inr (zq B (fun j => 42 + 1 + j) 0)))))))) (va_upB _ _ _ _ _ _ (by decide)) ?_
  refine z_iconst C dX1_init_63 ki_0 ?_
  refine z_istore_n C [(1, .int 0), (0, .ref (B.1 + 33))] dX1_init_64 rfl (by decide) rfl ?_
  refine z_iload_n C dX1_init_65 0 rfl rfl ?_
  refine z_aload_n C dX1_init_66 1 rfl rfl ?_
  refine z_get C (ci := 1) (o := 33) (j := 2) (v := .ref (B.1 + 42)) (fs := [.ref (B.1 + 34), .ref (B.1 + 35), .ref (B.1 + 42), .null, .int 0, .int 0, .int 0]) zc_1 rfl (by decide) tw_170 rfl (by decide) rfl rfl dX1_init_67 ?_
  refine z_alen C (v := 6) 5 (o := 42) (by decide) rfl rfl rfl dX1_init_70 ?_
  refine z_icmp_ge C 93 dX1_init_71 (by decide) (fun hbr => absurd hbr (by decide)) (fun _ => ?_)
  refine z_aload_n C dX1_init_74 1 rfl rfl ?_
  refine z_get C (ci := 1) (o := 33) (j := 2) (v := .ref (B.1 + 42)) (fs := [.ref (B.1 + 34), .ref (B.1 + 35), .ref (B.1 + 42), .null, .int 0, .int 0, .int 0]) zc_1 rfl (by decide) tw_170 rfl (by decide) rfl rfl dX1_init_75 ?_
  refine z_iload_n C dX1_init_78 0 rfl rfl ?_
  refine z_new C (ci := 4) (fs := [.int 0, .int 0, .int 0, .int 0]) tyX4 tyX4_ok zc_4 tw_138 tw_140 tw_11 rfl (by decide) (hG 43 (by decide) (by decide)) (Nat.le_of_ble_eq_true rfl) (Nat.le_of_ble_eq_true rfl) dX1_init_79 (n2 := 44) (a2 := 10) (w2 := 46) rfl rfl rfl ?_
  refine z_dup C dX1_init_82 rfl ?_
  refine z_callIN C hl (o := 43) (c_X4_init l B 44 (va_up (va_up G 33 (.inr (1, [.ref (B.1 + 34), .ref (B.1 + 35), .ref (B.1 + 42), .null, .int 0, .int 0, .int 0]))) 42 (.inl (B.2.2.1 5, 6, .inr (.inr (.inr (.inr (zq B (fun j => 42 + 1 + j) 0))))))) 43) (zCN (nA := 0) C rfl rfl tw_143 tw_11 (by decide +kernel) (by decide +kernel) ⟨Nat.le_of_ble_eq_true rfl, Nat.le_of_ble_eq_true rfl⟩) rfl tw_142 (Nat.le_of_ble_eq_true rfl) dX1_init_83 ⟨Nat.le_of_ble_eq_true rfl, Nat.le_of_ble_eq_true rfl⟩ (n2 := 44) (a2 := 10) (w2 := 46) rfl rfl rfl ?_
  refine z_aast C 5 (o := 42) (v := 43) (by decide) rfl rfl (by decide) (hG 43 (by decide) (by decide)) rfl (by unfold vp_in; decide) dX1_init_86 ?_
  refine z_G (G2 := (va_up (va_up G 33 (.inr (1, [.ref (B.1 + 34), .ref (B.1 + 35), .ref (B.1 + 42), .null, .int 0, .int 0, .int 0]))) 42 (.inl (B.2.2.1 5, 6, .inr (.inr (.inr (.inr (zq B (fun j => 42 + 1 + j) 1)))))))) ((va_upA _ _ _ _).trans (by rw [show va_up (zq B (fun j => 42 + 1 + j) 0) (Int32.toNatClampNeg 0) (some (B.1 + 43)) = zq B (fun j => 42 + 1 + j) 1 from zq_s B (fun j => 42 + 1 + j) 0])) ?_
  refine z_iinc C [(1, .int 1), (0, .ref (B.1 + 33))] dX1_init_87 0 rfl (by decide) (by decide) rfl ?_
  refine z_goto C 65 dX1_init_90 (by decide) ?_
  refine z_iload_n C dX1_init_65 0 rfl rfl ?_
  refine z_aload_n C dX1_init_66 1 rfl rfl ?_
  refine z_get C (ci := 1) (o := 33) (j := 2) (v := .ref (B.1 + 42)) (fs := [.ref (B.1 + 34), .ref (B.1 + 35), .ref (B.1 + 42), .null, .int 0, .int 0, .int 0]) zc_1 rfl (by decide) tw_170 rfl (by decide) rfl rfl dX1_init_67 ?_
  refine z_alen C (v := 6) 5 (o := 42) (by decide) rfl rfl rfl dX1_init_70 ?_
  refine z_icmp_ge C 93 dX1_init_71 (by decide) (fun hbr => absurd hbr (by decide)) (fun _ => ?_)
  refine z_aload_n C dX1_init_74 1 rfl rfl ?_
  refine z_get C (ci := 1) (o := 33) (j := 2) (v := .ref (B.1 + 42)) (fs := [.ref (B.1 + 34), .ref (B.1 + 35), .ref (B.1 + 42), .null, .int 0, .int 0, .int 0]) zc_1 rfl (by decide) tw_170 rfl (by decide) rfl rfl dX1_init_75 ?_
  refine z_iload_n C dX1_init_78 0 rfl rfl ?_
  refine z_new C (ci := 4) (fs := [.int 0, .int 0, .int 0, .int 0]) tyX4 tyX4_ok zc_4 tw_138 tw_140 tw_11 rfl (by decide) (hG 44 (by decide) (by decide)) (Nat.le_of_ble_eq_true rfl) (Nat.le_of_ble_eq_true rfl) dX1_init_79 (n2 := 45) (a2 := 11) (w2 := 50) rfl rfl rfl ?_
  refine z_dup C dX1_init_82 rfl ?_
  refine z_callIN C hl (o := 44) (c_X4_init l B 45 (va_up (va_up G 33 (.inr (1, [.ref (B.1 + 34), .ref (B.1 + 35), .ref (B.1 + 42), .null, .int 0, .int 0, .int 0]))) 42 (.inl (B.2.2.1 5, 6, .inr (.inr (.inr (.inr (zq B (fun j => 42 + 1 + j) 1))))))) 44) (zCN (nA := 0) C rfl rfl tw_143 tw_11 (by decide +kernel) (by decide +kernel) ⟨Nat.le_of_ble_eq_true rfl, Nat.le_of_ble_eq_true rfl⟩) rfl tw_142 (Nat.le_of_ble_eq_true rfl) dX1_init_83 ⟨Nat.le_of_ble_eq_true rfl, Nat.le_of_ble_eq_true rfl⟩ (n2 := 45) (a2 := 11) (w2 := 50) rfl rfl rfl ?_
  refine z_aast C 5 (o := 42) (v := 44) (by decide) rfl rfl (by decide) (hG 44 (by decide) (by decide)) rfl (by unfold vp_in; decide) dX1_init_86 ?_
  refine z_G (G2 := (va_up (va_up G 33 (.inr (1, [.ref (B.1 + 34), .ref (B.1 + 35), .ref (B.1 + 42), .null, .int 0, .int 0, .int 0]))) 42 (.inl (B.2.2.1 5, 6, .inr (.inr (.inr (.inr (zq B (fun j => 42 + 1 + j) 2)))))))) ((va_upA _ _ _ _).trans (by rw [show va_up (zq B (fun j => 42 + 1 + j) 1) (Int32.toNatClampNeg 1) (some (B.1 + 44)) = zq B (fun j => 42 + 1 + j) 2 from zq_s B (fun j => 42 + 1 + j) 1])) ?_
  refine z_iinc C [(1, .int 2), (0, .ref (B.1 + 33))] dX1_init_87 0 rfl (by decide) (by decide) rfl ?_
  refine z_goto C 65 dX1_init_90 (by decide) ?_
  refine z_iload_n C dX1_init_65 0 rfl rfl ?_
  refine z_aload_n C dX1_init_66 1 rfl rfl ?_
  refine z_get C (ci := 1) (o := 33) (j := 2) (v := .ref (B.1 + 42)) (fs := [.ref (B.1 + 34), .ref (B.1 + 35), .ref (B.1 + 42), .null, .int 0, .int 0, .int 0]) zc_1 rfl (by decide) tw_170 rfl (by decide) rfl rfl dX1_init_67 ?_
  refine z_alen C (v := 6) 5 (o := 42) (by decide) rfl rfl rfl dX1_init_70 ?_
  refine z_icmp_ge C 93 dX1_init_71 (by decide) (fun hbr => absurd hbr (by decide)) (fun _ => ?_)
  refine z_aload_n C dX1_init_74 1 rfl rfl ?_
  refine z_get C (ci := 1) (o := 33) (j := 2) (v := .ref (B.1 + 42)) (fs := [.ref (B.1 + 34), .ref (B.1 + 35), .ref (B.1 + 42), .null, .int 0, .int 0, .int 0]) zc_1 rfl (by decide) tw_170 rfl (by decide) rfl rfl dX1_init_75 ?_
  refine z_iload_n C dX1_init_78 0 rfl rfl ?_
  refine z_new C (ci := 4) (fs := [.int 0, .int 0, .int 0, .int 0]) tyX4 tyX4_ok zc_4 tw_138 tw_140 tw_11 rfl (by decide) (hG 45 (by decide) (by decide)) (Nat.le_of_ble_eq_true rfl) (Nat.le_of_ble_eq_true rfl) dX1_init_79 (n2 := 46) (a2 := 12) (w2 := 54) rfl rfl rfl ?_
  refine z_dup C dX1_init_82 rfl ?_
  refine z_callIN C hl (o := 45) (c_X4_init l B 46 (va_up (va_up G 33 (.inr (1, [.ref (B.1 + 34), .ref (B.1 + 35), .ref (B.1 + 42), .null, .int 0, .int 0, .int 0]))) 42 (.inl (B.2.2.1 5, 6, .inr (.inr (.inr (.inr (zq B (fun j => 42 + 1 + j) 2))))))) 45) (zCN (nA := 0) C rfl rfl tw_143 tw_11 (by decide +kernel) (by decide +kernel) ⟨Nat.le_of_ble_eq_true rfl, Nat.le_of_ble_eq_true rfl⟩) rfl tw_142 (Nat.le_of_ble_eq_true rfl) dX1_init_83 ⟨Nat.le_of_ble_eq_true rfl, Nat.le_of_ble_eq_true rfl⟩ (n2 := 46) (a2 := 12) (w2 := 54) rfl rfl rfl ?_
  refine z_aast C 5 (o := 42) (v := 45) (by decide) rfl rfl (by decide) (hG 45 (by decide) (by decide)) rfl (by unfold vp_in; decide) dX1_init_86 ?_
  refine z_G (G2 := (va_up (va_up G 33 (.inr (1, [.ref (B.1 + 34), .ref (B.1 + 35), .ref (B.1 + 42), .null, .int 0, .int 0, .int 0]))) 42 (.inl (B.2.2.1 5, 6, .inr (.inr (.inr (.inr (zq B (fun j => 42 + 1 + j) 3)))))))) ((va_upA _ _ _ _).trans (by rw [show va_up (zq B (fun j => 42 + 1 + j) 2) (Int32.toNatClampNeg 2) (some (B.1 + 45)) = zq B (fun j => 42 + 1 + j) 3 from zq_s B (fun j => 42 + 1 + j) 2])) ?_
  refine z_iinc C [(1, .int 3), (0, .ref (B.1 + 33))] dX1_init_87 0 rfl (by decide) (by decide) rfl ?_
  refine z_goto C 65 dX1_init_90 (by decide) ?_
  refine z_iload_n C dX1_init_65 0 rfl rfl ?_
  refine z_aload_n C dX1_init_66 1 rfl rfl ?_
  refine z_get C (ci := 1) (o := 33) (j := 2) (v := .ref (B.1 + 42)) (fs := [.ref (B.1 + 34), .ref (B.1 + 35), .ref (B.1 + 42), .null, .int 0, .int 0, .int 0]) zc_1 rfl (by decide) tw_170 rfl (by decide) rfl rfl dX1_init_67 ?_
  refine z_alen C (v := 6) 5 (o := 42) (by decide) rfl rfl rfl dX1_init_70 ?_
  refine z_icmp_ge C 93 dX1_init_71 (by decide) (fun hbr => absurd hbr (by decide)) (fun _ => ?_)
  refine z_aload_n C dX1_init_74 1 rfl rfl ?_
  refine z_get C (ci := 1) (o := 33) (j := 2) (v := .ref (B.1 + 42)) (fs := [.ref (B.1 + 34), .ref (B.1 + 35), .ref (B.1 + 42), .null, .int 0, .int 0, .int 0]) zc_1 rfl (by decide) tw_170 rfl (by decide) rfl rfl dX1_init_75 ?_
  refine z_iload_n C dX1_init_78 0 rfl rfl ?_
  refine z_new C (ci := 4) (fs := [.int 0, .int 0, .int 0, .int 0]) tyX4 tyX4_ok zc_4 tw_138 tw_140 tw_11 rfl (by decide) (hG 46 (by decide) (by decide)) (Nat.le_of_ble_eq_true rfl) (Nat.le_of_ble_eq_true rfl) dX1_init_79 (n2 := 47) (a2 := 13) (w2 := 58) rfl rfl rfl ?_
  refine z_dup C dX1_init_82 rfl ?_
  refine z_callIN C hl (o := 46) (c_X4_init l B 47 (va_up (va_up G 33 (.inr (1, [.ref (B.1 + 34), .ref (B.1 + 35), .ref (B.1 + 42), .null, .int 0, .int 0, .int 0]))) 42 (.inl (B.2.2.1 5, 6, .inr (.inr (.inr (.inr (zq B (fun j => 42 + 1 + j) 3))))))) 46) (zCN (nA := 0) C rfl rfl tw_143 tw_11 (by decide +kernel) (by decide +kernel) ⟨Nat.le_of_ble_eq_true rfl, Nat.le_of_ble_eq_true rfl⟩) rfl tw_142 (Nat.le_of_ble_eq_true rfl) dX1_init_83 ⟨Nat.le_of_ble_eq_true rfl, Nat.le_of_ble_eq_true rfl⟩ (n2 := 47) (a2 := 13) (w2 := 58) rfl rfl rfl ?_
  refine z_aast C 5 (o := 42) (v := 46) (by decide) rfl rfl (by decide) (hG 46 (by decide) (by decide)) rfl (by unfold vp_in; decide) dX1_init_86 ?_
  refine z_G (G2 := (va_up (va_up G 33 (.inr (1, [.ref (B.1 + 34), .ref (B.1 + 35), .ref (B.1 + 42), .null, .int 0, .int 0, .int 0]))) 42 (.inl (B.2.2.1 5, 6, .inr (.inr (.inr (.inr (zq B (fun j => 42 + 1 + j) 4)))))))) ((va_upA _ _ _ _).trans (by rw [show va_up (zq B (fun j => 42 + 1 + j) 3) (Int32.toNatClampNeg 3) (some (B.1 + 46)) = zq B (fun j => 42 + 1 + j) 4 from zq_s B (fun j => 42 + 1 + j) 3])) ?_
  refine z_iinc C [(1, .int 4), (0, .ref (B.1 + 33))] dX1_init_87 0 rfl (by decide) (by decide) rfl ?_
  refine z_goto C 65 dX1_init_90 (by decide) ?_
  refine z_iload_n C dX1_init_65 0 rfl rfl ?_
  refine z_aload_n C dX1_init_66 1 rfl rfl ?_
  refine z_get C (ci := 1) (o := 33) (j := 2) (v := .ref (B.1 + 42)) (fs := [.ref (B.1 + 34), .ref (B.1 + 35), .ref (B.1 + 42), .null, .int 0, .int 0, .int 0]) zc_1 rfl (by decide) tw_170 rfl (by decide) rfl rfl dX1_init_67 ?_
  refine z_alen C (v := 6) 5 (o := 42) (by decide) rfl rfl rfl dX1_init_70 ?_
  refine z_icmp_ge C 93 dX1_init_71 (by decide) (fun hbr => absurd hbr (by decide)) (fun _ => ?_)
  refine z_aload_n C dX1_init_74 1 rfl rfl ?_
  refine z_get C (ci := 1) (o := 33) (j := 2) (v := .ref (B.1 + 42)) (fs := [.ref (B.1 + 34), .ref (B.1 + 35), .ref (B.1 + 42), .null, .int 0, .int 0, .int 0]) zc_1 rfl (by decide) tw_170 rfl (by decide) rfl rfl dX1_init_75 ?_
  refine z_iload_n C dX1_init_78 0 rfl rfl ?_
  refine z_new C (ci := 4) (fs := [.int 0, .int 0, .int 0, .int 0]) tyX4 tyX4_ok zc_4 tw_138 tw_140 tw_11 rfl (by decide) (hG 47 (by decide) (by decide)) (Nat.le_of_ble_eq_true rfl) (Nat.le_of_ble_eq_true rfl) dX1_init_79 (n2 := 48) (a2 := 14) (w2 := 62) rfl rfl rfl ?_
  refine z_dup C dX1_init_82 rfl ?_
  refine z_callIN C hl (o := 47) (c_X4_init l B 48 (va_up (va_up G 33 (.inr (1, [.ref (B.1 + 34), .ref (B.1 + 35), .ref (B.1 + 42), .null, .int 0, .int 0, .int 0]))) 42 (.inl (B.2.2.1 5, 6, .inr (.inr (.inr (.inr (zq B (fun j => 42 + 1 + j) 4))))))) 47) (zCN (nA := 0) C rfl rfl tw_143 tw_11 (by decide +kernel) (by decide +kernel) ⟨Nat.le_of_ble_eq_true rfl, Nat.le_of_ble_eq_true rfl⟩) rfl tw_142 (Nat.le_of_ble_eq_true rfl) dX1_init_83 ⟨Nat.le_of_ble_eq_true rfl, Nat.le_of_ble_eq_true rfl⟩ (n2 := 48) (a2 := 14) (w2 := 62) rfl rfl rfl ?_
  refine z_aast C 5 (o := 42) (v := 47) (by decide) rfl rfl (by decide) (hG 47 (by decide) (by decide)) rfl (by unfold vp_in; decide) dX1_init_86 ?_
  refine z_G (G2 := (va_up (va_up G 33 (.inr (1, [.ref (B.1 + 34), .ref (B.1 + 35), .ref (B.1 + 42), .null, .int 0, .int 0, .int 0]))) 42 (.inl (B.2.2.1 5, 6, .inr (.inr (.inr (.inr (zq B (fun j => 42 + 1 + j) 5)))))))) ((va_upA _ _ _ _).trans (by rw [show va_up (zq B (fun j => 42 + 1 + j) 4) (Int32.toNatClampNeg 4) (some (B.1 + 47)) = zq B (fun j => 42 + 1 + j) 5 from zq_s B (fun j => 42 + 1 + j) 4])) ?_
  refine z_iinc C [(1, .int 5), (0, .ref (B.1 + 33))] dX1_init_87 0 rfl (by decide) (by decide) rfl ?_
  refine z_goto C 65 dX1_init_90 (by decide) ?_
  refine z_iload_n C dX1_init_65 0 rfl rfl ?_
  refine z_aload_n C dX1_init_66 1 rfl rfl ?_
  refine z_get C (ci := 1) (o := 33) (j := 2) (v := .ref (B.1 + 42)) (fs := [.ref (B.1 + 34), .ref (B.1 + 35), .ref (B.1 + 42), .null, .int 0, .int 0, .int 0]) zc_1 rfl (by decide) tw_170 rfl (by decide) rfl rfl dX1_init_67 ?_
  refine z_alen C (v := 6) 5 (o := 42) (by decide) rfl rfl rfl dX1_init_70 ?_
  refine z_icmp_ge C 93 dX1_init_71 (by decide) (fun hbr => absurd hbr (by decide)) (fun _ => ?_)
  refine z_aload_n C dX1_init_74 1 rfl rfl ?_
  refine z_get C (ci := 1) (o := 33) (j := 2) (v := .ref (B.1 + 42)) (fs := [.ref (B.1 + 34), .ref (B.1 + 35), .ref (B.1 + 42), .null, .int 0, .int 0, .int 0]) zc_1 rfl (by decide) tw_170 rfl (by decide) rfl rfl dX1_init_75 ?_
  refine z_iload_n C dX1_init_78 0 rfl rfl ?_
  refine z_new C (ci := 4) (fs := [.int 0, .int 0, .int 0, .int 0]) tyX4 tyX4_ok zc_4 tw_138 tw_140 tw_11 rfl (by decide) (hG 48 (by decide) (by decide)) (Nat.le_of_ble_eq_true rfl) (Nat.le_of_ble_eq_true rfl) dX1_init_79 (n2 := 49) (a2 := 15) (w2 := 66) rfl rfl rfl ?_
  refine z_dup C dX1_init_82 rfl ?_
  refine z_callIN C hl (o := 48) (c_X4_init l B 49 (va_up (va_up G 33 (.inr (1, [.ref (B.1 + 34), .ref (B.1 + 35), .ref (B.1 + 42), .null, .int 0, .int 0, .int 0]))) 42 (.inl (B.2.2.1 5, 6, .inr (.inr (.inr (.inr (zq B (fun j => 42 + 1 + j) 5))))))) 48) (zCN (nA := 0) C rfl rfl tw_143 tw_11 (by decide +kernel) (by decide +kernel) ⟨Nat.le_of_ble_eq_true rfl, Nat.le_of_ble_eq_true rfl⟩) rfl tw_142 (Nat.le_of_ble_eq_true rfl) dX1_init_83 ⟨Nat.le_of_ble_eq_true rfl, Nat.le_of_ble_eq_true rfl⟩ (n2 := 49) (a2 := 15) (w2 := 66) rfl rfl rfl ?_
  refine z_aast C 5 (o := 42) (v := 48) (by decide) rfl rfl (by decide) (hG 48 (by decide) (by decide)) rfl (by unfold vp_in; decide) dX1_init_86 ?_
  refine z_G (G2 := (va_up (va_up G 33 (.inr (1, [.ref (B.1 + 34), .ref (B.1 + 35), .ref (B.1 + 42), .null, .int 0, .int 0, .int 0]))) 42 (.inl (B.2.2.1 5, 6, .inr (.inr (.inr (.inr (zq B (fun j => 42 + 1 + j) 6)))))))) ((va_upA _ _ _ _).trans (by rw [show va_up (zq B (fun j => 42 + 1 + j) 5) (Int32.toNatClampNeg 5) (some (B.1 + 48)) = zq B (fun j => 42 + 1 + j) 6 from zq_s B (fun j => 42 + 1 + j) 5])) ?_
  refine z_fill ?_
  refine z_G (G2 := (va_up G 33 (.inr (1, [.ref (B.1 + 34), .ref (B.1 + 35), .ref (B.1 + 42), .null, .int 0, .int 0, .int 0])))) (va_upI _ _ _ (hG 42 (by decide) (by decide))) ?_
  refine z_iinc C [(1, .int 6), (0, .ref (B.1 + 33))] dX1_init_87 0 rfl (by decide) (by decide) rfl ?_
  refine z_goto C 65 dX1_init_90 (by decide) ?_
  refine z_iload_n C dX1_init_65 0 rfl rfl ?_
  refine z_aload_n C dX1_init_66 1 rfl rfl ?_
  refine z_get C (ci := 1) (o := 33) (j := 2) (v := .ref (B.1 + 42)) (fs := [.ref (B.1 + 34), .ref (B.1 + 35), .ref (B.1 + 42), .null, .int 0, .int 0, .int 0]) zc_1 rfl (by decide) tw_170 rfl (by decide) rfl rfl dX1_init_67 ?_
  refine z_alen C (v := 6) 5 (o := 42) (by decide) (hG 42 (by decide) (by decide)) rfl rfl dX1_init_70 ?_
  refine z_icmp_ge C 93 dX1_init_71 (by decide) (fun _ => ?_) (fun hbr => absurd (by decide) hbr)
  refine z_aload_n C dX1_init_93 1 rfl rfl ?_
  refine z_bipush C dX1_init_94 kb_8 ?_
  refine z_GG (G2 := (va_up (va_up G 33 (.inr (1, [.ref (B.1 + 34), .ref (B.1 + 35), .ref (B.1 + 42), .null, .int 0, .int 0, .int 0]))) 49 (.inl (B.2.2.1 7, 8, .inr (.inr (.inr (.inr (fun _ => none)))))))) (fun k hk => (va_up_ne _ _ (Nat.ne_of_lt hk)).symm) ?_
  refine z_anew C 7 (Cn := RX8) tw_77 (by decide) rfl (by decide) (N' := 8) (by decide) (by decide) rfl (Nat.le_of_ble_eq_true rfl) (Nat.le_of_ble_eq_true rfl) dX1_init_96 (n2 := 50) (a2 := 16) (w2 := 74) rfl rfl rfl ?_
  refine z_G (G2 := (va_up (va_up G 33 (.inr (1, [.ref (B.1 + 34), .ref (B.1 + 35), .ref (B.1 + 42), .null, .int 0, .int 0, .int 0]))) 49 (.inl (B.2.2.1 7, 8, .inr (.inr (.inr (.inr (zq B (fun j => 49 + 1 + j) 0)))))))) (by rw [← zq_0]) ?_
  refine z_putF C hnm (ci := 1) (o := 33) (j := 3) (fs := [.ref (B.1 + 34), .ref (B.1 + 35), .ref (B.1 + 42), .null, .int 0, .int 0, .int 0]) (ty := tyX1 3) tyX1 tyX1_ok nmX1 zc_1 rfl (by decide) tw_171 rfl rfl rfl (by decide +kernel) rfl rfl (by decide) rfl (Nat.le_of_ble_eq_true rfl) dX1_init_99 ?_
  refine z_G (G2 := (va_up (va_up G 33 (.inr (1, [.ref (B.1 + 34), .ref (B.1 + 35), .ref (B.1 + 42), .ref (B.1 + 49), .int 0, .int 0, .int 0]))) 49 (.inl (B.2.2.1 7, 8, .inr (.inr (.inr (.inr (zq B (fun j => 49 + 1 + j) 0)))))))) (va_upB _ _ _ _ _ _ (by decide)) ?_
  refine z_iconst C dX1_init_102 ki_0 ?_
  refine z_istore_n C [(1, .int 0), (0, .ref (B.1 + 33))] dX1_init_103 rfl (by decide) rfl ?_
  refine z_iload_n C dX1_init_104 0 rfl rfl ?_
  refine z_aload_n C dX1_init_105 1 rfl rfl ?_
  refine z_get C (ci := 1) (o := 33) (j := 3) (v := .ref (B.1 + 49)) (fs := [.ref (B.1 + 34), .ref (B.1 + 35), .ref (B.1 + 42), .ref (B.1 + 49), .int 0, .int 0, .int 0]) zc_1 rfl (by decide) tw_171 rfl (by decide) rfl rfl dX1_init_106 ?_
  refine z_alen C (v := 8) 7 (o := 49) (by decide) rfl rfl rfl dX1_init_109 ?_
  refine z_icmp_ge C 132 dX1_init_110 (by decide) (fun hbr => absurd hbr (by decide)) (fun _ => ?_)
  refine z_aload_n C dX1_init_113 1 rfl rfl ?_
  refine z_get C (ci := 1) (o := 33) (j := 3) (v := .ref (B.1 + 49)) (fs := [.ref (B.1 + 34), .ref (B.1 + 35), .ref (B.1 + 42), .ref (B.1 + 49), .int 0, .int 0, .int 0]) zc_1 rfl (by decide) tw_171 rfl (by decide) rfl rfl dX1_init_114 ?_
  refine z_iload_n C dX1_init_117 0 rfl rfl ?_
  refine z_new C (ci := 8) (fs := [.int 0, .int 0, .int 0, .int 0, .int 0, .int 0]) tyX8 tyX8_ok zc_8 tw_77 tw_78 tw_9 rfl (by decide) (hG 50 (by decide) (by decide)) (Nat.le_of_ble_eq_true rfl) (Nat.le_of_ble_eq_true rfl) dX1_init_118 (n2 := 51) (a2 := 17) (w2 := 80) rfl rfl rfl ?_
  refine z_dup C dX1_init_121 rfl ?_
  refine z_callIN C hl (o := 50) (c_X8_init l B 51 (va_up (va_up G 33 (.inr (1, [.ref (B.1 + 34), .ref (B.1 + 35), .ref (B.1 + 42), .ref (B.1 + 49), .int 0, .int 0, .int 0]))) 49 (.inl (B.2.2.1 7, 8, .inr (.inr (.inr (.inr (zq B (fun j => 49 + 1 + j) 0))))))) 50) (zCN (nA := 0) C rfl rfl tw_81 tw_9 (by decide +kernel) (by decide +kernel) ⟨Nat.le_of_ble_eq_true rfl, Nat.le_of_ble_eq_true rfl⟩) rfl tw_80 (Nat.le_of_ble_eq_true rfl) dX1_init_122 ⟨Nat.le_of_ble_eq_true rfl, Nat.le_of_ble_eq_true rfl⟩ (n2 := 51) (a2 := 17) (w2 := 80) rfl rfl rfl ?_
  refine z_aast C 7 (o := 49) (v := 50) (by decide) rfl rfl (by decide) (hG 50 (by decide) (by decide)) rfl (by unfold vp_in; decide) dX1_init_125 ?_
  refine z_G (G2 := (va_up (va_up G 33 (.inr (1, [.ref (B.1 + 34), .ref (B.1 + 35), .ref (B.1 + 42), .ref (B.1 + 49), .int 0, .int 0, .int 0]))) 49 (.inl (B.2.2.1 7, 8, .inr (.inr (.inr (.inr (zq B (fun j => 49 + 1 + j) 1)))))))) ((va_upA _ _ _ _).trans (by rw [show va_up (zq B (fun j => 49 + 1 + j) 0) (Int32.toNatClampNeg 0) (some (B.1 + 50)) = zq B (fun j => 49 + 1 + j) 1 from zq_s B (fun j => 49 + 1 + j) 0])) ?_
  refine z_iinc C [(1, .int 1), (0, .ref (B.1 + 33))] dX1_init_126 0 rfl (by decide) (by decide) rfl ?_
  refine z_goto C 104 dX1_init_129 (by decide) ?_
  refine z_iload_n C dX1_init_104 0 rfl rfl ?_
  refine z_aload_n C dX1_init_105 1 rfl rfl ?_
  refine z_get C (ci := 1) (o := 33) (j := 3) (v := .ref (B.1 + 49)) (fs := [.ref (B.1 + 34), .ref (B.1 + 35), .ref (B.1 + 42), .ref (B.1 + 49), .int 0, .int 0, .int 0]) zc_1 rfl (by decide) tw_171 rfl (by decide) rfl rfl dX1_init_106 ?_
  refine z_alen C (v := 8) 7 (o := 49) (by decide) rfl rfl rfl dX1_init_109 ?_
  refine z_icmp_ge C 132 dX1_init_110 (by decide) (fun hbr => absurd hbr (by decide)) (fun _ => ?_)
  refine z_aload_n C dX1_init_113 1 rfl rfl ?_
  refine z_get C (ci := 1) (o := 33) (j := 3) (v := .ref (B.1 + 49)) (fs := [.ref (B.1 + 34), .ref (B.1 + 35), .ref (B.1 + 42), .ref (B.1 + 49), .int 0, .int 0, .int 0]) zc_1 rfl (by decide) tw_171 rfl (by decide) rfl rfl dX1_init_114 ?_
  refine z_iload_n C dX1_init_117 0 rfl rfl ?_
  refine z_new C (ci := 8) (fs := [.int 0, .int 0, .int 0, .int 0, .int 0, .int 0]) tyX8 tyX8_ok zc_8 tw_77 tw_78 tw_9 rfl (by decide) (hG 51 (by decide) (by decide)) (Nat.le_of_ble_eq_true rfl) (Nat.le_of_ble_eq_true rfl) dX1_init_118 (n2 := 52) (a2 := 18) (w2 := 86) rfl rfl rfl ?_
  refine z_dup C dX1_init_121 rfl ?_
  refine z_callIN C hl (o := 51) (c_X8_init l B 52 (va_up (va_up G 33 (.inr (1, [.ref (B.1 + 34), .ref (B.1 + 35), .ref (B.1 + 42), .ref (B.1 + 49), .int 0, .int 0, .int 0]))) 49 (.inl (B.2.2.1 7, 8, .inr (.inr (.inr (.inr (zq B (fun j => 49 + 1 + j) 1))))))) 51) (zCN (nA := 0) C rfl rfl tw_81 tw_9 (by decide +kernel) (by decide +kernel) ⟨Nat.le_of_ble_eq_true rfl, Nat.le_of_ble_eq_true rfl⟩) rfl tw_80 (Nat.le_of_ble_eq_true rfl) dX1_init_122 ⟨Nat.le_of_ble_eq_true rfl, Nat.le_of_ble_eq_true rfl⟩ (n2 := 52) (a2 := 18) (w2 := 86) rfl rfl rfl ?_
  refine z_aast C 7 (o := 49) (v := 51) (by decide) rfl rfl (by decide) (hG 51 (by decide) (by decide)) rfl (by unfold vp_in; decide) dX1_init_125 ?_
  refine z_G (G2 := (va_up (va_up G 33 (.inr (1, [.ref (B.1 + 34), .ref (B.1 + 35), .ref (B.1 + 42), .ref (B.1 + 49), .int 0, .int 0, .int 0]))) 49 (.inl (B.2.2.1 7, 8, .inr (.inr (.inr (.inr (zq B (fun j => 49 + 1 + j) 2)))))))) ((va_upA _ _ _ _).trans (by rw [show va_up (zq B (fun j => 49 + 1 + j) 1) (Int32.toNatClampNeg 1) (some (B.1 + 51)) = zq B (fun j => 49 + 1 + j) 2 from zq_s B (fun j => 49 + 1 + j) 1])) ?_
  refine z_iinc C [(1, .int 2), (0, .ref (B.1 + 33))] dX1_init_126 0 rfl (by decide) (by decide) rfl ?_
  refine z_goto C 104 dX1_init_129 (by decide) ?_
  refine z_iload_n C dX1_init_104 0 rfl rfl ?_
  refine z_aload_n C dX1_init_105 1 rfl rfl ?_
  refine z_get C (ci := 1) (o := 33) (j := 3) (v := .ref (B.1 + 49)) (fs := [.ref (B.1 + 34), .ref (B.1 + 35), .ref (B.1 + 42), .ref (B.1 + 49), .int 0, .int 0, .int 0]) zc_1 rfl (by decide) tw_171 rfl (by decide) rfl rfl dX1_init_106 ?_
  refine z_alen C (v := 8) 7 (o := 49) (by decide) rfl rfl rfl dX1_init_109 ?_
  refine z_icmp_ge C 132 dX1_init_110 (by decide) (fun hbr => absurd hbr (by decide)) (fun _ => ?_)
  refine z_aload_n C dX1_init_113 1 rfl rfl ?_
  refine z_get C (ci := 1) (o := 33) (j := 3) (v := .ref (B.1 + 49)) (fs := [.ref (B.1 + 34), .ref (B.1 + 35), .ref (B.1 + 42), .ref (B.1 + 49), .int 0, .int 0, .int 0]) zc_1 rfl (by decide) tw_171 rfl (by decide) rfl rfl dX1_init_114 ?_
  refine z_iload_n C dX1_init_117 0 rfl rfl ?_
  refine z_new C (ci := 8) (fs := [.int 0, .int 0, .int 0, .int 0, .int 0, .int 0]) tyX8 tyX8_ok zc_8 tw_77 tw_78 tw_9 rfl (by decide) (hG 52 (by decide) (by decide)) (Nat.le_of_ble_eq_true rfl) (Nat.le_of_ble_eq_true rfl) dX1_init_118 (n2 := 53) (a2 := 19) (w2 := 92) rfl rfl rfl ?_
  refine z_dup C dX1_init_121 rfl ?_
  refine z_callIN C hl (o := 52) (c_X8_init l B 53 (va_up (va_up G 33 (.inr (1, [.ref (B.1 + 34), .ref (B.1 + 35), .ref (B.1 + 42), .ref (B.1 + 49), .int 0, .int 0, .int 0]))) 49 (.inl (B.2.2.1 7, 8, .inr (.inr (.inr (.inr (zq B (fun j => 49 + 1 + j) 2))))))) 52) (zCN (nA := 0) C rfl rfl tw_81 tw_9 (by decide +kernel) (by decide +kernel) ⟨Nat.le_of_ble_eq_true rfl, Nat.le_of_ble_eq_true rfl⟩) rfl tw_80 (Nat.le_of_ble_eq_true rfl) dX1_init_122 ⟨Nat.le_of_ble_eq_true rfl, Nat.le_of_ble_eq_true rfl⟩ (n2 := 53) (a2 := 19) (w2 := 92) rfl rfl rfl ?_
  refine z_aast C 7 (o := 49) (v := 52) (by decide) rfl rfl (by decide) (hG 52 (by decide) (by decide)) rfl (by unfold vp_in; decide) dX1_init_125 ?_
  refine z_G (G2 := (va_up (va_up G 33 (.inr (1, [.ref (B.1 + 34), .ref (B.1 + 35), .ref (B.1 + 42), .ref (B.1 + 49), .int 0, .int 0, .int 0]))) 49 (.inl (B.2.2.1 7, 8, .inr (.inr (.inr (.inr (zq B (fun j => 49 + 1 + j) 3)))))))) ((va_upA _ _ _ _).trans (by rw [show va_up (zq B (fun j => 49 + 1 + j) 2) (Int32.toNatClampNeg 2) (some (B.1 + 52)) = zq B (fun j => 49 + 1 + j) 3 from zq_s B (fun j => 49 + 1 + j) 2])) ?_
  refine z_iinc C [(1, .int 3), (0, .ref (B.1 + 33))] dX1_init_126 0 rfl (by decide) (by decide) rfl ?_
  refine z_goto C 104 dX1_init_129 (by decide) ?_
  refine z_iload_n C dX1_init_104 0 rfl rfl ?_
  refine z_aload_n C dX1_init_105 1 rfl rfl ?_
  refine z_get C (ci := 1) (o := 33) (j := 3) (v := .ref (B.1 + 49)) (fs := [.ref (B.1 + 34), .ref (B.1 + 35), .ref (B.1 + 42), .ref (B.1 + 49), .int 0, .int 0, .int 0]) zc_1 rfl (by decide) tw_171 rfl (by decide) rfl rfl dX1_init_106 ?_
  refine z_alen C (v := 8) 7 (o := 49) (by decide) rfl rfl rfl dX1_init_109 ?_
  refine z_icmp_ge C 132 dX1_init_110 (by decide) (fun hbr => absurd hbr (by decide)) (fun _ => ?_)
  refine z_aload_n C dX1_init_113 1 rfl rfl ?_
  refine z_get C (ci := 1) (o := 33) (j := 3) (v := .ref (B.1 + 49)) (fs := [.ref (B.1 + 34), .ref (B.1 + 35), .ref (B.1 + 42), .ref (B.1 + 49), .int 0, .int 0, .int 0]) zc_1 rfl (by decide) tw_171 rfl (by decide) rfl rfl dX1_init_114 ?_
  refine z_iload_n C dX1_init_117 0 rfl rfl ?_
  refine z_new C (ci := 8) (fs := [.int 0, .int 0, .int 0, .int 0, .int 0, .int 0]) tyX8 tyX8_ok zc_8 tw_77 tw_78 tw_9 rfl (by decide) (hG 53 (by decide) (by decide)) (Nat.le_of_ble_eq_true rfl) (Nat.le_of_ble_eq_true rfl) dX1_init_118 (n2 := 54) (a2 := 20) (w2 := 98) rfl rfl rfl ?_
  refine z_dup C dX1_init_121 rfl ?_
  refine z_callIN C hl (o := 53) (c_X8_init l B 54 (va_up (va_up G 33 (.inr (1, [.ref (B.1 + 34), .ref (B.1 + 35), .ref (B.1 + 42), .ref (B.1 + 49), .int 0, .int 0, .int 0]))) 49 (.inl (B.2.2.1 7, 8, .inr (.inr (.inr (.inr (zq B (fun j => 49 + 1 + j) 3))))))) 53) (zCN (nA := 0) C rfl rfl tw_81 tw_9 (by decide +kernel) (by decide +kernel) ⟨Nat.le_of_ble_eq_true rfl, Nat.le_of_ble_eq_true rfl⟩) rfl tw_80 (Nat.le_of_ble_eq_true rfl) dX1_init_122 ⟨Nat.le_of_ble_eq_true rfl, Nat.le_of_ble_eq_true rfl⟩ (n2 := 54) (a2 := 20) (w2 := 98) rfl rfl rfl ?_
  refine z_aast C 7 (o := 49) (v := 53) (by decide) rfl rfl (by decide) (hG 53 (by decide) (by decide)) rfl (by unfold vp_in; decide) dX1_init_125 ?_
  refine z_G (G2 := (va_up (va_up G 33 (.inr (1, [.ref (B.1 + 34), .ref (B.1 + 35), .ref (B.1 + 42), .ref (B.1 + 49), .int 0, .int 0, .int 0]))) 49 (.inl (B.2.2.1 7, 8, .inr (.inr (.inr (.inr (zq B (fun j => 49 + 1 + j) 4)))))))) ((va_upA _ _ _ _).trans (by rw [show va_up (zq B (fun j => 49 + 1 + j) 3) (Int32.toNatClampNeg 3) (some (B.1 + 53)) = zq B (fun j => 49 + 1 + j) 4 from zq_s B (fun j => 49 + 1 + j) 3])) ?_
  refine z_iinc C [(1, .int 4), (0, .ref (B.1 + 33))] dX1_init_126 0 rfl (by decide) (by decide) rfl ?_
  refine z_goto C 104 dX1_init_129 (by decide) ?_
  refine z_iload_n C dX1_init_104 0 rfl rfl ?_
  refine z_aload_n C dX1_init_105 1 rfl rfl ?_
  refine z_get C (ci := 1) (o := 33) (j := 3) (v := .ref (B.1 + 49)) (fs := [.ref (B.1 + 34), .ref (B.1 + 35), .ref (B.1 + 42), .ref (B.1 + 49), .int 0, .int 0, .int 0]) zc_1 rfl (by decide) tw_171 rfl (by decide) rfl rfl dX1_init_106 ?_
  refine z_alen C (v := 8) 7 (o := 49) (by decide) rfl rfl rfl dX1_init_109 ?_
  refine z_icmp_ge C 132 dX1_init_110 (by decide) (fun hbr => absurd hbr (by decide)) (fun _ => ?_)
  refine z_aload_n C dX1_init_113 1 rfl rfl ?_
  refine z_get C (ci := 1) (o := 33) (j := 3) (v := .ref (B.1 + 49)) (fs := [.ref (B.1 + 34), .ref (B.1 + 35), .ref (B.1 + 42), .ref (B.1 + 49), .int 0, .int 0, .int 0]) zc_1 rfl (by decide) tw_171 rfl (by decide) rfl rfl dX1_init_114 ?_
  refine z_iload_n C dX1_init_117 0 rfl rfl ?_
  refine z_new C (ci := 8) (fs := [.int 0, .int 0, .int 0, .int 0, .int 0, .int 0]) tyX8 tyX8_ok zc_8 tw_77 tw_78 tw_9 rfl (by decide) (hG 54 (by decide) (by decide)) (Nat.le_of_ble_eq_true rfl) (Nat.le_of_ble_eq_true rfl) dX1_init_118 (n2 := 55) (a2 := 21) (w2 := 104) rfl rfl rfl ?_
  refine z_dup C dX1_init_121 rfl ?_
  refine z_callIN C hl (o := 54) (c_X8_init l B 55 (va_up (va_up G 33 (.inr (1, [.ref (B.1 + 34), .ref (B.1 + 35), .ref (B.1 + 42), .ref (B.1 + 49), .int 0, .int 0, .int 0]))) 49 (.inl (B.2.2.1 7, 8, .inr (.inr (.inr (.inr (zq B (fun j => 49 + 1 + j) 4))))))) 54) (zCN (nA := 0) C rfl rfl tw_81 tw_9 (by decide +kernel) (by decide +kernel) ⟨Nat.le_of_ble_eq_true rfl, Nat.le_of_ble_eq_true rfl⟩) rfl tw_80 (Nat.le_of_ble_eq_true rfl) dX1_init_122 ⟨Nat.le_of_ble_eq_true rfl, Nat.le_of_ble_eq_true rfl⟩ (n2 := 55) (a2 := 21) (w2 := 104) rfl rfl rfl ?_
  refine z_aast C 7 (o := 49) (v := 54) (by decide) rfl rfl (by decide) (hG 54 (by decide) (by decide)) rfl (by unfold vp_in; decide) dX1_init_125 ?_
  refine z_G (G2 := (va_up (va_up G 33 (.inr (1, [.ref (B.1 + 34), .ref (B.1 + 35), .ref (B.1 + 42), .ref (B.1 + 49), .int 0, .int 0, .int 0]))) 49 (.inl (B.2.2.1 7, 8, .inr (.inr (.inr (.inr (zq B (fun j => 49 + 1 + j) 5)))))))) ((va_upA _ _ _ _).trans (by rw [show va_up (zq B (fun j => 49 + 1 + j) 4) (Int32.toNatClampNeg 4) (some (B.1 + 54)) = zq B (fun j => 49 + 1 + j) 5 from zq_s B (fun j => 49 + 1 + j) 4])) ?_
  refine z_iinc C [(1, .int 5), (0, .ref (B.1 + 33))] dX1_init_126 0 rfl (by decide) (by decide) rfl ?_
  refine z_goto C 104 dX1_init_129 (by decide) ?_
  refine z_iload_n C dX1_init_104 0 rfl rfl ?_
  refine z_aload_n C dX1_init_105 1 rfl rfl ?_
  refine z_get C (ci := 1) (o := 33) (j := 3) (v := .ref (B.1 + 49)) (fs := [.ref (B.1 + 34), .ref (B.1 + 35), .ref (B.1 + 42), .ref (B.1 + 49), .int 0, .int 0, .int 0]) zc_1 rfl (by decide) tw_171 rfl (by decide) rfl rfl dX1_init_106 ?_
  refine z_alen C (v := 8) 7 (o := 49) (by decide) rfl rfl rfl dX1_init_109 ?_
  refine z_icmp_ge C 132 dX1_init_110 (by decide) (fun hbr => absurd hbr (by decide)) (fun _ => ?_)
  refine z_aload_n C dX1_init_113 1 rfl rfl ?_
  refine z_get C (ci := 1) (o := 33) (j := 3) (v := .ref (B.1 + 49)) (fs := [.ref (B.1 + 34), .ref (B.1 + 35), .ref (B.1 + 42), .ref (B.1 + 49), .int 0, .int 0, .int 0]) zc_1 rfl (by decide) tw_171 rfl (by decide) rfl rfl dX1_init_114 ?_
  refine z_iload_n C dX1_init_117 0 rfl rfl ?_
  refine z_new C (ci := 8) (fs := [.int 0, .int 0, .int 0, .int 0, .int 0, .int 0]) tyX8 tyX8_ok zc_8 tw_77 tw_78 tw_9 rfl (by decide) (hG 55 (by decide) (by decide)) (Nat.le_of_ble_eq_true rfl) (Nat.le_of_ble_eq_true rfl) dX1_init_118 (n2 := 56) (a2 := 22) (w2 := 110) rfl rfl rfl ?_
  refine z_dup C dX1_init_121 rfl ?_
  refine z_callIN C hl (o := 55) (c_X8_init l B 56 (va_up (va_up G 33 (.inr (1, [.ref (B.1 + 34), .ref (B.1 + 35), .ref (B.1 + 42), .ref (B.1 + 49), .int 0, .int 0, .int 0]))) 49 (.inl (B.2.2.1 7, 8, .inr (.inr (.inr (.inr (zq B (fun j => 49 + 1 + j) 5))))))) 55) (zCN (nA := 0) C rfl rfl tw_81 tw_9 (by decide +kernel) (by decide +kernel) ⟨Nat.le_of_ble_eq_true rfl, Nat.le_of_ble_eq_true rfl⟩) rfl tw_80 (Nat.le_of_ble_eq_true rfl) dX1_init_122 ⟨Nat.le_of_ble_eq_true rfl, Nat.le_of_ble_eq_true rfl⟩ (n2 := 56) (a2 := 22) (w2 := 110) rfl rfl rfl ?_
  refine z_aast C 7 (o := 49) (v := 55) (by decide) rfl rfl (by decide) (hG 55 (by decide) (by decide)) rfl (by unfold vp_in; decide) dX1_init_125 ?_
  refine z_G (G2 := (va_up (va_up G 33 (.inr (1, [.ref (B.1 + 34), .ref (B.1 + 35), .ref (B.1 + 42), .ref (B.1 + 49), .int 0, .int 0, .int 0]))) 49 (.inl (B.2.2.1 7, 8, .inr (.inr (.inr (.inr (zq B (fun j => 49 + 1 + j) 6)))))))) ((va_upA _ _ _ _).trans (by rw [show va_up (zq B (fun j => 49 + 1 + j) 5) (Int32.toNatClampNeg 5) (some (B.1 + 55)) = zq B (fun j => 49 + 1 + j) 6 from zq_s B (fun j => 49 + 1 + j) 5])) ?_
  refine z_iinc C [(1, .int 6), (0, .ref (B.1 + 33))] dX1_init_126 0 rfl (by decide) (by decide) rfl ?_
  refine z_goto C 104 dX1_init_129 (by decide) ?_
  refine z_iload_n C dX1_init_104 0 rfl rfl ?_
  refine z_aload_n C dX1_init_105 1 rfl rfl ?_
  refine z_get C (ci := 1) (o := 33) (j := 3) (v := .ref (B.1 + 49)) (fs := [.ref (B.1 + 34), .ref (B.1 + 35), .ref (B.1 + 42), .ref (B.1 + 49), .int 0, .int 0, .int 0]) zc_1 rfl (by decide) tw_171 rfl (by decide) rfl rfl dX1_init_106 ?_
  refine z_alen C (v := 8) 7 (o := 49) (by decide) rfl rfl rfl dX1_init_109 ?_
  refine z_icmp_ge C 132 dX1_init_110 (by decide) (fun hbr => absurd hbr (by decide)) (fun _ => ?_)
  refine z_aload_n C dX1_init_113 1 rfl rfl ?_
  refine z_get C (ci := 1) (o := 33) (j := 3) (v := .ref (B.1 + 49)) (fs := [.ref (B.1 + 34), .ref (B.1 + 35), .ref (B.1 + 42), .ref (B.1 + 49), .int 0, .int 0, .int 0]) zc_1 rfl (by decide) tw_171 rfl (by decide) rfl rfl dX1_init_114 ?_
  refine z_iload_n C dX1_init_117 0 rfl rfl ?_
  refine z_new C (ci := 8) (fs := [.int 0, .int 0, .int 0, .int 0, .int 0, .int 0]) tyX8 tyX8_ok zc_8 tw_77 tw_78 tw_9 rfl (by decide) (hG 56 (by decide) (by decide)) (Nat.le_of_ble_eq_true rfl) (Nat.le_of_ble_eq_true rfl) dX1_init_118 (n2 := 57) (a2 := 23) (w2 := 116) rfl rfl rfl ?_
  refine z_dup C dX1_init_121 rfl ?_
  refine z_callIN C hl (o := 56) (c_X8_init l B 57 (va_up (va_up G 33 (.inr (1, [.ref (B.1 + 34), .ref (B.1 + 35), .ref (B.1 + 42), .ref (B.1 + 49), .int 0, .int 0, .int 0]))) 49 (.inl (B.2.2.1 7, 8, .inr (.inr (.inr (.inr (zq B (fun j => 49 + 1 + j) 6))))))) 56) (zCN (nA := 0) C rfl rfl tw_81 tw_9 (by decide +kernel) (by decide +kernel) ⟨Nat.le_of_ble_eq_true rfl, Nat.le_of_ble_eq_true rfl⟩) rfl tw_80 (Nat.le_of_ble_eq_true rfl) dX1_init_122 ⟨Nat.le_of_ble_eq_true rfl, Nat.le_of_ble_eq_true rfl⟩ (n2 := 57) (a2 := 23) (w2 := 116) rfl rfl rfl ?_
  refine z_aast C 7 (o := 49) (v := 56) (by decide) rfl rfl (by decide) (hG 56 (by decide) (by decide)) rfl (by unfold vp_in; decide) dX1_init_125 ?_
  refine z_G (G2 := (va_up (va_up G 33 (.inr (1, [.ref (B.1 + 34), .ref (B.1 + 35), .ref (B.1 + 42), .ref (B.1 + 49), .int 0, .int 0, .int 0]))) 49 (.inl (B.2.2.1 7, 8, .inr (.inr (.inr (.inr (zq B (fun j => 49 + 1 + j) 7)))))))) ((va_upA _ _ _ _).trans (by rw [show va_up (zq B (fun j => 49 + 1 + j) 6) (Int32.toNatClampNeg 6) (some (B.1 + 56)) = zq B (fun j => 49 + 1 + j) 7 from zq_s B (fun j => 49 + 1 + j) 6])) ?_
  refine z_iinc C [(1, .int 7), (0, .ref (B.1 + 33))] dX1_init_126 0 rfl (by decide) (by decide) rfl ?_
  refine z_goto C 104 dX1_init_129 (by decide) ?_
  refine z_iload_n C dX1_init_104 0 rfl rfl ?_
  refine z_aload_n C dX1_init_105 1 rfl rfl ?_
  refine z_get C (ci := 1) (o := 33) (j := 3) (v := .ref (B.1 + 49)) (fs := [.ref (B.1 + 34), .ref (B.1 + 35), .ref (B.1 + 42), .ref (B.1 + 49), .int 0, .int 0, .int 0]) zc_1 rfl (by decide) tw_171 rfl (by decide) rfl rfl dX1_init_106 ?_
  refine z_alen C (v := 8) 7 (o := 49) (by decide) rfl rfl rfl dX1_init_109 ?_
  refine z_icmp_ge C 132 dX1_init_110 (by decide) (fun hbr => absurd hbr (by decide)) (fun _ => ?_)
  refine z_aload_n C dX1_init_113 1 rfl rfl ?_
  refine z_get C (ci := 1) (o := 33) (j := 3) (v := .ref (B.1 + 49)) (fs := [.ref (B.1 + 34), .ref (B.1 + 35), .ref (B.1 + 42), .ref (B.1 + 49), .int 0, .int 0, .int 0]) zc_1 rfl (by decide) tw_171 rfl (by decide) rfl rfl dX1_init_114 ?_
  refine z_iload_n C dX1_init_117 0 rfl rfl ?_
  refine z_new C (ci := 8) (fs := [.int 0, .int 0, .int 0, .int 0, .int 0, .int 0]) tyX8 tyX8_ok zc_8 tw_77 tw_78 tw_9 rfl (by decide) (hG 57 (by decide) (by decide)) (Nat.le_of_ble_eq_true rfl) (Nat.le_of_ble_eq_true rfl) dX1_init_118 (n2 := 58) (a2 := 24) (w2 := 122) rfl rfl rfl ?_
  refine z_dup C dX1_init_121 rfl ?_
  refine z_callIN C hl (o := 57) (c_X8_init l B 58 (va_up (va_up G 33 (.inr (1, [.ref (B.1 + 34), .ref (B.1 + 35), .ref (B.1 + 42), .ref (B.1 + 49), .int 0, .int 0, .int 0]))) 49 (.inl (B.2.2.1 7, 8, .inr (.inr (.inr (.inr (zq B (fun j => 49 + 1 + j) 7))))))) 57) (zCN (nA := 0) C rfl rfl tw_81 tw_9 (by decide +kernel) (by decide +kernel) ⟨Nat.le_of_ble_eq_true rfl, Nat.le_of_ble_eq_true rfl⟩) rfl tw_80 (Nat.le_of_ble_eq_true rfl) dX1_init_122 ⟨Nat.le_of_ble_eq_true rfl, Nat.le_of_ble_eq_true rfl⟩ (n2 := 58) (a2 := 24) (w2 := 122) rfl rfl rfl ?_
  refine z_aast C 7 (o := 49) (v := 57) (by decide) rfl rfl (by decide) (hG 57 (by decide) (by decide)) rfl (by unfold vp_in; decide) dX1_init_125 ?_
  refine z_G (G2 := (va_up (va_up G 33 (.inr (1, [.ref (B.1 + 34), .ref (B.1 + 35), .ref (B.1 + 42), .ref (B.1 + 49), .int 0, .int 0, .int 0]))) 49 (.inl (B.2.2.1 7, 8, .inr (.inr (.inr (.inr (zq B (fun j => 49 + 1 + j) 8)))))))) ((va_upA _ _ _ _).trans (by rw [show va_up (zq B (fun j => 49 + 1 + j) 7) (Int32.toNatClampNeg 7) (some (B.1 + 57)) = zq B (fun j => 49 + 1 + j) 8 from zq_s B (fun j => 49 + 1 + j) 7])) ?_
  refine z_fill ?_
  refine z_G (G2 := (va_up G 33 (.inr (1, [.ref (B.1 + 34), .ref (B.1 + 35), .ref (B.1 + 42), .ref (B.1 + 49), .int 0, .int 0, .int 0])))) (va_upI _ _ _ (hG 49 (by decide) (by decide))) ?_
  refine z_iinc C [(1, .int 8), (0, .ref (B.1 + 33))] dX1_init_126 0 rfl (by decide) (by decide) rfl ?_
  refine z_goto C 104 dX1_init_129 (by decide) ?_
  refine z_iload_n C dX1_init_104 0 rfl rfl ?_
  refine z_aload_n C dX1_init_105 1 rfl rfl ?_
  refine z_get C (ci := 1) (o := 33) (j := 3) (v := .ref (B.1 + 49)) (fs := [.ref (B.1 + 34), .ref (B.1 + 35), .ref (B.1 + 42), .ref (B.1 + 49), .int 0, .int 0, .int 0]) zc_1 rfl (by decide) tw_171 rfl (by decide) rfl rfl dX1_init_106 ?_
  refine z_alen C (v := 8) 7 (o := 49) (by decide) (hG 49 (by decide) (by decide)) rfl rfl dX1_init_109 ?_
  refine z_icmp_ge C 132 dX1_init_110 (by decide) (fun _ => ?_) (fun hbr => absurd (by decide) hbr)
  refine z_G (G2 := G) (va_upI _ _ _ (hG 33 (by decide) (by decide))) ?_
  exact z_vret C E rfl dX1_init_132 rfl (Nat.le_refl _) ⟨rfl, rfl⟩
