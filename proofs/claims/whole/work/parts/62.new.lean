set_option maxRecDepth 100000 in
set_option maxHeartbeats 4000000 in
theorem c_X1_init_59 (l : Launch) (B : zB) (G : Nat → va_E) (hG : ∀ k, 59 ≤ k → k < 84 → G k = zg B z0 zt1 k) : zMet l B mX1_init 24 122 60 (va_up G 59 (.inr (1, [.null, .null, .null, .null, .int 0, .int 0, .int 0]))) [.ref (B.1 + 59)] (zRi G) := by
  refine z_met (by decide) (Nat.le_of_ble_eq_true rfl) ?_
  intro X hl C E hnm
  show Z X B mX1_init 60 (va_up G 59 (.inr (1, [.null, .null, .null, .null, .int 0, .int 0, .int 0]))) 0 0 0 [(0, .ref (B.1 + 59))] []
  refine z_aload_n C dX1_init_0 0 rfl rfl ?_
  refine z_obj C tw_76 (Nat.le_of_ble_eq_true rfl) (Nat.le_of_ble_eq_true rfl) dX1_init_1 ?_
  refine z_aload_n C dX1_init_4 0 rfl rfl ?_
  refine z_new C (ci := 8) (fs := [.int 0, .int 0, .int 0, .int 0, .int 0, .int 0]) tyX8 tyX8_ok zc_8 tw_77 tw_78 tw_9 rfl (by decide) (hG 60 (by decide) (by decide)) (Nat.le_of_ble_eq_true rfl) (Nat.le_of_ble_eq_true rfl) dX1_init_5 (n2 := 61) (a2 := 1) (w2 := 6) rfl rfl rfl ?_
  refine z_dup C dX1_init_8 rfl ?_
  refine z_callIN C hl (o := 60) (c_X8_init l B 61 (va_up G 59 (.inr (1, [.null, .null, .null, .null, .int 0, .int 0, .int 0]))) 60) (zCN (nA := 0) C rfl rfl tw_81 tw_9 (by decide +kernel) (by decide +kernel) ⟨Nat.le_of_ble_eq_true rfl, Nat.le_of_ble_eq_true rfl⟩) rfl tw_80 (Nat.le_of_ble_eq_true rfl) dX1_init_9 ⟨Nat.le_of_ble_eq_true rfl, Nat.le_of_ble_eq_true rfl⟩ (n2 := 61) (a2 := 1) (w2 := 6) rfl rfl rfl ?_
  refine z_putF C hnm (ci := 1) (o := 59) (j := 0) (fs := [.null, .null, .null, .null, .int 0, .int 0, .int 0]) (ty := tyX1 0) tyX1 tyX1_ok nmX1 zc_1 rfl (by decide) tw_167 rfl rfl rfl (by decide +kernel) rfl rfl (by decide) rfl (Nat.le_of_ble_eq_true rfl) dX1_init_12 ?_
  refine z_G (G2 := (va_up G 59 (.inr (1, [.ref (B.1 + 60), .null, .null, .null, .int 0, .int 0, .int 0])))) (va_upA _ _ _ _) ?_
  refine z_aload_n C dX1_init_15 0 rfl rfl ?_
  refine z_bipush C dX1_init_16 kb_6 ?_
  refine z_GG (G2 := (va_up (va_up G 59 (.inr (1, [.ref (B.1 + 60), .null, .null, .null, .int 0, .int 0, .int 0]))) 61 (.inl (B.2.2.1 3, 6, .inr (.inr (.inr (.inr (fun _ => none)))))))) (fun k hk => (va_up_ne _ _ (Nat.ne_of_lt hk)).symm) ?_
  refine z_anew C 3 (Cn := RX0) tw_110 (by decide) rfl (by decide) (N' := 6) (by decide) (by decide) rfl (Nat.le_of_ble_eq_true rfl) (Nat.le_of_ble_eq_true rfl) dX1_init_18 (n2 := 62) (a2 := 2) (w2 := 12) rfl rfl rfl ?_
  refine z_G (G2 := (va_up (va_up G 59 (.inr (1, [.ref (B.1 + 60), .null, .null, .null, .int 0, .int 0, .int 0]))) 61 (.inl (B.2.2.1 3, 6, .inr (.inr (.inr (.inr (zq B (fun j => 61 + 1 + j) 0)))))))) (by rw [← zq_0]) ?_
  refine z_putF C hnm (ci := 1) (o := 59) (j := 1) (fs := [.ref (B.1 + 60), .null, .null, .null, .int 0, .int 0, .int 0]) (ty := tyX1 1) tyX1 tyX1_ok nmX1 zc_1 rfl (by decide) tw_169 rfl rfl rfl (by decide +kernel) rfl rfl (by decide) rfl (Nat.le_of_ble_eq_true rfl) dX1_init_21 ?_
  refine z_G (G2 := (va_up (va_up G 59 (.inr (1, [.ref (B.1 + 60), .ref (B.1 + 61), .null, .null, .int 0, .int 0, .int 0]))) 61 (.inl (B.2.2.1 3, 6, .inr (.inr (.inr (.inr (zq B (fun j => 61 + 1 + j) 0)))))))) (va_upB _ _ _ _ _ _ (by decide)) ?_
  refine z_iconst C dX1_init_24 ki_0 ?_
  refine z_istore_n C [(1, .int 0), (0, .ref (B.1 + 59))] dX1_init_25 rfl (by decide) rfl ?_
  refine z_iload_n C dX1_init_26 0 rfl rfl ?_
  refine z_aload_n C dX1_init_27 1 rfl rfl ?_
  refine z_get C (ci := 1) (o := 59) (j := 1) (v := .ref (B.1 + 61)) (fs := [.ref (B.1 + 60), .ref (B.1 + 61), .null, .null, .int 0, .int 0, .int 0]) zc_1 rfl (by decide) tw_169 rfl (by decide) rfl rfl dX1_init_28 ?_
  refine z_alen C (v := 6) 3 (o := 61) (by decide) rfl rfl rfl dX1_init_31 ?_
  refine z_icmp_ge C 54 dX1_init_32 (by decide) (fun hbr => absurd hbr (by decide)) (fun _ => ?_)
  refine z_aload_n C dX1_init_35 1 rfl rfl ?_
  refine z_get C (ci := 1) (o := 59) (j := 1) (v := .ref (B.1 + 61)) (fs := [.ref (B.1 + 60), .ref (B.1 + 61), .null, .null, .int 0, .int 0, .int 0]) zc_1 rfl (by decide) tw_169 rfl (by decide) rfl rfl dX1_init_36 ?_
  refine z_iload_n C dX1_init_39 0 rfl rfl ?_
  refine z_new C (ci := 0) (fs := [.int 0, .int 0, .int 0, .int 0]) tyX0 tyX0_ok zc_0 tw_110 tw_112 tw_10 rfl (by decide) (hG 62 (by decide) (by decide)) (Nat.le_of_ble_eq_true rfl) (Nat.le_of_ble_eq_true rfl) dX1_init_40 (n2 := 63) (a2 := 3) (w2 := 16) rfl rfl rfl ?_
  refine z_dup C dX1_init_43 rfl ?_
  refine z_callIN C hl (o := 62) (c_X0_init l B 63 (va_up (va_up G 59 (.inr (1, [.ref (B.1 + 60), .ref (B.1 + 61), .null, .null, .int 0, .int 0, .int 0]))) 61 (.inl (B.2.2.1 3, 6, .inr (.inr (.inr (.inr (zq B (fun j => 61 + 1 + j) 0))))))) 62) (zCN (nA := 0) C rfl rfl tw_115 tw_10 (by decide +kernel) (by decide +kernel) ⟨Nat.le_of_ble_eq_true rfl, Nat.le_of_ble_eq_true rfl⟩) rfl tw_114 (Nat.le_of_ble_eq_true rfl) dX1_init_44 ⟨Nat.le_of_ble_eq_true rfl, Nat.le_of_ble_eq_true rfl⟩ (n2 := 63) (a2 := 3) (w2 := 16) rfl rfl rfl ?_
  refine z_aast C 3 (o := 61) (v := 62) (by decide) rfl rfl (by decide) (hG 62 (by decide) (by decide)) rfl (by unfold vp_in; decide) dX1_init_47 ?_
  refine z_G (G2 := (va_up (va_up G 59 (.inr (1, [.ref (B.1 + 60), .ref (B.1 + 61), .null, .null, .int 0, .int 0, .int 0]))) 61 (.inl (B.2.2.1 3, 6, .inr (.inr (.inr (.inr (zq B (fun j => 61 + 1 + j) 1)))))))) ((va_upA _ _ _ _).trans (by rw [show va_up (zq B (fun j => 61 + 1 + j) 0) (Int32.toNatClampNeg 0) (some (B.1 + 62)) = zq B (fun j => 61 + 1 + j) 1 from zq_s B (fun j => 61 + 1 + j) 0])) ?_
  refine z_iinc C [(1, .int 1), (0, .ref (B.1 + 59))] dX1_init_48 0 rfl (by decide) (by decide) rfl ?_
  refine z_goto C 26 dX1_init_51 (by decide) ?_
  refine z_iload_n C dX1_init_26 0 rfl rfl ?_
  refine z_aload_n C dX1_init_27 1 rfl rfl ?_
  refine z_get C (ci := 1) (o := 59) (j := 1) (v := .ref (B.1 + 61)) (fs := [.ref (B.1 + 60), .ref (B.1 + 61), .null, .null, .int 0, .int 0, .int 0]) zc_1 rfl (by decide) tw_169 rfl (by decide) rfl rfl dX1_init_28 ?_
  refine z_alen C (v := 6) 3 (o := 61) (by decide) rfl rfl rfl dX1_init_31 ?_
  refine z_icmp_ge C 54 dX1_init_32 (by decide) (fun hbr => absurd hbr (by decide)) (fun _ => ?_)
  refine z_aload_n C dX1_init_35 1 rfl rfl ?_
  refine z_get C (ci := 1) (o := 59) (j := 1) (v := .ref (B.1 + 61)) (fs := [.ref (B.1 + 60), .ref (B.1 + 61), .null, .null, .int 0, .int 0, .int 0]) zc_1 rfl (by decide) tw_169 rfl (by decide) rfl rfl dX1_init_36 ?_
  refine z_iload_n C dX1_init_39 0 rfl rfl ?_
  refine z_new C (ci := 0) (fs := [.int 0, .int 0, .int 0, .int 0]) tyX0 tyX0_ok zc_0 tw_110 tw_112 tw_10 rfl (by decide) (hG 63 (by decide) (by decide)) (Nat.le_of_ble_eq_true rfl) (Nat.le_of_ble_eq_true rfl) dX1_init_40 (n2 := 64) (a2 := 4) (w2 := 20) rfl rfl rfl ?_
  refine z_dup C dX1_init_43 rfl ?_
  refine z_callIN C hl (o := 63) (c_X0_init l B 64 (va_up (va_up G 59 (.inr (1, [.ref (B.1 + 60), .ref (B.1 + 61), .null, .null, .int 0, .int 0, .int 0]))) 61 (.inl (B.2.2.1 3, 6, .inr (.inr (.inr (.inr (zq B (fun j => 61 + 1 + j) 1))))))) 63) (zCN (nA := 0) C rfl rfl tw_115 tw_10 (by decide +kernel) (by decide +kernel) ⟨Nat.le_of_ble_eq_true rfl, Nat.le_of_ble_eq_true rfl⟩) rfl tw_114 (Nat.le_of_ble_eq_true rfl) dX1_init_44 ⟨Nat.le_of_ble_eq_true rfl, Nat.le_of_ble_eq_true rfl⟩ (n2 := 64) (a2 := 4) (w2 := 20) rfl rfl rfl ?_
  refine z_aast C 3 (o := 61) (v := 63) (by decide) rfl rfl (by decide) (hG 63 (by decide) (by decide)) rfl (by unfold vp_in; decide) dX1_init_47 ?_
  refine z_G (G2 := (va_up (va_up G 59 (.inr (1, [.ref (B.1 + 60), .ref (B.1 + 61), .null, .null, .int 0, .int 0, .int 0]))) 61 (.inl (B.2.2.1 3, 6, .inr (.inr (.inr (.inr (zq B (fun j => 61 + 1 + j) 2)))))))) ((va_upA _ _ _ _).trans (by rw [show va_up (zq B (fun j => 61 + 1 + j) 1) (Int32.toNatClampNeg 1) (some (B.1 + 63)) = zq B (fun j => 61 + 1 + j) 2 from zq_s B (fun j => 61 + 1 + j) 1])) ?_
  refine z_iinc C [(1, .int 2), (0, .ref (B.1 + 59))] dX1_init_48 0 rfl (by decide) (by decide) rfl ?_
  refine z_goto C 26 dX1_init_51 (by decide) ?_
  refine z_iload_n C dX1_init_26 0 rfl rfl ?_
  refine z_aload_n C dX1_init_27 1 rfl rfl ?_
  refine z_get C (ci := 1) (o := 59) (j := 1) (v := .ref (B.1 + 61)) (fs := [.ref (B.1 + 60), .ref (B.1 + 61), .null, .null, .int 0, .int 0, .int 0]) zc_1 rfl (by decide) tw_169 rfl (by decide) rfl rfl dX1_init_28 ?_
  refine z_alen C (v := 6) 3 (o := 61) (by decide) rfl rfl rfl dX1_init_31 ?_
  refine z_icmp_ge C 54 dX1_init_32 (by decide) (fun hbr => absurd hbr (by decide)) (fun _ => ?_)
  refine z_aload_n C dX1_init_35 1 rfl rfl ?_
  refine z_get C (ci := 1) (o := 59) (j := 1) (v := .ref (B.1 + 61)) (fs := [.ref (B.1 + 60), .ref (B.1 + 61), .null, .null, .int 0, .int 0, .int 0]) zc_1 rfl (by decide) tw_169 rfl (by decide) rfl rfl dX1_init_36 ?_
  refine z_iload_n C dX1_init_39 0 rfl rfl ?_
  refine z_new C (ci := 0) (fs := [.int 0, .int 0, .int 0, .int 0]) tyX0 tyX0_ok zc_0 tw_110 tw_112 tw_10 rfl (by decide) (hG 64 (by decide) (by decide)) (Nat.le_of_ble_eq_true rfl) (Nat.le_of_ble_eq_true rfl) dX1_init_40 (n2 := 65) (a2 := 5) (w2 := 24) rfl rfl rfl ?_
  refine z_dup C dX1_init_43 rfl ?_
  refine z_callIN C hl (o := 64) (c_X0_init l B 65 (va_up (va_up G 59 (.inr (1, [.ref (B.1 + 60), .ref (B.1 + 61), .null, .null, .int 0, .int 0, .int 0]))) 61 (.inl (B.2.2.1 3, 6, .inr (.inr (.inr (.inr (zq B (fun j => 61 + 1 + j) 2))))))) 64) (zCN (nA := 0) C rfl rfl tw_115 tw_10 (by decide +kernel) (by decide +kernel) ⟨Nat.le_of_ble_eq_true rfl, Nat.le_of_ble_eq_true rfl⟩) rfl tw_114 (Nat.le_of_ble_eq_true rfl) dX1_init_44 ⟨Nat.le_of_ble_eq_true rfl, Nat.le_of_ble_eq_true rfl⟩ (n2 := 65) (a2 := 5) (w2 := 24) rfl rfl rfl ?_
  refine z_aast C 3 (o := 61) (v := 64) (by decide) rfl rfl (by decide) (hG 64 (by decide) (by decide)) rfl (by unfold vp_in; decide) dX1_init_47 ?_
  refine z_G (G2 := (va_up (va_up G 59 (.inr (1, [.ref (B.1 + 60), .ref (B.1 + 61), .null, .null, .int 0, .int 0, .int 0]))) 61 (.inl (B.2.2.1 3, 6, .inr (.inr (.inr (.inr (zq B (fun j => 61 + 1 + j) 3)))))))) ((va_upA _ _ _ _).trans (by rw [show va_up (zq B (fun j => 61 + 1 + j) 2) (Int32.toNatClampNeg 2) (some (B.1 + 64)) = zq B (fun j => 61 + 1 + j) 3 from zq_s B (fun j => 61 + 1 + j) 2])) ?_
  refine z_iinc C [(1, .int 3), (0, .ref (B.1 + 59))] dX1_init_48 0 rfl (by decide) (by decide) rfl ?_
  refine z_goto C 26 dX1_init_51 (by decide) ?_
  refine z_iload_n C dX1_init_26 0 rfl rfl ?_
  refine z_aload_n C dX1_init_27 1 rfl rfl ?_
  refine z_get C (ci := 1) (o := 59) (j := 1) (v := .ref (B.1 + 61)) (fs := [.ref (B.1 + 60), .ref (B.1 + 61), .null, .null, .int 0, .int 0, .int 0]) zc_1 rfl (by decide) tw_169 rfl (by decide) rfl rfl dX1_init_28 ?_
  refine z_alen C (v := 6) 3 (o := 61) (by decide) rfl rfl rfl dX1_init_31 ?_
  refine z_icmp_ge C 54 dX1_init_32 (by decide) (fun hbr => absurd hbr (by decide)) (fun _ => ?_)
  refine z_aload_n C dX1_init_35 1 rfl rfl ?_
  refine z_get C (ci := 1) (o := 59) (j := 1) (v := .ref (B.1 + 61)) (fs := [.ref (B.1 + 60), .ref (B.1 + 61), .null, .null, .int 0, .int 0, .int 0]) zc_1 rfl (by decide) tw_169 rfl (by decide) rfl rfl dX1_init_36 ?_
  refine z_iload_n C dX1_init_39 0 rfl rfl ?_
  refine z_new C (ci := 0) (fs := [.int 0, .int 0, .int 0, .int 0]) tyX0 tyX0_ok zc_0 tw_110 tw_112 tw_10 rfl (by decide) (hG 65 (by decide) (by decide)) (Nat.le_of_ble_eq_true rfl) (Nat.le_of_ble_eq_true rfl) dX1_init_40 (n2 := 66) (a2 := 6) (w2 := 28) rfl rfl rfl ?_
  refine z_dup C dX1_init_43 rfl ?_
  refine z_callIN C hl (o := 65) (c_X0_init l B 66 (va_up (va_up G 59 (.inr (1, [.ref (B.1 + 60), .ref (B.1 + 61), .null, .null, .int 0, .int 0, .int 0]))) 61 (.inl (B.2.2.1 3, 6, .inr (.inr (.inr (.inr (zq B (fun j => 61 + 1 + j) 3))))))) 65) (zCN (nA := 0) C rfl rfl tw_115 tw_10 (by decide +kernel) (by decide +kernel) ⟨Nat.le_of_ble_eq_true rfl, Nat.le_of_ble_eq_true rfl⟩) rfl tw_114 (Nat.le_of_ble_eq_true rfl) dX1_init_44 ⟨Nat.le_of_ble_eq_true rfl, Nat.le_of_ble_eq_true rfl⟩ (n2 := 66) (a2 := 6) (w2 := 28) rfl rfl rfl ?_
  refine z_aast C 3 (o := 61) (v := 65) (by decide) rfl rfl (by decide) (hG 65 (by decide) (by decide)) rfl (by unfold vp_in; decide) dX1_init_47 ?_
  refine z_G (G2 := (va_up (va_up G 59 (.inr (1, [.ref (B.1 + 60), .ref (B.1 + 61), .null, .null, .int 0, .int 0, .int 0]))) 61 (.inl (B.2.2.1 3, 6, .inr (.inr (.inr (.inr (zq B (fun j => 61 + 1 + j) 4)))))))) ((va_upA _ _ _ _).trans (by rw [show va_up (zq B (fun j => 61 + 1 + j) 3) (Int32.toNatClampNeg 3) (some (B.1 + 65)) = zq B (fun j => 61 + 1 + j) 4 from zq_s B (fun j => 61 + 1 + j) 3])) ?_
  refine z_iinc C [(1, .int 4), (0, .ref (B.1 + 59))] dX1_init_48 0 rfl (by decide) (by decide) rfl ?_
  refine z_goto C 26 dX1_init_51 (by decide) ?_
  refine z_iload_n C dX1_init_26 0 rfl rfl ?_
  refine z_aload_n C dX1_init_27 1 rfl rfl ?_
  refine z_get C (ci := 1) (o := 59) (j := 1) (v := .ref (B.1 + 61)) (fs := [.ref (B.1 + 60), .ref (B.1 + 61), .null, .null, .int 0, .int 0, .int 0]) zc_1 rfl (by decide) tw_169 rfl (by decide) rfl rfl dX1_init_28 ?_
  refine z_alen C (v := 6) 3 (o := 61) (by decide) rfl rfl rfl dX1_init_31 ?_
  refine z_icmp_ge C 54 dX1_init_32 (by decide) (fun hbr => absurd hbr (by decide)) (fun _ => ?_)
  refine z_aload_n C dX1_init_35 1 rfl rfl ?_
  refine z_get C (ci := 1) (o := 59) (j := 1) (v := .ref (B.1 + 61)) (fs := [.ref (B.1 + 60), .ref (B.1 + 61), .null, .null, .int 0, .int 0, .int 0]) zc_1 rfl (by decide) tw_169 rfl (by decide) rfl rfl dX1_init_36 ?_
  refine z_iload_n C dX1_init_39 0 rfl rfl ?_
  refine z_new C (ci := 0) (fs := [.int 0, .int 0, .int 0, .int 0]) tyX0 tyX0_ok zc_0 tw_110 tw_112 tw_10 rfl (by decide) (hG 66 (by decide) (by decide)) (Nat.le_of_ble_eq_true rfl) (Nat.le_of_ble_eq_true rfl) dX1_init_40 (n2 := 67) (a2 := 7) (w2 := 32) rfl rfl rfl ?_
  refine z_dup C dX1_init_43 rfl ?_
  refine z_callIN C hl (o := 66) (c_X0_init l B 67 (va_up (va_up G 59 (.inr (1, [.ref (B.1 + 60), .ref (B.1 + 61), .null, .null, .int 0, .int 0, .int 0]))) 61 (.inl (B.2.2.1 3, 6, .inr (.inr (.inr (.inr (zq B (fun j => 61 + 1 + j) 4))))))) 66) (zCN (nA := 0) C rfl rfl tw_115 tw_10 (by decide +kernel) (by decide +kernel) ⟨Nat.le_of_ble_eq_true rfl, Nat.le_of_ble_eq_true rfl⟩) rfl tw_114 (Nat.le_of_ble_eq_true rfl) dX1_init_44 ⟨Nat.le_of_ble_eq_true rfl, Nat.le_of_ble_eq_true rfl⟩ (n2 := 67) (a2 := 7) (w2 := 32) rfl rfl rfl ?_
  refine z_aast C 3 (o := 61) (v := 66) (by decide) rfl rfl (by decide) (hG 66 (by decide) (by decide)) rfl (by unfold vp_in; decide) dX1_init_47 ?_
  refine z_G (G2 := (va_up (va_up G 59 (.inr (1, [.ref (B.1 + 60), .ref (B.1 + 61), .null, .null, .int 0, .int 0, .int 0]))) 61 (.inl (B.2.2.1 3, 6, .inr (.inr (.inr (.inr (zq B (fun j => 61 + 1 + j) 5)))))))) ((va_upA _ _ _ _).trans (by rw [show va_up (zq B (fun j => 61 + 1 + j) 4) (Int32.toNatClampNeg 4) (some (B.1 + 66)) = zq B (fun j => 61 + 1 + j) 5 from zq_s B (fun j => 61 + 1 + j) 4])) ?_
  refine z_iinc C [(1, .int 5), (0, .ref (B.1 + 59))] dX1_init_48 0 rfl (by decide) (by decide) rfl ?_
  refine z_goto C 26 dX1_init_51 (by decide) ?_
  refine z_iload_n C dX1_init_26 0 rfl rfl ?_
  refine z_aload_n C dX1_init_27 1 rfl rfl ?_
  refine z_get C (ci := 1) (o := 59) (j := 1) (v := .ref (B.1 + 61)) (fs := [.ref (B.1 + 60), .ref (B.1 + 61), .null, .null, .int 0, .int 0, .int 0]) zc_1 rfl (by decide) tw_169 rfl (by decide) rfl rfl dX1_init_28 ?_
  refine z_alen C (v := 6) 3 (o := 61) (by decide) rfl rfl rfl dX1_init_31 ?_
  refine z_icmp_ge C 54 dX1_init_32 (by decide) (fun hbr => absurd hbr (by decide)) (fun _ => ?_)
  refine z_aload_n C dX1_init_35 1 rfl rfl ?_
  refine z_get C (ci := 1) (o := 59) (j := 1) (v := .ref (B.1 + 61)) (fs := [.ref (B.1 + 60), .ref (B.1 + 61), .null, .null, .int 0, .int 0, .int 0]) zc_1 rfl (by decide) tw_169 rfl (by decide) rfl rfl dX1_init_36 ?_
  refine z_iload_n C dX1_init_39 0 rfl rfl ?_
  refine z_new C (ci := 0) (fs := [.int 0, .int 0, .int 0, .int 0]) tyX0 tyX0_ok zc_0 tw_110 tw_112 tw_10 rfl (by decide) (hG 67 (by decide) (by decide)) (Nat.le_of_ble_eq_true rfl) (Nat.le_of_ble_eq_true rfl) dX1_init_40 (n2 := 68) (a2 := 8) (w2 := 36) rfl rfl rfl ?_
  refine z_dup C dX1_init_43 rfl ?_
  refine z_callIN C hl (o := 67) (c_X0_init l B 68 (va_up (va_up G 59 (.inr (1, [.ref (B.1 + 60), .ref (B.1 + 61), .null, .null, .int 0, .int 0, .int 0]))) 61 (.inl (B.2.2.1 3, 6, .inr (.inr (.inr (.inr (zq B (fun j => 61 + 1 + j) 5))))))) 67) (zCN (nA := 0) C rfl rfl tw_115 tw_10 (by decide +kernel) (by decide +kernel) ⟨Nat.le_of_ble_eq_true rfl, Nat.le_of_ble_eq_true rfl⟩) rfl tw_114 (Nat.le_of_ble_eq_true rfl) dX1_init_44 ⟨Nat.le_of_ble_eq_true rfl, Nat.le_of_ble_eq_true rfl⟩ (n2 := 68) (a2 := 8) (w2 := 36) rfl rfl rfl ?_
  refine z_aast C 3 (o := 61) (v := 67) (by decide) rfl rfl (by decide) (hG 67 (by decide) (by decide)) rfl (by unfold vp_in; decide) dX1_init_47 ?_
  refine z_G (G2 := (va_up (va_up G 59 (.inr (1, [.ref (B.1 + 60), .ref (B.1 + 61), .null, .null, .int 0, .int 0, .int 0]))) 61 (.inl (B.2.2.1 3, 6, .inr (.inr (.inr (.inr (zq B (fun j => 61 + 1 + j) 6)))))))) ((va_upA _ _ _ _).trans (by rw [show va_up (zq B (fun j => 61 + 1 + j) 5) (Int32.toNatClampNeg 5) (some (B.1 + 67)) = zq B (fun j => 61 + 1 + j) 6 from zq_s B (fun j => 61 + 1 + j) 5])) ?_
  refine z_fill ?_
  refine z_G (G2 := (va_up G 59 (.inr (1, [.ref (B.1 + 60), .ref (B.1 + 61), .null, .null, .int 0, .int 0, .int 0])))) (va_upI _ _ _ (hG 61 (by decide) (by decide))) ?_
  refine z_iinc C [(1, .int 6), (0, .ref (B.1 + 59))] dX1_init_48 0 rfl (by decide) (by decide) rfl ?_
  refine z_goto C 26 dX1_init_51 (by decide) ?_
  refine z_iload_n C dX1_init_26 0 rfl rfl ?_
  refine z_aload_n C dX1_init_27 1 rfl rfl ?_
  refine z_get C (ci := 1) (o := 59) (j := 1) (v := .ref (B.1 + 61)) (fs := [.ref (B.1 + 60), .ref (B.1 + 61), .null, .null, .int 0, .int 0, .int 0]) zc_1 rfl (by decide) tw_169 rfl (by decide) rfl rfl dX1_init_28 ?_
  refine z_alen C (v := 6) 3 (o := 61) (by decide) (hG 61 (by decide) (by decide)) rfl rfl dX1_init_31 ?_
  refine z_icmp_ge C 54 dX1_init_32 (by decide) (fun _ => ?_) (fun hbr => absurd (by decide) hbr)
  refine z_aload_n C dX1_init_54 1 rfl rfl ?_
  refine z_bipush C dX1_init_55 kb_6 ?_
  refine z_GG (G2 := (va_up (va_up G 59 (.inr (1, [.ref (B.1 + 60), .ref (B.1 + 61), .null, .null, .int 0, .int 0, .int 0]))) 68 (.inl (B.2.2.1 5, 6, .inr (.inr (.inr (.inr (fun _ => none)))))))) (fun k hk => (va_up_ne _ _ (Nat.ne_of_lt hk)).symm) ?_
  refine z_anew C 5 (Cn := RX4) tw_138 (by decide) rfl (by decide) (N' := 6) (by decide) (by decide) rfl (Nat.le_of_ble_eq_true rfl) (Nat.le_of_ble_eq_true rfl) dX1_init_57 (n2 := 69) (a2 := 9) (w2 := 42) rfl rfl rfl ?_
  refine z_G (G2 := (va_up (va_up G 59 (.inr (1, [.ref (B.1 + 60), .ref (B.1 + 61), .null, .null, .int 0, .int 0, .int 0]))) 68 (.inl (B.2.2.1 5, 6, .inr (.inr (.inr (.inr (zq B (fun j => 68 + 1 + j) 0)))))))) (by rw [← zq_0]) ?_
  refine z_putF C hnm (ci := 1) (o := 59) (j := 2) (fs := [.ref (B.1 + 60), .ref (B.1 + 61), .null, .null, .int 0, .int 0, .int 0]) (ty := tyX1 2) tyX1 tyX1_ok nmX1 zc_1 rfl (by decide) tw_170 rfl rfl rfl (by decide +kernel) rfl rfl (by decide) rfl (Nat.le_of_ble_eq_true rfl) dX1_init_60 ?_
  refine z_G (G2 := (va_up (va_up G 59 (.inr (1, [.ref (B.1 + 60), .ref (B.1 + 61), .ref (B.1 + 68), .null, .int 0, .int 0, .int 0]))) 68 (.inl (B.2.2.1 5, 6, .inr (.inr (.inr (.inr (zq B (fun j => 68 + 1 + j) 0)))))))) (va_upB _ _ _ _ _ _ (by decide)) ?_
  refine z_iconst C dX1_init_63 ki_0 ?_
  refine z_istore_n C [(1, .int 0), (0, .ref (B.1 + 59))] dX1_init_64 rfl (by decide) rfl ?_
  refine z_iload_n C dX1_init_65 0 rfl rfl ?_
  refine z_aload_n C dX1_init_66 1 rfl rfl ?_
  refine z_get C (ci := 1) (o := 59) (j := 2) (v := .ref (B.1 + 68)) (fs := [.ref (B.1 + 60), .ref (B.1 + 61), .ref (B.1 + 68), .null, .int 0, .int 0, .int 0]) zc_1 rfl (by decide) tw_170 rfl (by decide) rfl rfl dX1_init_67 ?_
  refine z_alen C (v := 6) 5 (o := 68) (by decide) rfl rfl rfl dX1_init_70 ?_
  refine z_icmp_ge C 93 dX1_init_71 (by decide) (fun hbr => absurd hbr (by decide)) (fun _ => ?_)
  refine z_aload_n C dX1_init_74 1 rfl rfl ?_
  refine z_get C (ci := 1) (o := 59) (j := 2) (v := .ref (B.1 + 68)) (fs := [.ref (B.1 + 60), .ref (B.1 + 61), .ref (B.1 + 68), .null, .int 0, .int 0, .int 0]) zc_1 rfl (by decide) tw_170 rfl (by decide) rfl rfl dX1_init_75 ?_
  refine z_iload_n C dX1_init_78 0 rfl rfl ?_
  refine z_new C (ci := 4) (fs := [.int 0, .int 0, .int 0, .int 0]) tyX4 tyX4_ok zc_4 tw_138 tw_140 tw_11 rfl (by decide) (hG 69 (by decide) (by decide)) (Nat.le_of_ble_eq_true rfl) (Nat.le_of_ble_eq_true rfl) dX1_init_79 (n2 := 70) (a2 := 10) (w2 := 46) rfl rfl rfl ?_
  refine z_dup C dX1_init_82 rfl ?_
  refine z_callIN C hl (o := 69) (c_X4_init l B 70 (va_up (va_up G 59 (.inr (1, [.ref (B.1 + 60), .ref (B.1 + 61), .ref (B.1 + 68), .null, .int 0, .int 0, .int 0]))) 68 (.inl (B.2.2.1 5, 6, .inr (.inr (.inr (.inr (zq B (fun j => 68 + 1 + j) 0))))))) 69) (zCN (nA := 0) C rfl rfl tw_143 tw_11 (by decide +kernel) (by decide +kernel) ⟨Nat.le_of_ble_eq_true rfl, Nat.le_of_ble_eq_true rfl⟩) rfl tw_142 (Nat.le_of_ble_eq_true rfl) dX1_init_83 ⟨Nat.le_of_ble_eq_true rfl, Nat.le_of_ble_eq_true rfl⟩ (n2 := 70) (a2 := 10) (w2 := 46) rfl rfl rfl ?_
  refine z_aast C 5 (o := 68) (v := 69) (by decide) rfl rfl (by decide) (hG 69 (by decide) (by decide)) rfl (by unfold vp_in; decide) dX1_init_86 ?_
  refine z_G (G2 := (va_up (va_up G 59 (.inr (1, [.ref (B.1 + 60), .ref (B.1 + 61), .ref (B.1 + 68), .null, .int 0, .int 0, .int 0]))) 68 (.inl (B.2.2.1 5, 6, .inr (.inr (.inr (.inr (zq B (fun j => 68 + 1 + j) 1)))))))) ((va_upA _ _ _ _).trans (by rw [show va_up (zq B (fun j => 68 + 1 + j) 0) (Int32.toNatClampNeg 0) (some (B.1 + 69)) = zq B (fun j => 68 + 1 + j) 1 from zq_s B (fun j => 68 + 1 + j) 0])) ?_
  refine z_iinc C [(1, .int 1), (0, .ref (B.1 + 59))] dX1_init_87 0 rfl (by decide) (by decide) rfl ?_
  refine z_goto C 65 dX1_init_90 (by decide) ?_
  refine z_iload_n C dX1_init_65 0 rfl rfl ?_
  refine z_aload_n C dX1_init_66 1 rfl rfl ?_
  refine z_get C (ci := 1) (o := 59) (j := 2) (v := .ref (B.1 + 68)) (fs := [.ref (B.1 + 60), .ref (B.1 + 61), .ref (B.1 + 68), .null, .int 0, .int 0, .int 0]) zc_1 rfl (by decide) tw_170 rfl (by decide) rfl rfl dX1_init_67 ?_
  refine z_alen C (v := 6) 5 (o := 68) (by decide) rfl rfl rfl dX1_init_70 ?_
  refine z_icmp_ge C 93 dX1_init_71 (by decide) (fun hbr => absurd hbr (by decide)) (fun _ => ?_)
  refine z_aload_n C dX1_init_74 1 rfl rfl ?_
  refine z_get C (ci := 1) (o := 59) (j := 2) (v := .ref (B.1 + 68)) (fs := [.ref (B.1 + 60), .ref (B.1 + 61), .ref (B.1 + 68), .null, .int 0, .int 0, .int 0]) zc_1 rfl (by decide) tw_170 rfl (by decide) rfl rfl dX1_init_75 ?_
  refine z_iload_n C dX1_init_78 0 rfl rfl ?_
  refine z_new C (ci := 4) (fs := [.int 0, .int 0, .int 0, .int 0]) tyX4 tyX4_ok zc_4 tw_138 tw_140 tw_11 rfl (by decide) (hG 70 (by decide) (by decide)) (Nat.le_of_ble_eq_true rfl) (Nat.le_of_ble_eq_true rfl) dX1_init_79 (n2 := 71) (a2 := 11) (w2 := 50) rfl rfl rfl ?_
  refine z_dup C dX1_init_82 rfl ?_
  refine z_callIN C hl (o := 70) (c_X4_init l B 71 (va_up (va_up G 59 (.inr (1, [.ref (B.1 + 60), .ref (B.1 + 61), .ref (B.1 + 68), .null, .int 0, .int 0, .int 0]))) 68 (.inl (B.2.2.1 5, 6, .inr (.inr (.inr (.inr (zq B (fun j => 68 + 1 + j) 1))))))) 70) (zCN (nA := 0) C rfl rfl tw_143 tw_11 (by decide +kernel) (by decide +kernel) ⟨Nat.le_of_ble_eq_true rfl, Nat.le_of_ble_eq_true rfl⟩) rfl tw_142 (Nat.le_of_ble_eq_true rfl) dX1_init_83 ⟨Nat.le_of_ble_eq_true rfl, Nat.le_of_ble_eq_true rfl⟩ (n2 := 71) (a2 := 11) (w2 := 50) rfl rfl rfl ?_
  refine z_aast C 5 (o := 68) (v := 70) (by decide) rfl rfl (by decide) (hG 70 (by decide) (by decide)) rfl (by unfold vp_in; decide) dX1_init_86 ?_
  refine z_G (G2 := (va_up (va_up G 59 (.inr (1, [.ref (B.1 + 60), .ref (B.1 + 61), .ref (B.1 + 68), .null, .int 0, .int 0, .int 0]))) 68 (.inl (B.2.2.1 5, 6, .inr (.inr (.inr (.inr (zq B (fun j => 68 + 1 + j) 2)))))))) ((va_upA _ _ _ _).trans (by rw [show va_up (zq B (fun j => 68 + 1 + j) 1) (Int32.toNatClampNeg 1) (some (B.1 + 70)) = zq B (fun j => 68 + 1 + j) 2 from zq_s B (fun j => 68 + 1 + j) 1])) ?_
  refine z_iinc C [(1, .int 2), (0, .ref (B.1 + 59))] dX1_init_87 0 rfl (by decide) (by decide) rfl ?_
  refine z_goto C 65 dX1_init_90 (by decide) ?_
  refine z_iload_n C dX1_init_65 0 rfl rfl ?_
  refine z_aload_n C dX1_init_66 1 rfl rfl ?_
  refine z_get C (ci := 1) (o := 59) (j := 2) (v := .ref (B.1 + 68)) (fs := [.ref (B.1 + 60), .ref (B.1 + 61), .ref (B.1 + 68), .null, .int 0, .int 0, .int 0]) zc_1 rfl (by decide) tw_170 rfl (by decide) rfl rfl dX1_init_67 ?_
  refine z_alen C (v := 6) 5 (o := 68) (by decide) rfl rfl rfl dX1_init_70 ?_
  refine z_icmp_ge C 93 dX1_init_71 (by decide) (fun hbr => absurd hbr (by decide)) (fun _ => ?_)
  refine z_aload_n C dX1_init_74 1 rfl rfl ?_
  refine z_get C (ci := 1) (o := 59) (j := 2) (v := .ref (B.1 + 68)) (fs := [.ref (B.1 + 60), .ref (B.1 + 61), .ref (B.1 + 68), .null, .int 0, .int 0, .int 0]) zc_1 rfl (by decide) tw_170 rfl (by decide) rfl rfl dX1_init_75 ?_
  refine z_iload_n C dX1_init_78 0 rfl rfl ?_
  refine z_new C (ci := 4) (fs := [.int 0, .int 0, .int 0, .int 0]) tyX4 tyX4_ok zc_4 tw_138 tw_140 tw_11 rfl (by decide) (hG 71 (by decide) (by decide)) (Nat.le_of_ble_eq_true rfl) (Nat.le_of_ble_eq_true rfl) dX1_init_79 (n2 := 72) (a2 := 12) (w2 := 54) rfl rfl rfl ?_
  refine z_dup C dX1_init_82 rfl ?_
  refine z_callIN C hl (o := 71) (c_X4_init l B 72 (va_up (va_up G 59 (.inr (1, [.ref (B.1 + 60), .ref (B.1 + 61), .ref (B.1 + 68), .null, .int 0, .int 0, .int 0]))) 68 (.inl (B.2.2.1 5, 6, .inr (.inr (.inr (.inr (zq B (fun j => 68 + 1 + j) 2))))))) 71) (zCN (nA := 0) C rfl rfl tw_143 tw_11 (by decide +kernel) (by decide +kernel) ⟨Nat.le_of_ble_eq_true rfl, Nat.le_of_ble_eq_true rfl⟩) rfl tw_142 (Nat.le_of_ble_eq_true rfl) dX1_init_83 ⟨Nat.le_of_ble_eq_true rfl, Nat.le_of_ble_eq_true rfl⟩ (n2 := 72) (a2 := 12) (w2 := 54) rfl rfl rfl ?_
  refine z_aast C 5 (o := 68) (v := 71) (by decide) rfl rfl (by decide) (hG 71 (by decide) (by decide)) rfl (by unfold vp_in; decide) dX1_init_86 ?_
  refine z_G (G2 := (va_up (va_up G 59 (.inr (1, [.ref (B.1 + 60), .ref (B.1 + 61), .ref (B.1 + 68), .null, .int 0, .int 0, .int 0]))) 68 (.inl (B.2.2.1 5, 6, .inr (.inr (.inr (.inr (zq B (fun j => 68 + 1 + j) 3)))))))) ((va_upA _ _ _ _).trans (by rw [show va_up (zq B (fun j => 68 + 1 + j) 2) (Int32.toNatClampNeg 2) (some (B.1 + 71)) = zq B (fun j => 68 + 1 + j) 3 from zq_s B (fun j => 68 + 1 + j) 2])) ?_
  refine z_iinc C [(1, .int 3), (0, .ref (B.1 + 59))] dX1_init_87 0 rfl (by decide) (by decide) rfl ?_
  refine z_goto C 65 dX1_init_90 (by decide) ?_
  refine z_iload_n C dX1_init_65 0 rfl rfl ?_
  refine z_aload_n C dX1_init_66 1 rfl rfl ?_
  refine z_get C (ci := 1) (o := 59) (j := 2) (v := .ref (B.1 + 68)) (fs := [.ref (B.1 + 60), .ref (B.1 + 61), .ref (B.1 + 68), .null, .int 0, .int 0, .int 0]) zc_1 rfl (by decide) tw_170 rfl (by decide) rfl rfl dX1_init_67 ?_
  refine z_alen C (v := 6) 5 (o := 68) (by decide) rfl rfl rfl dX1_init_70 ?_
  refine z_icmp_ge C 93 dX1_init_71 (by decide) (fun hbr => absurd hbr (by decide)) (fun _ => ?_)
  refine z_aload_n C dX1_init_74 1 rfl rfl ?_
  refine z_get C (ci := 1) (o := 59) (j := 2) (v := .ref (B.1 + 68)) (fs := [.ref (B.1 + 60), .ref (B.1 + 61), .ref (B.1 + 68), .null, .int 0, .int 0, .int 0]) zc_1 rfl (by decide) tw_170 rfl (by decide) rfl rfl dX1_init_75 ?_
  refine z_iload_n C dX1_init_78 0 rfl rfl ?_
  refine z_new C (ci := 4) (fs := [.int 0, .int 0, .int 0, .int 0]) tyX4 tyX4_ok zc_4 tw_138 tw_140 tw_11 rfl (by decide) (hG 72 (by decide) (by decide)) (Nat.le_of_ble_eq_true rfl) (Nat.le_of_ble_eq_true rfl) dX1_init_79 (n2 := 73) (a2 := 13) (w2 := 58) rfl rfl rfl ?_
  refine z_dup C dX1_init_82 rfl ?_
  refine z_callIN C hl (o := 72) (c_X4_init l B 73 (va_up (va_up G 59 (.inr (1, [.ref (B.1 + 60), .ref (B.1 + 61), .ref (B.1 + 68), .null, .int 0, .int 0, .int 0]))) 68 (.inl (B.2.2.1 5, 6, .inr (.inr (.inr (.inr (zq B (fun j => 68 + 1 + j) 3))))))) 72) (zCN (nA := 0) C rfl rfl tw_143 tw_11 (by decide +kernel) (by decide +kernel) ⟨Nat.le_of_ble_eq_true rfl, Nat.le_of_ble_eq_true rfl⟩) rfl tw_142 (Nat.le_of_ble_eq_true rfl) dX1_init_83 ⟨Nat.le_of_ble_eq_true rfl, Nat.le_of_ble_eq_true rfl⟩ (n2 := 73) (a2 := 13) (w2 := 58) rfl rfl rfl ?_
  refine z_aast C 5 (o := 68) (v := 72) (by decide) rfl rfl (by decide) (hG 72 (by decide) (by decide)) rfl (by unfold vp_in; decide) dX1_init_86 ?_
  refine z_G (G2 := (va_up (va_up G 59 (.inr (1, [.ref (B.1 + 60), .ref (B.1 + 61), .ref (B.1 + 68), .null, .int 0, .int 0, .int 0]))) 68 (.inl (B.2.2.1 5, 6, .inr (.inr (.inr (.inr (zq B (fun j => 68 + 1 + j) 4)))))))) ((va_upA _ _ _ _).trans (by rw [show va_up (zq B (fun j => 68 + 1 + j) 3) (Int32.toNatClampNeg 3) (some (B.1 + 72)) = zq B (fun j => 68 + 1 + j) 4 from zq_s B (fun j => 68 + 1 + j) 3])) ?_
  refine z_iinc C [(1, .int 4), (0, .ref (B.1 + 59))] dX1_init_87 0 rfl (by decide) (by decide) rfl ?_
  refine z_goto C 65 dX1_init_90 (by decide) ?_
  refine z_iload_n C dX1_init_65 0 rfl rfl ?_
  refine z_aload_n C dX1_init_66 1 rfl rfl ?_
  refine z_get C (ci := 1) (o := 59) (j := 2) (v := .ref (B.1 + 68)) (fs := [.ref (B.1 + 60), .ref (B.1 + 61), .ref (B.1 + 68), .null, .int 0, .int 0, .int 0]) zc_1 rfl (by decide) tw_170 rfl (by decide) rfl rfl dX1_init_67 ?_
  refine z_alen C (v := 6) 5 (o := 68) (by decide) rfl rfl rfl dX1_init_70 ?_
  refine z_icmp_ge C 93 dX1_init_71 (by decide) (fun hbr => absurd hbr (by decide)) (fun _ => ?_)
  refine z_aload_n C dX1_init_74 1 rfl rfl ?_
  refine z_get C (ci := 1) (o := 59) (j := 2) (v := .ref (B.1 + 68)) (fs := [.ref (B.1 + 60), .ref (B.1 + 61), .ref (B.1 + 68), .null, .int 0, .int 0, .int 0]) zc_1 rfl (by decide) tw_170 rfl (by decide) rfl rfl dX1_init_75 ?_
  refine z_iload_n C dX1_init_78 0 rfl rfl ?_
  refine z_new C (ci := 4) (fs := [.int 0, .int 0, .int 0, .int 0]) tyX4 tyX4_ok zc_4 tw_138 tw_140 tw_11 rfl (by decide) (hG 73 (by decide) (by decide)) (Nat.le_of_ble_eq_true rfl) (Nat.le_of_ble_eq_true rfl) dX1_init_79 (n2 := 74) (a2 := 14) (w2 := 62) rfl rfl rfl ?_
  refine z_dup C dX1_init_82 rfl ?_
  refine z_callIN C hl (o := 73) (c_X4_init l B 74 (va_up (va_up G 59 (.inr (1, [.ref (B.1 + 60), .ref (B.1 + 61), .ref (B.1 + 68), .null, .int 0, .int 0, .int 0]))) 68 (.inl (B.2.2.1 5, 6, .inr (.inr (.inr (.inr (zq B (fun j => 68 + 1 + j) 4))))))) 73) (zCN (nA := 0) C rfl rfl tw_143 tw_11 (by decide +kernel) (by decide +kernel) ⟨Nat.le_of_ble_eq_true rfl, Nat.le_of_ble_eq_true rfl⟩) rfl tw_142 (Nat.le_of_ble_eq_true rfl) dX1_init_83 ⟨Nat.le_of_ble_eq_true rfl, Nat.le_of_ble_eq_true rfl⟩ (n2 := 74) (a2 := 14) (w2 := 62) rfl rfl rfl ?_
  refine z_aast C 5 (o := 68) (v := 73) (by decide) rfl rfl (by decide) (hG 73 (by decide) (by decide)) rfl (by unfold vp_in; decide) dX1_init_86 ?_
  refine z_G (G2 := (va_up (va_up G 59 (.inr (1, [.ref (B.1 + 60), .ref (B.1 + 61), .ref (B.1 + 68), .null, .int 0, .int 0, .int 0]))) 68 (.inl (B.2.2.1 5, 6, .inr (.inr (.inr (.inr (zq B (fun j => 68 + 1 + j) 5)))))))) ((va_upA _ _ _ _).trans (by rw [show va_up (zq B (fun j => 68 + 1 + j) 4) (Int32.toNatClampNeg 4) (some (B.1 + 73)) = zq B (fun j => 68 + 1 + j) 5 from zq_s B (fun j => 68 + 1 + j) 4])) ?_
  refine z_iinc C [(1, .int 5), (0, .ref (B.1 + 59))] dX1_init_87 0 rfl (by decide) (by decide) rfl ?_
  refine z_goto C 65 dX1_init_90 (by decide) ?_
  refine z_iload_n C dX1_init_65 0 rfl rfl ?_
  refine z_aload_n C dX1_init_66 1 rfl rfl ?_
  refine z_get C (ci := 1) (o := 59) (j := 2) (v := .ref (B.1 + 68)) (fs := [.ref (B.1 + 60), .ref (B.1 + 61), .ref (B.1 + 68), .null, .int 0, .int 0, .int 0]) zc_1 rfl (by decide) tw_170 rfl (by decide) rfl rfl dX1_init_67 ?_
  refine z_alen C (v := 6) 5 (o := 68) (by decide) rfl rfl rfl dX1_init_70 ?_
  refine z_icmp_ge C 93 dX1_init_71 (by decide) (fun hbr => absurd hbr (by decide)) (fun _ => ?_)
  refine z_aload_n C dX1_init_74 1 rfl rfl ?_
  refine z_get C (ci := 1) (o := 59) (j := 2) (v := .ref (B.1 + 68)) (fs := [.ref (B.1 + 60), .ref (B.1 + 61), .ref (B.1 + 68), .null, .int 0, .int 0, .int 0]) zc_1 rfl (by decide) tw_170 rfl (by decide) rfl rfl dX1_init_75 ?_
  refine z_iload_n C dX1_init_78 0 rfl rfl ?_
  refine z_new C (ci := 4) (fs := [.int 0, .int 0, .int 0, .int 0]) tyX4 tyX4_ok zc_4 tw_138 tw_140 tw_11 rfl (by decide) (hG 74 (by decide) (by decide)) (Nat.le_of_ble_eq_true rfl) (Nat.le_of_ble_eq_true rfl) dX1_init_79 (n2 := 75) (a2 := 15) (w2 := 66) rfl rfl rfl ?_
  refine z_dup C dX1_init_82 rfl ?_
  refine z_callIN C hl (o := 74) (c_X4_init l B 75 (va_up (va_up G 59 (.inr (1, [.ref (B.1 + 60), .ref (B.1 + 61), .ref (B.1 + 68), .null, .int 0, .int 0, .int 0]))) 68 (.inl (B.2.2.1 5, 6, .inr (.inr (.inr (.inr (zq B (fun j => 68 + 1 + j) 5))))))) 74) (zCN (nA := 0) C rfl rfl tw_143 tw_11 (by decide +kernel) (by decide +kernel) ⟨Nat.le_of_ble_eq_true rfl, Nat.le_of_ble_eq_true rfl⟩) rfl tw_142 (Nat.le_of_ble_eq_true rfl) dX1_init_83 ⟨Nat.le_of_ble_eq_true rfl, Nat.le_of_ble_eq_true rfl⟩ (n2 := 75) (a2 := 15) (w2 := 66) rfl rfl rfl ?_
  refine z_aast C 5 (o := 68) (v := 74) (by decide) rfl rfl (by decide) (hG 74 (by decide) (by decide)) rfl (by unfold vp_in; decide) dX1_init_86 ?_
  refine z_G (G2 := (va_up (va_up G 59 (.inr (1, [.ref (B.1 + 60), .ref (B.1 + 61), .ref (B.1 + 68), .null, .int 0, .int 0, .int 0]))) 68 (.inl (B.2.2.1 5, 6, .inr (.inr (.inr (.inr (zq B (fun j => 68 + 1 + j) 6)))))))) ((va_upA _ _ _ _).trans (by rw [show va_up (zq B (fun j => 68 + 1 + j) 5) (Int32.toNatClampNeg 5) (some (B.1 + 74)) = zq B (fun j => 68 + 1 + j) 6 from zq_s B (fun j => 68 + 1 + j) 5])) ?_
  refine z_fill ?_
  refine z_G (G2 := (va_up G 59 (.inr (1, [.ref (B.1 + 60), .ref (B.1 + 61), .ref (B.1 + 68), .null, .int 0, .int 0, .int 0])))) (va_upI _ _ _ (hG 68 (by decide) (by decide))) ?_
  refine z_iinc C [(1, .int 6), (0, .ref (B.1 + 59))] dX1_init_87 0 rfl (by decide) (by decide) rfl ?_
  refine z_goto C 65 dX1_init_90 (by decide) ?_
  refine z_iload_n C dX1_init_65 0 rfl rfl ?_
  refine z_aload_n C dX1_init_66 1 rfl rfl ?_
  refine z_get C (ci := 1) (o := 59) (j := 2) (v := .ref (B.1 + 68)) (fs := [.ref (B.1 + 60), .ref (B.1 + 61), .ref (B.1 + 68), .null, .int 0, .int 0, .int 0]) zc_1 rfl (by decide) tw_170 rfl (by decide) rfl rfl dX1_init_67 ?_
  refine z_alen C (v := 6) 5 (o := 68) (by decide) (hG 68 (by decide) (by decide)) rfl rfl dX1_init_70 ?_
  refine z_icmp_ge C 93 dX1_init_71 (by decide) (fun _ => ?_) (fun hbr => absurd (by decide) hbr)
  refine z_aload_n C dX1_init_93 1 rfl rfl ?_
  refine z_bipush C dX1_init_94 kb_8 ?_
  refine z_GG (G2 := (va_up (va_up G 59 (.inr (1, [.ref (B.1 + 60), .ref (B.1 + 61), .ref (B.1 + 68), .null, .int 0, .int 0, .int 0]))) 75 (.inl (B.2.2.1 7, 8, .inr (.inr (.inr (.inr (fun _ => none)))))))) (fun k hk => (va_up_ne _ _ (Nat.ne_of_lt hk)).symm) ?_
  refine z_anew C 7 (Cn := RX8) tw_77 (by decide) rfl (by decide) (N' := 8) (by decide) (by decide) rfl (Nat.le_of_ble_eq_true rfl) (Nat.le_of_ble_eq_true rfl) dX1_init_96 (n2 := 76) (a2 := 16) (w2 := 74) rfl rfl rfl ?_
  refine z_G (G2 := (va_up (va_up G 59 (.inr (1, [.ref (B.1 + 60), .ref (B.1 + 61), .ref (B.1 + 68), .null, .int 0, .int 0, .int 0]))) 75 (.inl (B.2.2.1 7, 8, .inr (.inr (.inr (.inr (zq B (fun j => 75 + 1 + j) 0)))))))) (by rw [← zq_0]) ?_
  refine z_putF C hnm (ci := 1) (o := 59) (j := 3) (fs := [.ref (B.1 + 60), .ref (B.1 + 61), .ref (B.1 + 68), .null, .int 0, .int 0, .int 0]) (ty := tyX1 3) tyX1 tyX1_ok nmX1 zc_1 rfl (by decide) tw_171 rfl rfl rfl (by decide +kernel) rfl rfl (by decide) rfl (Nat.le_of_ble_eq_true rfl) dX1_init_99 ?_
  refine z_G (G2 := (va_up (va_up G 59 (.inr (1, [.ref (B.1 + 60), .ref (B.1 + 61), .ref (B.1 + 68), .ref (B.1 + 75), .int 0, .int 0, .int 0]))) 75 (.inl (B.2.2.1 7, 8, .inr (.inr (.inr (.inr (zq B (fun j => 75 + 1 + j) 0)))))))) (va_upB _ _ _ _ _ _ (by decide)) ?_
  refine z_iconst C dX1_init_102 ki_0 ?_
  refine z_istore_n C [(1, .int 0), (0, .ref (B.1 + 59))] dX1_init_103 rfl (by decide) rfl ?_
  refine z_iload_n C dX1_init_104 0 rfl rfl ?_
  refine z_aload_n C dX1_init_105 1 rfl rfl ?_
  refine z_get C (ci := 1) (o := 59) (j := 3) (v := .ref (B.1 + 75)) (fs := [.ref (B.1 + 60), .ref (B.1 + 61), .ref (B.1 + 68), .ref (B.1 + 75), .int 0, .int 0, .int 0]) zc_1 rfl (by decide) tw_171 rfl (by decide) rfl rfl dX1_init_106 ?_
  refine z_alen C (v := 8) 7 (o := 75) (by decide) rfl rfl rfl dX1_init_109 ?_
  refine z_icmp_ge C 132 dX1_init_110 (by decide) (fun hbr => absurd hbr (by decide)) (fun _ => ?_)
  refine z_aload_n C dX1_init_113 1 rfl rfl ?_
  refine z_get C (ci := 1) (o := 59) (j := 3) (v := .ref (B.1 + 75)) (fs := [.ref (B.1 + 60), .ref (B.1 + 61), .ref (B.1 + 68), .ref (B.1 + 75), .int 0, .int 0, .int 0]) zc_1 rfl (by decide) tw_171 rfl (by decide) rfl rfl dX1_init_114 ?_
  refine z_iload_n C dX1_init_117 0 rfl rfl ?_
  refine z_new C (ci := 8) (fs := [.int 0, .int 0, .int 0, .int 0, .int 0, .int 0]) tyX8 tyX8_ok zc_8 tw_77 tw_78 tw_9 rfl (by decide) (hG 76 (by decide) (by decide)) (Nat.le_of_ble_eq_true rfl) (Nat.le_of_ble_eq_true rfl) dX1_init_118 (n2 := 77) (a2 := 17) (w2 := 80) rfl rfl rfl ?_
  refine z_dup C dX1_init_121 rfl ?_
  refine z_callIN C hl (o := 76) (c_X8_init l B 77 (va_up (va_up G 59 (.inr (1, [.ref (B.1 + 60), .ref (B.1 + 61), .ref (B.1 + 68), .ref (B.1 + 75), .int 0, .int 0, .int 0]))) 75 (.inl (B.2.2.1 7, 8, .inr (.inr (.inr (.inr (zq B (fun j => 75 + 1 + j) 0))))))) 76) (zCN (nA := 0) C rfl rfl tw_81 tw_9 (by decide +kernel) (by decide +kernel) ⟨Nat.le_of_ble_eq_true rfl, Nat.le_of_ble_eq_true rfl⟩) rfl tw_80 (Nat.le_of_ble_eq_true rfl) dX1_init_122 ⟨Nat.le_of_ble_eq_true rfl, Nat.le_of_ble_eq_true rfl⟩ (n2 := 77) (a2 := 17) (w2 := 80) rfl rfl rfl ?_
  refine z_aast C 7 (o := 75) (v := 76) (by decide) rfl rfl (by decide) (hG 76 (by decide) (by decide)) rfl (by unfold vp_in; decide) dX1_init_125 ?_
  refine z_G (G2 := (va_up (va_up G 59 (.inr (1, [.ref (B.1 + 60), .ref (B.1 + 61), .ref (B.1 + 68), .ref (B.1 + 75), .int 0, .int 0, .int 0]))) 75 (.inl (B.2.2.1 7, 8, .inr (.inr (.inr (.inr (zq B (fun j => 75 + 1 + j) 1)))))))) ((va_upA _ _ _ _).trans (by rw [show va_up (zq B (fun j => 75 + 1 + j) 0) (Int32.toNatClampNeg 0) (some (B.1 + 76)) = zq B (fun j => 75 + 1 + j) 1 from zq_s B (fun j => 75 + 1 + j) 0])) ?_
  refine z_iinc C [(1, .int 1), (0, .ref (B.1 + 59))] dX1_init_126 0 rfl (by decide) (by decide) rfl ?_
  refine z_goto C 104 dX1_init_129 (by decide) ?_
  refine z_iload_n C dX1_init_104 0 rfl rfl ?_
  refine z_aload_n C dX1_init_105 1 rfl rfl ?_
  refine z_get C (ci := 1) (o := 59) (j := 3) (v := .ref (B.1 + 75)) (fs := [.ref (B.1 + 60), .ref (B.1 + 61), .ref (B.1 + 68), .ref (B.1 + 75), .int 0, .int 0, .int 0]) zc_1 rfl (by decide) tw_171 rfl (by decide) rfl rfl dX1_init_106 ?_
  refine z_alen C (v := 8) 7 (o := 75) (by decide) rfl rfl rfl dX1_init_109 ?_
  refine z_icmp_ge C 132 dX1_init_110 (by decide) (fun hbr => absurd hbr (by decide)) (fun _ => ?_)
  refine z_aload_n C dX1_init_113 1 rfl rfl ?_
  refine z_get C (ci := 1) (o := 59) (j := 3) (v := .ref (B.1 + 75)) (fs := [.ref (B.1 + 60), .ref (B.1 + 61), .ref (B.1 + 68), .ref (B.1 + 75), .int 0, .int 0, .int 0]) zc_1 rfl (by decide) tw_171 rfl (by decide) rfl rfl dX1_init_114 ?_
  refine z_iload_n C dX1_init_117 0 rfl rfl ?_
  refine z_new C (ci := 8) (fs := [.int 0, .int 0, .int 0, .int 0, .int 0, .int 0]) tyX8 tyX8_ok zc_8 tw_77 tw_78 tw_9 rfl (by decide) (hG 77 (by decide) (by decide)) (Nat.le_of_ble_eq_true rfl) (Nat.le_of_ble_eq_true rfl) dX1_init_118 (n2 := 78) (a2 := 18) (w2 := 86) rfl rfl rfl ?_
  refine z_dup C dX1_init_121 rfl ?_
  refine z_callIN C hl (o := 77) (c_X8_init l B 78 (va_up (va_up G 59 (.inr (1, [.ref (B.1 + 60), .ref (B.1 + 61), .ref (B.1 + 68), .ref (B.1 + 75), .int 0, .int 0, .int 0]))) 75 (.inl (B.2.2.1 7, 8, .inr (.inr (.inr (.inr (zq B (fun j => 75 + 1 + j) 1))))))) 77) (zCN (nA := 0) C rfl rfl tw_81 tw_9 (by decide +kernel) (by decide +kernel) ⟨Nat.le_of_ble_eq_true rfl, Nat.le_of_ble_eq_true rfl⟩) rfl tw_80 (Nat.le_of_ble_eq_true rfl) dX1_init_122 ⟨Nat.le_of_ble_eq_true rfl, Nat.le_of_ble_eq_true rfl⟩ (n2 := 78) (a2 := 18) (w2 := 86) rfl rfl rfl ?_
  refine z_aast C 7 (o := 75) (v := 77) (by decide) rfl rfl (by decide) (hG 77 (by decide) (by decide)) rfl (by unfold vp_in; decide) dX1_init_125 ?_
  refine z_G (G2 := (va_up (va_up G 59 (.inr (1, [.ref (B.1 + 60), .ref (B.1 + 61), .ref (B.1 + 68), .ref (B.1 + 75), .int 0, .int 0, .int 0]))) 75 (.inl (B.2.2.1 7, 8, .inr (.inr (.inr (.inr (zq B (fun j => 75 + 1 + j) 2)))))))) ((va_upA _ _ _ _).trans (by rw [show va_up (zq B (fun j => 75 + 1 + j) 1) (Int32.toNatClampNeg 1) (some (B.1 + 77)) = zq B (fun j => 75 + 1 + j) 2 from zq_s B (fun j => 75 + 1 + j) 1])) ?_
  refine z_iinc C [(1, .int 2), (0, .ref (B.1 + 59))] dX1_init_126 0 rfl (by decide) (by decide) rfl ?_
  refine z_goto C 104 dX1_init_129 (by decide) ?_
  refine z_iload_n C dX1_init_104 0 rfl rfl ?_
  refine z_aload_n C dX1_init_105 1 rfl rfl ?_
  refine z_get C (ci := 1) (o := 59) (j := 3) (v := .ref (B.1 + 75)) (fs := [.ref (B.1 + 60), .ref (B.1 + 61), .ref (B.1 + 68), .ref (B.1 + 75), .int 0, .int 0, .int 0]) zc_1 rfl (by decide) tw_171 rfl (by decide) rfl rfl dX1_init_106 ?_
  refine z_alen C (v := 8) 7 (o := 75) (by decide) rfl rfl rfl dX1_init_109 ?_
  refine z_icmp_ge C 132 dX1_init_110 (by decide) (fun hbr => absurd hbr (by decide)) (fun _ => ?_)
  refine z_aload_n C dX1_init_113 1 rfl rfl ?_
  refine z_get C (ci := 1) (o := 59) (j := 3) (v := .ref (B.1 + 75)) (fs := [.ref (B.1 + 60), .ref (B.1 + 61), .ref (B.1 + 68), .ref (B.1 + 75), .int 0, .int 0, .int 0]) zc_1 rfl (by decide) tw_171 rfl (by decide) rfl rfl dX1_init_114 ?_
  refine z_iload_n C dX1_init_117 0 rfl rfl ?_
  refine z_new C (ci := 8) (fs := [.int 0, .int 0, .int 0, .int 0, .int 0, .int 0]) tyX8 tyX8_ok zc_8 tw_77 tw_78 tw_9 rfl (by decide) (hG 78 (by decide) (by decide)) (Nat.le_of_ble_eq_true rfl) (Nat.le_of_ble_eq_true rfl) dX1_init_118 (n2 := 79) (a2 := 19) (w2 := 92) rfl rfl rfl ?_
  refine z_dup C dX1_init_121 rfl ?_
  refine z_callIN C hl (o := 78) (c_X8_init l B 79 (va_up (va_up G 59 (.inr (1, [.ref (B.1 + 60), .ref (B.1 + 61), .ref (B.1 + 68), .ref (B.1 + 75), .int 0, .int 0, .int 0]))) 75 (.inl (B.2.2.1 7, 8, .inr (.inr (.inr (.inr (zq B (fun j => 75 + 1 + j) 2))))))) 78) (zCN (nA := 0) C rfl rfl tw_81 tw_9 (by decide +kernel) (by decide +kernel) ⟨Nat.le_of_ble_eq_true rfl, Nat.le_of_ble_eq_true rfl⟩) rfl tw_80 (Nat.le_of_ble_eq_true rfl) dX1_init_122 ⟨Nat.le_of_ble_eq_true rfl, Nat.le_of_ble_eq_true rfl⟩ (n2 := 79) (a2 := 19) (w2 := 92) rfl rfl rfl ?_
  refine z_aast C 7 (o := 75) (v := 78) (by decide) rfl rfl (by decide) (hG 78 (by decide) (by decide)) rfl (by unfold vp_in; decide) dX1_init_125 ?_
  refine z_G (G2 := (va_up (va_up G 59 (.inr (1, [.ref (B.1 + 60), .ref (B.1 + 61), .ref (B.1 + 68), .ref (B.1 + 75), .int 0, .int 0, .int 0]))) 75 (.inl (B.2.2.1 7, 8, .inr (.inr (.inr (.inr (zq B (fun j => 75 + 1 + j) 3)))))))) ((va_upA _ _ _ _).trans (by rw [show va_up (zq B (fun j => 75 + 1 + j) 2) (Int32.toNatClampNeg 2) (some (B.1 + 78)) = zq B (fun j => 75 + 1 + j) 3 from zq_s B (fun j => 75 + 1 + j) 2])) ?_
  refine z_iinc C [(1, .int 3), (0, .ref (B.1 + 59))] dX1_init_126 0 rfl (by decide) (by decide) rfl ?_
  refine z_goto C 104 dX1_init_129 (by decide) ?_
  refine z_iload_n C dX1_init_104 0 rfl rfl ?_
  refine z_aload_n C dX1_init_105 1 rfl rfl ?_
  refine z_get C (ci := 1) (o := 59) (j := 3) (v := .ref (B.1 + 75)) (fs := [.ref (B.1 + 60), .ref (B.1 + 61), .ref (B.1 + 68), .ref (B.1 + 75), .int 0, .int 0, .int 0]) zc_1 rfl (by decide) tw_171 rfl (by decide) rfl rfl dX1_init_106 ?_
  refine z_alen C (v := 8) 7 (o := 75) (by decide) rfl rfl rfl dX1_init_109 ?_
  refine z_icmp_ge C 132 dX1_init_110 (by decide) (fun hbr => absurd hbr (by decide)) (fun _ => ?_)
  refine z_aload_n C dX1_init_113 1 rfl rfl ?_
  refine z_get C (ci := 1) (o := 59) (j := 3) (v := .ref (B.1 + 75)) (fs := [.ref (B.1 + 60), .ref (B.1 + 61), .ref (B.1 + 68), .ref (B.1 + 75), .int 0, .int 0, .int 0]) zc_1 rfl (by decide) tw_171 rfl (by decide) rfl rfl dX1_init_114 ?_
  refine z_iload_n C dX1_init_117 0 rfl rfl ?_
  refine z_new C (ci := 8) (fs := [.int 0, .int 0, .int 0, .int 0, .int 0, .int 0]) tyX8 tyX8_ok zc_8 tw_77 tw_78 tw_9 rfl (by decide) (hG 79 (by decide) (by decide)) (Nat.le_of_ble_eq_true rfl) (Nat.le_of_ble_eq_true rfl) dX1_init_118 (n2 := 80) (a2 := 20) (w2 := 98) rfl rfl rfl ?_
  refine z_dup C dX1_init_121 rfl ?_
  refine z_callIN C hl (o := 79) (c_X8_init l B 80 (va_up (va_up G 59 (.inr (1, [.ref (B.1 + 60), .ref (B.1 + 61), .ref (B.1 + 68), .ref (B.1 + 75), .int 0, .int 0, .int 0]))) 75 (.inl (B.2.2.1 7, 8, .inr (.inr (.inr (.inr (zq B (fun j => 75 + 1 + j) 3))))))) 79) (zCN (nA := 0) C rfl rfl tw_81 tw_9 (by decide +kernel) (by decide +kernel) ⟨Nat.le_of_ble_eq_true rfl, Nat.le_of_ble_eq_true rfl⟩) rfl tw_80 (Nat.le_of_ble_eq_true rfl) dX1_init_122 ⟨Nat.le_of_ble_eq_true rfl, Nat.le_of_ble_eq_true rfl⟩ (n2 := 80) (a2 := 20) (w2 := 98) rfl rfl rfl ?_
  refine z_aast C 7 (o := 75) (v := 79) (by decide) rfl rfl (by decide) (hG 79 (by decide) (by decide)) rfl (by unfold vp_in; decide) dX1_init_125 ?_
  refine z_G (G2 := (va_up (va_up G 59 (.inr (1, [.ref (B.1 + 60), .ref (B.1 + 61), .ref (B.1 + 68), .ref (B.1 + 75), .int 0, .int 0, .int 0]))) 75 (.inl (B.2.2.1 7, 8, .inr (.inr (.inr (.inr (zq B (fun j => 75 + 1 + j) 4)))))))) ((va_upA _ _ _ _).trans (by rw [show va_up (zq B (fun j => 75 + 1 + j) 3) (Int32.toNatClampNeg 3) (some (B.1 + 79)) = zq B (fun j => 75 + 1 + j) 4 from zq_s B (fun j => 75 + 1 + j) 3])) ?_
  refine z_iinc C [(1, .int 4), (0, .ref (B.1 + 59))] dX1_init_126 0 rfl (by decide) (by decide) rfl ?_
  refine z_goto C 104 dX1_init_129 (by decide) ?_
  refine z_iload_n C dX1_init_104 0 rfl rfl ?_
  refine z_aload_n C dX1_init_105 1 rfl rfl ?_
  refine z_get C (ci := 1) (o := 59) (j := 3) (v := .ref (B.1 + 75)) (fs := [.ref (B.1 + 60), .ref (B.1 + 61), .ref (B.1 + 68), .ref (B.1 + 75), .int 0, .int 0, .int 0]) zc_1 rfl (by decide) tw_171 rfl (by decide) rfl rfl dX1_init_106 ?_
  refine z_alen C (v := 8) 7 (o := 75) (by decide) rfl rfl rfl dX1_init_109 ?_
  refine z_icmp_ge C 132 dX1_init_110 (by decide) (fun hbr => absurd hbr (by decide)) (fun _ => ?_)
  refine z_aload_n C dX1_init_113 1 rfl rfl ?_
  refine z_get C (ci := 1) (o := 59) (j := 3) (v := .ref (B.1 + 75)) (fs := [.ref (B.1 + 60), .ref (B.1 + 61), .ref (B.1 + 68), .ref (B.1 + 75), .int 0, .int 0, .int 0]) zc_1 rfl (by decide) tw_171 rfl (by decide) rfl rfl dX1_init_114 ?_
  refine z_iload_n C dX1_init_117 0 rfl rfl ?_
  refine z_new C (ci := 8) (fs := [.int 0, .int 0, .int 0, .int 0, .int 0, .int 0]) tyX8 tyX8_ok zc_8 tw_77 tw_78 tw_9 rfl (by decide) (hG 80 (by decide) (by decide)) (Nat.le_of_ble_eq_true rfl) (Nat.le_of_ble_eq_true rfl) dX1_init_118 (n2 := 81) (a2 := 21) (w2 := 104) rfl rfl rfl ?_
  refine z_dup C dX1_init_121 rfl ?_
  refine z_callIN C hl (o := 80) (c_X8_init l B 81 (va_up (va_up G 59 (.inr (1, [.ref (B.1 + 60), .ref (B.1 + 61), .ref (B.1 + 68), .ref (B.1 + 75), .int 0, .int 0, .int 0]))) 75 (.inl (B.2.2.1 7, 8, .inr (.inr (.inr (.inr (zq B (fun j => 75 + 1 + j) 4))))))) 80) (zCN (nA := 0) C rfl rfl tw_81 tw_9 (by decide +kernel) (by decide +kernel) ⟨Nat.le_of_ble_eq_true rfl, Nat.le_of_ble_eq_true rfl⟩) rfl tw_80 (Nat.le_of_ble_eq_true rfl) dX1_init_122 ⟨Nat.le_of_ble_eq_true rfl, Nat.le_of_ble_eq_true rfl⟩ (n2 := 81) (a2 := 21) (w2 := 104) rfl rfl rfl ?_
  refine z_aast C 7 (o := 75) (v := 80) (by decide) rfl rfl (by decide) (hG 80 (by decide) (by decide)) rfl (by unfold vp_in; decide) dX1_init_125 ?_
  refine z_G (G2 := (va_up (va_up G 59 (.inr (1, [.ref (B.1 + 60), .ref (B.1 + 61), .ref (B.1 + 68), .ref (B.1 + 75), .int 0, .int 0, .int 0]))) 75 (.inl (B.2.2.1 7, 8, .inr (.inr (.inr (.inr (zq B (fun j => 75 + 1 + j) 5)))))))) ((va_upA _ _ _ _).trans (by rw [show va_up (zq B (fun j => 75 + 1 + j) 4) (Int32.toNatClampNeg 4) (some (B.1 + 80)) = zq B (fun j => 75 + 1 + j) 5 from zq_s B (fun j => 75 + 1 + j) 4])) ?_
  refine z_iinc C [(1, .int 5), (0, .ref (B.1 + 59))] dX1_init_126 0 rfl (by decide) (by decide) rfl ?_
  refine z_goto C 104 dX1_init_129 (by decide) ?_
  refine z_iload_n C dX1_init_104 0 rfl rfl ?_
  refine z_aload_n C dX1_init_105 1 rfl rfl ?_
  refine z_get C (ci := 1) (o := 59) (j := 3) (v := .ref (B.1 + 75)) (fs := [.ref (B.1 + 60), .ref (B.1 + 61), .ref (B.1 + 68), .ref (B.1 + 75), .int 0, .int 0, .int 0]) zc_1 rfl (by decide) tw_171 rfl (by decide) rfl rfl dX1_init_106 ?_
  refine z_alen C (v := 8) 7 (o := 75) (by decide) rfl rfl rfl dX1_init_109 ?_
  refine z_icmp_ge C 132 dX1_init_110 (by decide) (fun hbr => absurd hbr (by decide)) (fun _ => ?_)
  refine z_aload_n C dX1_init_113 1 rfl rfl ?_
  refine z_get C (ci := 1) (o := 59) (j := 3) (v := .ref (B.1 + 75)) (fs := [.ref (B.1 + 60), .ref (B.1 + 61), .ref (B.1 + 68), .ref (B.1 + 75), .int 0, .int 0, .int 0]) zc_1 rfl (by decide) tw_171 rfl (by decide) rfl rfl dX1_init_114 ?_
  refine z_iload_n C dX1_init_117 0 rfl rfl ?_
  refine z_new C (ci := 8) (fs := [.int 0, .int 0, .int 0, .int 0, .int 0, .int 0]) tyX8 tyX8_ok zc_8 tw_77 tw_78 tw_9 rfl (by decide) (hG 81 (by decide) (by decide)) (Nat.le_of_ble_eq_true rfl) (Nat.le_of_ble_eq_true rfl) dX1_init_118 (n2 := 82) (a2 := 22) (w2 := 110) rfl rfl rfl ?_
  refine z_dup C dX1_init_121 rfl ?_
  refine z_callIN C hl (o := 81) (c_X8_init l B 82 (va_up (va_up G 59 (.inr (1, [.ref (B.1 + 60), .ref (B.1 + 61), .ref (B.1 + 68), .ref (B.1 + 75), .int 0, .int 0, .int 0]))) 75 (.inl (B.2.2.1 7, 8, .inr (.inr (.inr (.inr (zq B (fun j => 75 + 1 + j) 5))))))) 81) (zCN (nA := 0) C rfl rfl tw_81 tw_9 (by decide +kernel) (by decide +kernel) ⟨Nat.le_of_ble_eq_true rfl, Nat.le_of_ble_eq_true rfl⟩) rfl tw_80 (Nat.le_of_ble_eq_true rfl) dX1_init_122 ⟨Nat.le_of_ble_eq_true rfl, Nat.le_of_ble_eq_true rfl⟩ (n2 := 82) (a2 := 22) (w2 := 110) rfl rfl rfl ?_
  refine z_aast C 7 (o := 75) (v := 81) (by decide) rfl rfl (by decide) (hG 81 (by decide) (by decide)) rfl (by unfold vp_in; decide) dX1_init_125 ?_
  refine z_G (G2 := (va_up (va_up G 59 (.inr (1, [.ref (B.1 + 60), .ref (B.1 + 61), .ref (B.1 + 68), .ref (B.1 + 75), .int 0, .int 0, .int 0]))) 75 (.inl (B.2.2.1 7, 8, .inr (.inr (.inr (.inr (zq B (fun j => 75 + 1 + j) 6)))))))) ((va_upA _ _ _ _).trans (by rw [show va_up (zq B (fun j => 75 + 1 + j) 5) (Int32.toNatClampNeg 5) (some (B.1 + 81)) = zq B (fun j => 75 + 1 + j) 6 from zq_s B (fun j => 75 + 1 + j) 5])) ?_
  refine z_iinc C [(1, .int 6), (0, .ref (B.1 + 59))] dX1_init_126 0 rfl (by decide) (by decide) rfl ?_
  refine z_goto C 104 dX1_init_129 (by decide) ?_
  refine z_iload_n C dX1_init_104 0 rfl rfl ?_
  refine z_aload_n C dX1_init_105 1 rfl rfl ?_
  refine z_get C (ci := 1) (o := 59) (j := 3) (v := .ref (B.1 + 75)) (fs := [.ref (B.1 + 60), .ref (B.1 + 61), .ref (B.1 + 68), .ref (B.1 + 75), .int 0, .int 0, .int 0]) zc_1 rfl (by decide) tw_171 rfl (by decide) rfl rfl dX1_init_106 ?_
  refine z_alen C (v := 8) 7 (o := 75) (by decide) rfl rfl rfl dX1_init_109 ?_
  refine z_icmp_ge C 132 dX1_init_110 (by decide) (fun hbr => absurd hbr (by decide)) (fun _ => ?_)
  refine z_aload_n C dX1_init_113 1 rfl rfl ?_
  refine z_get C (ci := 1) (o := 59) (j := 3) (v := .ref (B.1 + 75)) (fs := [.ref (B.1 + 60), .ref (B.1 + 61), .ref (B.1 + 68), .ref (B.1 + 75), .int 0, .int 0, .int 0]) zc_1 rfl (by decide) tw_171 rfl (by decide) rfl rfl dX1_init_114 ?_
  refine z_iload_n C dX1_init_117 0 rfl rfl ?_
  refine z_new C (ci := 8) (fs := [.int 0, .int 0, .int 0, .int 0, .int 0, .int 0]) tyX8 tyX8_ok zc_8 tw_77 tw_78 tw_9 rfl (by decide) (hG 82 (by decide) (by decide)) (Nat.le_of_ble_eq_true rfl) (Nat.le_of_ble_eq_true rfl) dX1_init_118 (n2 := 83) (a2 := 23) (w2 := 116) rfl rfl rfl ?_
  refine z_dup C dX1_init_121 rfl ?_
  refine z_callIN C hl (o := 82) (c_X8_init l B 83 (va_up (va_up G 59 (.inr (1, [.ref (B.1 + 60), .ref (B.1 + 61), .ref (B.1 + 68), .ref (B.1 + 75), .int 0, .int 0, .int 0]))) 75 (.inl (B.2.2.1 7, 8, .inr (.inr (.inr (.inr (zq B (fun j => 75 + 1 + j) 6))))))) 82) (zCN (nA := 0) C rfl rfl tw_81 tw_9 (by decide +kernel) (by decide +kernel) ⟨Nat.le_of_ble_eq_true rfl, Nat.le_of_ble_eq_true rfl⟩) rfl tw_80 (Nat.le_of_ble_eq_true rfl) dX1_init_122 ⟨Nat.le_of_ble_eq_true rfl, Nat.le_of_ble_eq_true rfl⟩ (n2 := 83) (a2 := 23) (w2 := 116) rfl rfl rfl ?_
  refine z_aast C 7 (o := 75) (v := 82) (by decide) rfl rfl (by decide) (hG 82 (by decide) (by decide)) rfl (by unfold vp_in; decide) dX1_init_125 ?_
  refine z_G (G2 := (va_up (va_up G 59 (.inr (1, [.ref (B.1 + 60), .ref (B.1 + 61), .ref (B.1 + 68), .ref (B.1 + 75), .int 0, .int 0, .int 0]))) 75 (.inl (B.2.2.1 7, 8, .inr (.inr (.inr (.inr (zq B (fun j => 75 + 1 + j) 7)))))))) ((va_upA _ _ _ _).trans (by rw [show va_up (zq B (fun j => 75 + 1 + j) 6) (Int32.toNatClampNeg 6) (some (B.1 + 82)) = zq B (fun j => 75 + 1 + j) 7 from zq_s B (fun j => 75 + 1 + j) 6])) ?_
  refine z_iinc C [(1, .int 7), (0, .ref (B.1 + 59))] dX1_init_126 0 rfl (by decide) (by decide) rfl ?_
  refine z_goto C 104 dX1_init_129 (by decide) ?_
  refine z_iload_n C dX1_init_104 0 rfl rfl ?_
  refine z_aload_n C dX1_init_105 1 rfl rfl ?_
  refine z_get C (ci := 1) (o := 59) (j := 3) (v := .ref (B.1 + 75)) (fs := [.ref (B.1 + 60), .ref (B.1 + 61), .ref (B.1 + 68), .ref (B.1 + 75), .int 0, .int 0, .int 0]) zc_1 rfl (by decide) tw_171 rfl (by decide) rfl rfl dX1_init_106 ?_
  refine z_alen C (v := 8) 7 (o := 75) (by decide) rfl rfl rfl dX1_init_109 ?_
  refine z_icmp_ge C 132 dX1_init_110 (by decide) (fun hbr => absurd hbr (by decide)) (fun _ => ?_)
  refine z_aload_n C dX1_init_113 1 rfl rfl ?_
  refine z_get C (ci := 1) (o := 59) (j := 3) (v := .ref (B.1 + 75)) (fs := [.ref (B.1 + 60), .ref (B.1 + 61), .ref (B.1 + 68), .ref (B.1 + 75), .int 0, .int 0, .int 0]) zc_1 rfl (by decide) tw_171 rfl (by decide) rfl rfl dX1_init_114 ?_
  refine z_iload_n C dX1_init_117 0 rfl rfl ?_
  refine z_new C (ci := 8) (fs := [.int 0, .int 0, .int 0, .int 0, .int 0, .int 0]) tyX8 tyX8_ok zc_8 tw_77 tw_78 tw_9 rfl (by decide) (hG 83 (by decide) (by decide)) (Nat.le_of_ble_eq_true rfl) (Nat.le_of_ble_eq_true rfl) dX1_init_118 (n2 := 84) (a2 := 24) (w2 := 122) rfl rfl rfl ?_
  refine z_dup C dX1_init_121 rfl ?_
  refine z_callIN C hl (o := 83) (c_X8_init l B 84 (va_up (va_up G 59 (.inr (1, [.ref (B.1 + 60), .ref (B.1 + 61), .ref (B.1 + 68), .ref (B.1 + 75), .int 0, .int 0, .int 0]))) 75 (.inl (B.2.2.1 7, 8, .inr (.inr (.inr (.inr (zq B (fun j => 75 + 1 + j) 7))))))) 83) (zCN (nA := 0) C rfl rfl tw_81 tw_9 (by decide +kernel) (by decide +kernel) ⟨Nat.le_of_ble_eq_true rfl, Nat.le_of_ble_eq_true rfl⟩) rfl tw_80 (Nat.le_of_ble_eq_true rfl) dX1_init_122 ⟨Nat.le_of_ble_eq_true rfl, Nat.le_of_ble_eq_true rfl⟩ (n2 := 84) (a2 := 24) (w2 := 122) rfl rfl rfl ?_
  refine z_aast C 7 (o := 75) (v := 83) (by decide) rfl rfl (by decide) (hG 83 (by decide) (by decide)) rfl (by unfold vp_in; decide) dX1_init_125 ?_
  refine z_G (G2 := (va_up (va_up G 59 (.inr (1, [.ref (B.1 + 60), .ref (B.1 + 61), .ref (B.1 + 68), .ref (B.1 + 75), .int 0, .int 0, .int 0]))) 75 (.inl (B.2.2.1 7, 8, .inr (.inr (.inr (.inr (zq B (fun j => 75 + 1 + j) 8)))))))) ((va_upA _ _ _ _).trans (by rw [show va_up (zq B (fun j => 75 + 1 + j) 7) (Int32.toNatClampNeg 7) (some (B.1 + 83)) = zq B (fun j => 75 + 1 + j) 8 from zq_s B (fun j => 75 + 1 + j) 7])) ?_
  refine z_fill ?_
  refine z_G (G2 := (va_up G 59 (.inr (1, [.ref (B.1 + 60), .ref (B.1 + 61), .ref (B.1 + 68), .ref (B.1 + 75), .int 0, .int 0, .int 0])))) (va_upI _ _ _ (hG 75 (by decide) (by decide))) ?_
  refine z_iinc C [(1, .int 8), (0, .ref (B.1 + 59))] dX1_init_126 0 rfl (by decide) (by decide) rfl ?_
  refine z_goto C 104 dX1_init_129 (by decide) ?_
  refine z_iload_n C dX1_init_104 0 rfl rfl ?_
  refine z_aload_n C dX1_init_105 1 rfl rfl ?_
  refine z_get C (ci := 1) (o := 59) (j := 3) (v := .ref (B.1 + 75)) (fs := [.ref (B.1 + 60), .ref (B.1 + 61), .ref (B.1 + 68), .ref (B.1 + 75), .int 0, .int 0, .int 0]) zc_1 rfl (by decide) tw_171 rfl (by decide) rfl rfl dX1_init_106 ?_
  refine z_alen C (v := 8) 7 (o := 75) (by decide) (hG 75 (by decide) (by decide)) rfl rfl dX1_init_109 ?_
  refine z_icmp_ge C 132 dX1_init_110 (by decide) (fun _ => ?_) (fun hbr => absurd (by decide) hbr)
  refine z_G (G2 := G) (va_upI _ _ _ (hG 59 (by decide) (by decide))) ?_
  exact z_vret C E rfl dX1_init_132 rfl (Nat.le_refl _) ⟨rfl, rfl⟩
set_option maxRecDepth 100000 in
set_option maxHeartbeats 4000000 in
theorem c_X1_init_84 (l : Launch) (B : zB) (G : Nat → va_E) (hG : ∀ k, 84 ≤ k → k < 109 → G k = zg B z0 zt1 k) : zMet l B mX1_init 24 122 85 (va_up G 84 (.inr (1, [.null, .null, .null, .null, .int 0, .int 0, .int 0]))) [.ref (B.1 + 84)] (zRi G) := by
  refine z_met (by decide) (Nat.le_of_ble_eq_true rfl) ?_
  intro X hl C E hnm
  show Z X B mX1_init 85 (va_up G 84 (.inr (1, [.null, .null, .null, .null, .int 0, .int 0, .int 0]))) 0 0 0 [(0, .ref (B.1 + 84))] []
  refine z_aload_n C dX1_init_0 0 rfl rfl ?_
  refine z_obj C tw_76 (Nat.le_of_ble_eq_true rfl) (Nat.le_of_ble_eq_true rfl) dX1_init_1 ?_
  refine z_aload_n C dX1_init_4 0 rfl rfl ?_
  refine z_new C (ci := 8) (fs := [.int 0, .int 0, .int 0, .int 0, .int 0, .int 0]) tyX8 tyX8_ok zc_8 tw_77 tw_78 tw_9 rfl (by decide) (hG 85 (by decide) (by decide)) (Nat.le_of_ble_eq_true rfl) (Nat.le_of_ble_eq_true rfl) dX1_init_5 (n2 := 86) (a2 := 1) (w2 := 6) rfl rfl rfl ?_
  refine z_dup C dX1_init_8 rfl ?_
  refine z_callIN C hl (o := 85) (c_X8_init l B 86 (va_up G 84 (.inr (1, [.null, .null, .null, .null, .int 0, .int 0, .int 0]))) 85) (zCN (nA := 0) C rfl rfl tw_81 tw_9 (by decide +kernel) (by decide +kernel) ⟨Nat.le_of_ble_eq_true rfl, Nat.le_of_ble_eq_true rfl⟩) rfl tw_80 (Nat.le_of_ble_eq_true rfl) dX1_init_9 ⟨Nat.le_of_ble_eq_true rfl, Nat.le_of_ble_eq_true rfl⟩ (n2 := 86) (a2 := 1) (w2 := 6) rfl rfl rfl ?_
  refine z_putF C hnm (ci := 1) (o := 84) (j := 0) (fs := [.null, .null, .null, .null, .int 0, .int 0, .int 0]) (ty := tyX1 0) tyX1 tyX1_ok nmX1 zc_1 rfl (by decide) tw_167 rfl rfl rfl (by decide +kernel) rfl rfl (by decide) rfl (Nat.le_of_ble_eq_true rfl) dX1_init_12 ?_
  refine z_G (G2 := (va_up G 84 (.inr (1, [.ref (B.1 + 85), .null, .null, .null, .int 0, .int 0, .int 0])))) (va_upA _ _ _ _) ?_
  refine z_aload_n C dX1_init_15 0 rfl rfl ?_
  refine z_bipush C dX1_init_16 kb_6 ?_
  refine z_GG (G2 := (va_up (va_up G 84 (.inr (1, [.ref (B.1 + 85), .null, .null, .null, .int 0, .int 0, .int 0]))) 86 (.inl (B.2.2.1 3, 6, .inr (.inr (.inr (.inr (fun _ => none)))))))) (fun k hk => (va_up_ne _ _ (Nat.ne_of_lt hk)).symm) ?_
  refine z_anew C 3 (Cn := RX0) tw_110 (by decide) rfl (by decide) (N' := 6) (by decide) (by decide) rfl (Nat.le_of_ble_eq_true rfl) (Nat.le_of_ble_eq_true rfl) dX1_init_18 (n2 := 87) (a2 := 2) (w2 := 12) rfl rfl rfl ?_
  refine z_G (G2 := (va_up (va_up G 84 (.inr (1, [.ref (B.1 + 85), .null, .null, .null, .int 0, .int 0, .int 0]))) 86 (.inl (B.2.2.1 3, 6, .inr (.inr (.inr (.inr (zq B (fun j => 86 + 1 + j) 0)))))))) (by rw [← zq_0]) ?_
  refine z_putF C hnm (ci := 1) (o := 84) (j := 1) (fs := [.ref (B.1 + 85), .null, .null, .null, .int 0, .int 0, .int 0]) (ty := tyX1 1) tyX1 tyX1_ok nmX1 zc_1 rfl (by decide) tw_169 rfl rfl rfl (by decide +kernel) rfl rfl (by decide) rfl (Nat.le_of_ble_eq_true rfl) dX1_init_21 ?_
  refine z_G (G2 := (va_up (va_up G 84 (.inr (1, [.ref (B.1 + 85), .ref (B.1 + 86), .null, .null, .int 0, .int 0, .int 0]))) 86 (.inl (B.2.2.1 3, 6, .inr (.inr (.inr (.inr (zq B (fun j => 86 + 1 + j) 0)))))))) (va_upB _ _ _ _ _ _ (by decide)) ?_
  refine z_iconst C dX1_init_24 ki_0 ?_
  refine z_istore_n C [(1, .int 0), (0, .ref (B.1 + 84))] dX1_init_25 rfl (by decide) rfl ?_
  refine z_iload_n C dX1_init_26 0 rfl rfl ?_
  refine z_aload_n C dX1_init_27 1 rfl rfl ?_
  refine z_get C (ci := 1) (o := 84) (j := 1) (v := .ref (B.1 + 86)) (fs := [.ref (B.1 + 85), .ref (B.1 + 86), .null, .null, .int 0, .int 0, .int 0]) zc_1 rfl (by decide) tw_169 rfl (by decide) rfl rfl dX1_init_28 ?_
  refine z_alen C (v := 6) 3 (o := 86) (by decide) rfl rfl rfl dX1_init_31 ?_
  refine z_icmp_ge C 54 dX1_init_32 (by decide) (fun hbr => absurd hbr (by decide)) (fun _ => ?_)
  refine z_aload_n C dX1_init_35 1 rfl rfl ?_
  refine z_get C (ci := 1) (o := 84) (j := 1) (v := .ref (B.1 + 86)) (fs := [.ref (B.1 + 85), .ref (B.1 + 86), .null, .null, .int 0, .int 0, .int 0]) zc_1 rfl (by decide) tw_169 rfl (by decide) rfl rfl dX1_init_36 ?_
  refine z_iload_n C dX1_init_39 0 rfl rfl ?_
  refine z_new C (ci := 0) (fs := [.int 0, .int 0, .int 0, .int 0]) tyX0 tyX0_ok zc_0 tw_110 tw_112 tw_10 rfl (by decide) (hG 87 (by decide) (by decide)) (Nat.le_of_ble_eq_true rfl) (Nat.le_of_ble_eq_true rfl) dX1_init_40 (n2 := 88) (a2 := 3) (w2 := 16) rfl rfl rfl ?_
  refine z_dup C dX1_init_43 rfl ?_
  refine z_callIN C hl (o := 87) (c_X0_init l B 88 (va_up (va_up G 84 (.inr (1, [.ref (B.1 + 85), .ref (B.1 + 86), .null, .null, .int 0, .int 0, .int 0]))) 86 (.inl (B.2.2.1 3, 6, .inr (.inr (.inr (.inr (zq B (fun j => 86 + 1 + j) 0))))))) 87) (zCN (nA := 0) C rfl rfl tw_115 tw_10 (by decide +kernel) (by decide +kernel) ⟨Nat.le_of_ble_eq_true rfl, Nat.le_of_ble_eq_true rfl⟩) rfl tw_114 (Nat.le_of_ble_eq_true rfl) dX1_init_44 ⟨Nat.le_of_ble_eq_true rfl, Nat.le_of_ble_eq_true rfl⟩ (n2 := 88) (a2 := 3) (w2 := 16) rfl rfl rfl ?_
  refine z_aast C 3 (o := 86) (v := 87) (by decide) rfl rfl (by decide) (hG 87 (by decide) (by decide)) rfl (by unfold vp_in; decide) dX1_init_47 ?_
  refine z_G (G2 := (va_up (va_up G 84 (.inr (1, [.ref (B.1 + 85), .ref (B.1 + 86), .null, .null, .int 0, .int 0, .int 0]))) 86 (.inl (B.2.2.1 3, 6, .inr (.inr (.inr (.inr (zq B (fun j => 86 + 1 + j) 1)))))))) ((va_upA _ _ _ _).trans (by rw [show va_up (zq B (fun j => 86 + 1 + j) 0) (Int32.toNatClampNeg 0) (some (B.1 + 87)) = zq B (fun j => 86 + 1 + j) 1 from zq_s B (fun j => 86 + 1 + j) 0])) ?_
  refine z_iinc C [(1, .int 1), (0, .ref (B.1 + 84))] dX1_init_48 0 rfl (by decide) (by decide) rfl ?_
  refine z_goto C 26 dX1_init_51 (by decide) ?_
  refine z_iload_n C dX1_init_26 0 rfl rfl ?_
  refine z_aload_n C dX1_init_27 1 rfl rfl ?_
  refine z_get C (ci := 1) (o := 84) (j := 1) (v := .ref (B.1 + 86)) (fs := [.ref (B.1 + 85), .ref (B.1 + 86), .null, .null, .int 0, .int 0, .int 0]) zc_1 rfl (by decide) tw_169 rfl (by decide) rfl rfl dX1_init_28 ?_
  refine z_alen C (v := 6) 3 (o := 86) (by decide) rfl rfl rfl dX1_init_31 ?_
  refine z_icmp_ge C 54 dX1_init_32 (by decide) (fun hbr => absurd hbr (by decide)) (fun _ => ?_)
  refine z_aload_n C dX1_init_35 1 rfl rfl ?_
  refine z_get C (ci := 1) (o := 84) (j := 1) (v := .ref (B.1 + 86)) (fs := [.ref (B.1 + 85), .ref (B.1 + 86), .null, .null, .int 0, .int 0, .int 0]) zc_1 rfl (by decide) tw_169 rfl (by decide) rfl rfl dX1_init_36 ?_
  refine z_iload_n C dX1_init_39 0 rfl rfl ?_
  refine z_new C (ci := 0) (fs := [.int 0, .int 0, .int 0, .int 0]) tyX0 tyX0_ok zc_0 tw_110 tw_112 tw_10 rfl (by decide) (hG 88 (by decide) (by decide)) (Nat.le_of_ble_eq_true rfl) (Nat.le_of_ble_eq_true rfl) dX1_init_40 (n2 := 89) (a2 := 4) (w2 := 20) rfl rfl rfl ?_
  refine z_dup C dX1_init_43 rfl ?_
  refine z_callIN C hl (o := 88) (c_X0_init l B 89 (va_up (va_up G 84 (.inr (1, [.ref (B.1 + 85), .ref (B.1 + 86), .null, .null, .int 0, .int 0, .int 0]))) 86 (.inl (B.2.2.1 3, 6, .inr (.inr (.inr (.inr (zq B (fun j => 86 + 1 + j) 1))))))) 88) (zCN (nA := 0) C rfl rfl tw_115 tw_10 (by decide +kernel) (by decide +kernel) ⟨Nat.le_of_ble_eq_true rfl, Nat.le_of_ble_eq_true rfl⟩) rfl tw_114 (Nat.le_of_ble_eq_true rfl) dX1_init_44 ⟨Nat.le_of_ble_eq_true rfl, Nat.le_of_ble_eq_true rfl⟩ (n2 := 89) (a2 := 4) (w2 := 20) rfl rfl rfl ?_
  refine z_aast C 3 (o := 86) (v := 88) (by decide) rfl rfl (by decide) (hG 88 (by decide) (by decide)) rfl (by unfold vp_in; decide) dX1_init_47 ?_
  refine z_G (G2 := (va_up (va_up G 84 (.inr (1, [.ref (B.1 + 85), .ref (B.1 + 86), .null, .null, .int 0, .int 0, .int 0]))) 86 (.inl (B.2.2.1 3, 6, .inr (.inr (.inr (.inr (zq B (fun j => 86 + 1 + j) 2)))))))) ((va_upA _ _ _ _).trans (by rw [show va_up (zq B (fun j => 86 + 1 + j) 1) (Int32.toNatClampNeg 1) (some (B.1 + 88)) = zq B (fun j => 86 + 1 + j) 2 from zq_s B (fun j => 86 + 1 + j) 1])) ?_
  refine z_iinc C [(1, .int 2), (0, .ref (B.1 + 84))] dX1_init_48 0 rfl (by decide) (by decide) rfl ?_
  refine z_goto C 26 dX1_init_51 (by decide) ?_
  refine z_iload_n C dX1_init_26 0 rfl rfl ?_
  refine z_aload_n C dX1_init_27 1 rfl rfl ?_
  refine z_get C (ci := 1) (o := 84) (j := 1) (v := .ref (B.1 + 86)) (fs := [.ref (B.1 + 85), .ref (B.1 + 86), .null, .null, .int 0, .int 0, .int 0]) zc_1 rfl (by decide) tw_169 rfl (by decide) rfl rfl dX1_init_28 ?_
  refine z_alen C (v := 6) 3 (o := 86) (by decide) rfl rfl rfl dX1_init_31 ?_
  refine z_icmp_ge C 54 dX1_init_32 (by decide) (fun hbr => absurd hbr (by decide)) (fun _ => ?_)
  refine z_aload_n C dX1_init_35 1 rfl rfl ?_
  refine z_get C (ci := 1) (o := 84) (j := 1) (v := .ref (B.1 + 86)) (fs := [.ref (B.1 + 85), .ref (B.1 + 86), .null, .null, .int 0, .int 0, .int 0]) zc_1 rfl (by decide) tw_169 rfl (by decide) rfl rfl dX1_init_36 ?_
  refine z_iload_n C dX1_init_39 0 rfl rfl ?_
  refine z_new C (ci := 0) (fs := [.int 0, .int 0, .int 0, .int 0]) tyX0 tyX0_ok zc_0 tw_110 tw_112 tw_10 rfl (by decide) (hG 89 (by decide) (by decide)) (Nat.le_of_ble_eq_true rfl) (Nat.le_of_ble_eq_true rfl) dX1_init_40 (n2 := 90) (a2 := 5) (w2 := 24) rfl rfl rfl ?_
  refine z_dup C dX1_init_43 rfl ?_
  refine z_callIN C hl (o := 89) (c_X0_init l B 90 (va_up (va_up G 84 (.inr (1, [.ref (B.1 + 85), .ref (B.1 + 86), .null, .null, .int 0, .int 0, .int 0]))) 86 (.inl (B.2.2.1 3, 6, .inr (.inr (.inr (.inr (zq B (fun j => 86 + 1 + j) 2))))))) 89) (zCN (nA := 0) C rfl rfl tw_115 tw_10 (by decide +kernel) (by decide +kernel) ⟨Nat.le_of_ble_eq_true rfl, Nat.le_of_ble_eq_true rfl⟩) rfl tw_114 (Nat.le_of_ble_eq_true rfl) dX1_init_44 ⟨Nat.le_of_ble_eq_true rfl, Nat.le_of_ble_eq_true rfl⟩ (n2 := 90) (a2 := 5) (w2 := 24) rfl rfl rfl ?_
  refine z_aast C 3 (o := 86) (v := 89) (by decide) rfl rfl (by decide) (hG 89 (by decide) (by decide)) rfl (by unfold vp_in; decide) dX1_init_47 ?_
  refine z_G (G2 := (va_up (va_up G 84 (.inr (1, [.ref (B.1 + 85), .ref (B.1 + 86), .null, .null, .int 0, .int 0, .int 0]))) 86 (.inl (B.2.2.1 3, 6, .inr (.inr (.inr (.inr (zq B (fun j => 86 + 1 + j) 3)))))))) ((va_upA _ _ _ _).trans (by rw [show va_up (zq B (fun j => 86 + 1 + j) 2) (Int32.toNatClampNeg 2) (some (B.1 + 89)) = zq B (fun j => 86 + 1 + j) 3 from zq_s B (fun j => 86 + 1 + j) 2])) ?_
  refine z_iinc C [(1, .int 3), (0, .ref (B.1 + 84))] dX1_init_48 0 rfl (by decide) (by decide) rfl ?_
  refine z_goto C 26 dX1_init_51 (by decide) ?_
  refine z_iload_n C dX1_init_26 0 rfl rfl ?_
  refine z_aload_n C dX1_init_27 1 rfl rfl ?_
  refine z_get C (ci := 1) (o := 84) (j := 1) (v := .ref (B.1 + 86)) (fs := [.ref (B.1 + 85), .ref (B.1 + 86), .null, .null, .int 0, .int 0, .int 0]) zc_1 rfl (by decide) tw_169 rfl (by decide) rfl rfl dX1_init_28 ?_
  refine z_alen C (v := 6) 3 (o := 86) (by decide) rfl rfl rfl dX1_init_31 ?_
  refine z_icmp_ge C 54 dX1_init_32 (by decide) (fun hbr => absurd hbr (by decide)) (fun _ => ?_)
  refine z_aload_n C dX1_init_35 1 rfl rfl ?_
  refine z_get C (ci := 1) (o := 84) (j := 1) (v := .ref (B.1 + 86)) (fs := [.ref (B.1 + 85), .ref (B.1 + 86), .null, .null, .int 0, .int 0, .int 0]) zc_1 rfl (by decide) tw_169 rfl (by decide) rfl rfl dX1_init_36 ?_
  refine z_iload_n C dX1_init_39 0 rfl rfl ?_
  refine z_new C (ci := 0) (fs := [.int 0, .int 0, .int 0, .int 0]) tyX0 tyX0_ok zc_0 tw_110 tw_112 tw_10 rfl (by decide) (hG 90 (by decide) (by decide)) (Nat.le_of_ble_eq_true rfl) (Nat.le_of_ble_eq_true rfl) dX1_init_40 (n2 := 91) (a2 := 6) (w2 := 28) rfl rfl rfl ?_
  refine z_dup C dX1_init_43 rfl ?_
  refine z_callIN C hl (o := 90) (c_X0_init l B 91 (va_up (va_up G 84 (.inr (1, [.ref (B.1 + 85), .ref (B.1 + 86), .null, .null, .int 0, .int 0, .int 0]))) 86 (.inl (B.2.2.1 3, 6, .inr (.inr (.inr (.inr (zq B (fun j => 86 + 1 + j) 3))))))) 90) (zCN (nA := 0) C rfl rfl tw_115 tw_10 (by decide +kernel) (by decide +kernel) ⟨Nat.le_of_ble_eq_true rfl, Nat.le_of_ble_eq_true rfl⟩) rfl tw_114 (Nat.le_of_ble_eq_true rfl) dX1_init_44 ⟨Nat.le_of_ble_eq_true rfl, Nat.le_of_ble_eq_true rfl⟩ (n2 := 91) (a2 := 6) (w2 := 28) rfl rfl rfl ?_
  refine z_aast C 3 (o := 86) (v := 90) (by decide) rfl rfl (by decide) (hG 90 (by decide) (by decide)) rfl (by unfold vp_in; decide) dX1_init_47 ?_
  refine z_G (G2 := (va_up (va_up G 84 (.inr (1, [.ref (B.1 + 85), .ref (B.1 + 86), .null, .null, .int 0, .int 0, .int 0]))) 86 (.inl (B.2.2.1 3, 6, .inr (.inr (.inr (.inr (zq B (fun j => 86 + 1 + j) 4)))))))) ((va_upA _ _ _ _).trans (by rw [show va_up (zq B (fun j => 86 + 1 + j) 3) (Int32.toNatClampNeg 3) (some (B.1 + 90)) = zq B (fun j => 86 + 1 + j) 4 from zq_s B (fun j => 86 + 1 + j) 3])) ?_
  refine z_iinc C [(1, .int 4), (0, .ref (B.1 + 84))] dX1_init_48 0 rfl (by decide) (by decide) rfl ?_
  refine z_goto C 26 dX1_init_51 (by decide) ?_
  refine z_iload_n C dX1_init_26 0 rfl rfl ?_
  refine z_aload_n C dX1_init_27 1 rfl rfl ?_
  refine z_get C (ci := 1) (o := 84) (j := 1) (v := .ref (B.1 + 86)) (fs := [.ref (B.1 + 85), .ref (B.1 + 86), .null, .null, .int 0, .int 0, .int 0]) zc_1 rfl (by decide) tw_169 rfl (by decide) rfl rfl dX1_init_28 ?_
  refine z_alen C (v := 6) 3 (o := 86) (by decide) rfl rfl rfl dX1_init_31 ?_
  refine z_icmp_ge C 54 dX1_init_32 (by decide) (fun hbr => absurd hbr (by decide)) (fun _ => ?_)
  refine z_aload_n C dX1_init_35 1 rfl rfl ?_
  refine z_get C (ci := 1) (o := 84) (j := 1) (v := .ref (B.1 + 86)) (fs := [.ref (B.1 + 85), .ref (B.1 + 86), .null, .null, .int 0, .int 0, .int 0]) zc_1 rfl (by decide) tw_169 rfl (by decide) rfl rfl dX1_init_36 ?_
  refine z_iload_n C dX1_init_39 0 rfl rfl ?_
  refine z_new C (ci := 0) (fs := [.int 0, .int 0, .int 0, .int 0]) tyX0 tyX0_ok zc_0 tw_110 tw_112 tw_10 rfl (by decide) (hG 91 (by decide) (by decide)) (Nat.le_of_ble_eq_true rfl) (Nat.le_of_ble_eq_true rfl) dX1_init_40 (n2 := 92) (a2 := 7) (w2 := 32) rfl rfl rfl ?_
  refine z_dup C dX1_init_43 rfl ?_
  refine z_callIN C hl (o := 91) (c_X0_init l B 92 (va_up (va_up G 84 (.inr (1, [.ref (B.1 + 85), .ref (B.1 + 86), .null, .null, .int 0, .int 0, .int 0]))) 86 (.inl (B.2.2.1 3, 6, .inr (.inr (.inr (.inr (zq B (fun j => 86 + 1 + j) 4))))))) 91) (zCN (nA := 0) C rfl rfl tw_115 tw_10 (by decide +kernel) (by decide +kernel) ⟨Nat.le_of_ble_eq_true rfl, Nat.le_of_ble_eq_true rfl⟩) rfl tw_114 (Nat.le_of_ble_eq_true rfl) dX1_init_44 ⟨Nat.le_of_ble_eq_true rfl, Nat.le_of_ble_eq_true rfl⟩ (n2 := 92) (a2 := 7) (w2 := 32) rfl rfl rfl ?_
  refine z_aast C 3 (o := 86) (v := 91) (by decide) rfl rfl (by decide) (hG 91 (by decide) (by decide)) rfl (by unfold vp_in; decide) dX1_init_47 ?_
  refine z_G (G2 := (va_up (va_up G 84 (.inr (1, [.ref (B.1 + 85), .ref (B.1 + 86), .null, .null, .int 0, .int 0, .int 0]))) 86 (.inl (B.2.2.1 3, 6, .inr (.inr (.inr (.inr (zq B (fun j => 86 + 1 + j) 5)))))))) ((va_upA _ _ _ _).trans (by rw [show va_up (zq B (fun j => 86 + 1 + j) 4) (Int32.toNatClampNeg 4) (some (B.1 + 91)) = zq B (fun j => 86 + 1 + j) 5 from zq_s B (fun j => 86 + 1 + j) 4])) ?_
  refine z_iinc C [(1, .int 5), (0, .ref (B.1 + 84))] dX1_init_48 0 rfl (by decide) (by decide) rfl ?_
  refine z_goto C 26 dX1_init_51 (by decide) ?_
  refine z_iload_n C dX1_init_26 0 rfl rfl ?_
  refine z_aload_n C dX1_init_27 1 rfl rfl ?_
  refine z_get C (ci := 1) (o := 84) (j := 1) (v := .ref (B.1 + 86)) (fs := [.ref (B.1 + 85), .ref (B.1 + 86), .null, .null, .int 0, .int 0, .int 0]) zc_1 rfl (by decide) tw_169 rfl (by decide) rfl rfl dX1_init_28 ?_
  refine z_alen C (v := 6) 3 (o := 86) (by decide) rfl rfl rfl dX1_init_31 ?_
  refine z_icmp_ge C 54 dX1_init_32 (by decide) (fun hbr => absurd hbr (by decide)) (fun _ => ?_)
  refine z_aload_n C dX1_init_35 1 rfl rfl ?_
  refine z_get C (ci := 1) (o := 84) (j := 1) (v := .ref (B.1 + 86)) (fs := [.ref (B.1 + 85), .ref (B.1 + 86), .null, .null, .int 0, .int 0, .int 0]) zc_1 rfl (by decide) tw_169 rfl (by decide) rfl rfl dX1_init_36 ?_
  refine z_iload_n C dX1_init_39 0 rfl rfl ?_
  refine z_new C (ci := 0) (fs := [.int 0, .int 0, .int 0, .int 0]) tyX0 tyX0_ok zc_0 tw_110 tw_112 tw_10 rfl (by decide) (hG 92 (by decide) (by decide)) (Nat.le_of_ble_eq_true rfl) (Nat.le_of_ble_eq_true rfl) dX1_init_40 (n2 := 93) (a2 := 8) (w2 := 36) rfl rfl rfl ?_
  refine z_dup C dX1_init_43 rfl ?_
  refine z_callIN C hl (o := 92) (c_X0_init l B 93 (va_up (va_up G 84 (.inr (1, [.ref (B.1 + 85), .ref (B.1 + 86), .null, .null, .int 0, .int 0, .int 0]))) 86 (.inl (B.2.2.1 3, 6, .inr (.inr (.inr (.inr (zq B (fun j => 86 + 1 + j) 5))))))) 92) (zCN (nA := 0) C rfl rfl tw_115 tw_10 (by decide +kernel) (by decide +kernel) ⟨Nat.le_of_ble_eq_true rfl, Nat.le_of_ble_eq_true rfl⟩) rfl tw_114 (Nat.le_of_ble_eq_true rfl) dX1_init_44 ⟨Nat.le_of_ble_eq_true rfl, Nat.le_of_ble_eq_true rfl⟩ (n2 := 93) (a2 := 8) (w2 := 36) rfl rfl rfl ?_
  refine z_aast C 3 (o := 86) (v := 92) (by decide) rfl rfl (by decide) (hG 92 (by decide) (by decide)) rfl (by unfold vp_in; decide) dX1_init_47 ?_
  refine z_G (G2 := (va_up (va_up G 84 (.inr (1, [.ref (B.1 + 85), .ref (B.1 + 86), .null, .null, .int 0, .int 0, .int 0]))) 86 (.inl (B.2.2.1 3, 6, .inr (.inr (.inr (.inr (zq B (fun j => 86 + 1 + j) 6)))))))) ((va_upA _ _ _ _).trans (by rw [show va_up (zq B (fun j => 86 + 1 + j) 5) (Int32.toNatClampNeg 5) (some (B.1 + 92)) = zq B (fun j => 86 + 1 + j) 6 from zq_s B (fun j => 86 + 1 + j) 5])) ?_
  refine z_fill ?_
  refine z_G (G2 := (va_up G 84 (.inr (1, [.ref (B.1 + 85), .ref (B.1 + 86), .null, .null, .int 0, .int 0, .int 0])))) (va_upI _ _ _ (hG 86 (by decide) (by decide))) ?_
  refine z_iinc C [(1, .int 6), (0, .ref (B.1 + 84))] dX1_init_48 0 rfl (by decide) (by decide) rfl ?_
  refine z_goto C 26 dX1_init_51 (by decide) ?_
  refine z_iload_n C dX1_init_26 0 rfl rfl ?_
  refine z_aload_n C dX1_init_27 1 rfl rfl ?_
  refine z_get C (ci := 1) (o := 84) (j := 1) (v := .ref (B.1 + 86)) (fs := [.ref (B.1 + 85), .ref (B.1 + 86), .null, .null, .int 0, .int 0, .int 0]) zc_1 rfl (by decide) tw_169 rfl (by decide) rfl rfl dX1_init_28 ?_
  refine z_alen C (v := 6) 3 (o := 86) (by decide) (hG 86 (by decide) (by decide)) rfl rfl dX1_init_31 ?_
  refine z_icmp_ge C 54 dX1_init_32 (by decide) (fun _ => ?_) (fun hbr => absurd (by decide) hbr)
  refine z_aload_n C dX1_init_54 1 rfl rfl ?_
  refine z_bipush C dX1_init_55 kb_6 ?_
  refine z_GG (G2 := (va_up (va_up G 84 (.inr (1, [.ref (B.1 + 85), .ref (B.1 + 86), .null, .null, .int 0, .int 0, .int 0]))) 93 (.inl (B.2.2.1 5, 6, .inr (.inr (.inr (.inr (fun _ => none)))))))) (fun k hk => (va_up_ne _ _ (Nat.ne_of_lt hk)).symm) ?_
  refine z_anew C 5 (Cn := RX4) tw_138 (by decide) rfl (by decide) (N' := 6) (by decide) (by decide) rfl (Nat.le_of_ble_eq_true rfl) (Nat.le_of_ble_eq_true rfl) dX1_init_57 (n2 := 94) (a2 := 9) (w2 := 42) rfl rfl rfl ?_
  refine z_G (G2 := (va_up (va_up G 84 (.inr (1, [.ref (B.1 + 85), .ref (B.1 + 86), .null, .null, .int 0, .int 0, .int 0]))) 93 (.inl (B.2.2.1 5, 6, .inr (.inr (.inr (.inr (zq B (fun j => 93 + 1 + j) 0)))))))) (by rw [← zq_0]) ?_
  refine z_putF C hnm (ci := 1) (o := 84) (j := 2) (fs := [.ref (B.1 + 85), .ref (B.1 + 86), .null, .null, .int 0, .int 0, .int 0]) (ty := tyX1 2) tyX1 tyX1_ok nmX1 zc_1 rfl (by decide) tw_170 rfl rfl rfl (by decide +kernel) rfl rfl (by decide) rfl (Nat.le_of_ble_eq_true rfl) dX1_init_60 ?_
  refine z_G (G2 := (va_up (va_up G 84 (.inr (1, [.ref (B.1 + 85), .ref (B.1 + 86), .ref (B.1 + 93), .null, .int 0, .int 0, .int 0]))) 93 (.inl (B.2.2.1 5, 6, .inr (.inr (.inr (.inr (zq B (fun j => 93 + 1 + j) 0)))))))) (va_upB _ _ _ _ _ _ (by decide)) ?_
  refine z_iconst C dX1_init_63 ki_0 ?_
  refine z_istore_n C [(1, .int 0), (0, .ref (B.1 + 84))] dX1_init_64 rfl (by decide) rfl ?_
  refine z_iload_n C dX1_init_65 0 rfl rfl ?_
  refine z_aload_n C dX1_init_66 1 rfl rfl ?_
  refine z_get C (ci := 1) (o := 84) (j := 2) (v := .ref (B.1 + 93)) (fs := [.ref (B.1 + 85), .ref (B.1 + 86), .ref (B.1 + 93), .null, .int 0, .int 0, .int 0]) zc_1 rfl (by decide) tw_170 rfl (by decide) rfl rfl dX1_init_67 ?_
  refine z_alen C (v := 6) 5 (o := 93) (by decide) rfl rfl rfl dX1_init_70 ?_
  refine z_icmp_ge C 93 dX1_init_71 (by decide) (fun hbr => absurd hbr (by decide)) (fun _ => ?_)
  refine z_aload_n C dX1_init_74 1 rfl rfl ?_
  refine z_get C (ci := 1) (o := 84) (j := 2) (v := .ref (B.1 + 93)) (fs := [.ref (B.1 + 85), .ref (B.1 + 86), .ref (B.1 + 93), .null, .int 0, .int 0, .int 0]) zc_1 rfl (by decide) tw_170 rfl (by decide) rfl rfl dX1_init_75 ?_
  refine z_iload_n C dX1_init_78 0 rfl rfl ?_
  refine z_new C (ci := 4) (fs := [.int 0, .int 0, .int 0, .int 0]) tyX4 tyX4_ok zc_4 tw_138 tw_140 tw_11 rfl (by decide) (hG 94 (by decide) (by decide)) (Nat.le_of_ble_eq_true rfl) (Nat.le_of_ble_eq_true rfl) dX1_init_79 (n2 := 95) (a2 := 10) (w2 := 46) rfl rfl rfl ?_
  refine z_dup C dX1_init_82 rfl ?_
  refine z_callIN C hl (o := 94) (c_X4_init l B 95 (va_up (va_up G 84 (.inr (1, [.ref (B.1 + 85), .ref (B.1 + 86), .ref (B.1 + 93), .null, .int 0, .int 0, .int 0]))) 93 (.inl (B.2.2.1 5, 6, .inr (.inr (.inr (.inr (zq B (fun j => 93 + 1 + j) 0))))))) 94) (zCN (nA := 0) C rfl rfl tw_143 tw_11 (by decide +kernel) (by decide +kernel) ⟨Nat.le_of_ble_eq_true rfl, Nat.le_of_ble_eq_true rfl⟩) rfl tw_142 (Nat.le_of_ble_eq_true rfl) dX1_init_83 ⟨Nat.le_of_ble_eq_true rfl, Nat.le_of_ble_eq_true rfl⟩ (n2 := 95) (a2 := 10) (w2 := 46) rfl rfl rfl ?_
  refine z_aast C 5 (o := 93) (v := 94) (by decide) rfl rfl (by decide) (hG 94 (by decide) (by decide)) rfl (by unfold vp_in; decide) dX1_init_86 ?_
  refine z_G (G2 := (va_up (va_up G 84 (.inr (1, [.ref (B.1 + 85), .ref (B.1 + 86), .ref (B.1 + 93), .null, .int 0, .int 0, .int 0]))) 93 (.inl (B.2.2.1 5, 6, .inr (.inr (.inr (.inr (zq B (fun j => 93 + 1 + j) 1)))))))) ((va_upA _ _ _ _).trans (by rw [show va_up (zq B (fun j => 93 + 1 + j) 0) (Int32.toNatClampNeg 0) (some (B.1 + 94)) = zq B (fun j => 93 + 1 + j) 1 from zq_s B (fun j => 93 + 1 + j) 0])) ?_
  refine z_iinc C [(1, .int 1), (0, .ref (B.1 + 84))] dX1_init_87 0 rfl (by decide) (by decide) rfl ?_
  refine z_goto C 65 dX1_init_90 (by decide) ?_
  refine z_iload_n C dX1_init_65 0 rfl rfl ?_
  refine z_aload_n C dX1_init_66 1 rfl rfl ?_
  refine z_get C (ci := 1) (o := 84) (j := 2) (v := .ref (B.1 + 93)) (fs := [.ref (B.1 + 85), .ref (B.1 + 86), .ref (B.1 + 93), .null, .int 0, .int 0, .int 0]) zc_1 rfl (by decide) tw_170 rfl (by decide) rfl rfl dX1_init_67 ?_
  refine z_alen C (v := 6) 5 (o := 93) (by decide) rfl rfl rfl dX1_init_70 ?_
  refine z_icmp_ge C 93 dX1_init_71 (by decide) (fun hbr => absurd hbr (by decide)) (fun _ => ?_)
  refine z_aload_n C dX1_init_74 1 rfl rfl ?_
  refine z_get C (ci := 1) (o := 84) (j := 2) (v := .ref (B.1 + 93)) (fs := [.ref (B.1 + 85), .ref (B.1 + 86), .ref (B.1 + 93), .null, .int 0, .int 0, .int 0]) zc_1 rfl (by decide) tw_170 rfl (by decide) rfl rfl dX1_init_75 ?_
  refine z_iload_n C dX1_init_78 0 rfl rfl ?_
  refine z_new C (ci := 4) (fs := [.int 0, .int 0, .int 0, .int 0]) tyX4 tyX4_ok zc_4 tw_138 tw_140 tw_11 rfl (by decide) (hG 95 (by decide) (by decide)) (Nat.le_of_ble_eq_true rfl) (Nat.le_of_ble_eq_true rfl) dX1_init_79 (n2 := 96) (a2 := 11) (w2 := 50) rfl rfl rfl ?_
  refine z_dup C dX1_init_82 rfl ?_
  refine z_callIN C hl (o := 95) (c_X4_init l B 96 (va_up (va_up G 84 (.inr (1, [.ref (B.1 + 85), .ref (B.1 + 86), .ref (B.1 + 93), .null, .int 0, .int 0, .int 0]))) 93 (.inl (B.2.2.1 5, 6, .inr (.inr (.inr (.inr (zq B (fun j => 93 + 1 + j) 1))))))) 95) (zCN (nA := 0) C rfl rfl tw_143 tw_11 (by decide +kernel) (by decide +kernel) ⟨Nat.le_of_ble_eq_true rfl, Nat.le_of_ble_eq_true rfl⟩) rfl tw_142 (Nat.le_of_ble_eq_true rfl) dX1_init_83 ⟨Nat.le_of_ble_eq_true rfl, Nat.le_of_ble_eq_true rfl⟩ (n2 := 96) (a2 := 11) (w2 := 50) rfl rfl rfl ?_
  refine z_aast C 5 (o := 93) (v := 95) (by decide) rfl rfl (by decide) (hG 95 (by decide) (by decide)) rfl (by unfold vp_in; decide) dX1_init_86 ?_
  refine z_G (G2 := (va_up (va_up G 84 (.inr (1, [.ref (B.1 + 85), .ref (B.1 + 86), .ref (B.1 + 93), .null, .int 0, .int 0, .int 0]))) 93 (.inl (B.2.2.1 5, 6, .inr (.inr (.inr (.inr (zq B (fun j => 93 + 1 + j) 2)))))))) ((va_upA _ _ _ _).trans (by rw [show va_up (zq B (fun j => 93 + 1 + j) 1) (Int32.toNatClampNeg 1) (some (B.1 + 95)) = zq B (fun j => 93 + 1 + j) 2 from zq_s B (fun j => 93 + 1 + j) 1])) ?_
  refine z_iinc C [(1, .int 2), (0, .ref (B.1 + 84))] dX1_init_87 0 rfl (by decide) (by decide) rfl ?_
  refine z_goto C 65 dX1_init_90 (by decide) ?_
  refine z_iload_n C dX1_init_65 0 rfl rfl ?_
  refine z_aload_n C dX1_init_66 1 rfl rfl ?_
  refine z_get C (ci := 1) (o := 84) (j := 2) (v := .ref (B.1 + 93)) (fs := [.ref (B.1 + 85), .ref (B.1 + 86), .ref (B.1 + 93), .null, .int 0, .int 0, .int 0]) zc_1 rfl (by decide) tw_170 rfl (by decide) rfl rfl dX1_init_67 ?_
  refine z_alen C (v := 6) 5 (o := 93) (by decide) rfl rfl rfl dX1_init_70 ?_
  refine z_icmp_ge C 93 dX1_init_71 (by decide) (fun hbr => absurd hbr (by decide)) (fun _ => ?_)
  refine z_aload_n C dX1_init_74 1 rfl rfl ?_
  refine z_get C (ci := 1) (o := 84) (j := 2) (v := .ref (B.1 + 93)) (fs := [.ref (B.1 + 85), .ref (B.1 + 86), .ref (B.1 + 93), .null, .int 0, .int 0, .int 0]) zc_1 rfl (by decide) tw_170 rfl (by decide) rfl rfl dX1_init_75 ?_
  refine z_iload_n C dX1_init_78 0 rfl rfl ?_
  refine z_new C (ci := 4) (fs := [.int 0, .int 0, .int 0, .int 0]) tyX4 tyX4_ok zc_4 tw_138 tw_140 tw_11 rfl (by decide) (hG 96 (by decide) (by decide)) (Nat.le_of_ble_eq_true rfl) (Nat.le_of_ble_eq_true rfl) dX1_init_79 (n2 := 97) (a2 := 12) (w2 := 54) rfl rfl rfl ?_
  refine z_dup C dX1_init_82 rfl ?_
  refine z_callIN C hl (o := 96) (c_X4_init l B 97 (va_up (va_up G 84 (.inr (1, [.ref (B.1 + 85), .ref (B.1 + 86), .ref (B.1 + 93), .null, .int 0, .int 0, .int 0]))) 93 (.inl (B.2.2.1 5, 6, .inr (.inr (.inr (.inr (zq B (fun j => 93 + 1 + j) 2))))))) 96) (zCN (nA := 0) C rfl rfl tw_143 tw_11 (by decide +kernel) (by decide +kernel) ⟨Nat.le_of_ble_eq_true rfl, Nat.le_of_ble_eq_true rfl⟩) rfl tw_142 (Nat.le_of_ble_eq_true rfl) dX1_init_83 ⟨Nat.le_of_ble_eq_true rfl, Nat.le_of_ble_eq_true rfl⟩ (n2 := 97) (a2 := 12) (w2 := 54) rfl rfl rfl ?_
  refine z_aast C 5 (o := 93) (v := 96) (by decide) rfl rfl (by decide) (hG 96 (by decide) (by decide)) rfl (by unfold vp_in; decide) dX1_init_86 ?_
  refine z_G (G2 := (va_up (va_up G 84 (.inr (1, [.ref (B.1 + 85), .ref (B.1 + 86), .ref (B.1 + 93), .null, .int 0, .int 0, .int 0]))) 93 (.inl (B.2.2.1 5, 6, .inr (.inr (.inr (.inr (zq B (fun j => 93 + 1 + j) 3)))))))) ((va_upA _ _ _ _).trans (by rw [show va_up (zq B (fun j => 93 + 1 + j) 2) (Int32.toNatClampNeg 2) (some (B.1 + 96)) = zq B (fun j => 93 + 1 + j) 3 from zq_s B (fun j => 93 + 1 + j) 2])) ?_
  refine z_iinc C [(1, .int 3), (0, .ref (B.1 + 84))] dX1_init_87 0 rfl (by decide) (by decide) rfl ?_
  refine z_goto C 65 dX1_init_90 (by decide) ?_
  refine z_iload_n C dX1_init_65 0 rfl rfl ?_
  refine z_aload_n C dX1_init_66 1 rfl rfl ?_
  refine z_get C (ci := 1) (o := 84) (j := 2) (v := .ref (B.1 + 93)) (fs := [.ref (B.1 + 85), .ref (B.1 + 86), .ref (B.1 + 93), .null, .int 0, .int 0, .int 0]) zc_1 rfl (by decide) tw_170 rfl (by decide) rfl rfl dX1_init_67 ?_
  refine z_alen C (v := 6) 5 (o := 93) (by decide) rfl rfl rfl dX1_init_70 ?_
  refine z_icmp_ge C 93 dX1_init_71 (by decide) (fun hbr => absurd hbr (by decide)) (fun _ => ?_)
  refine z_aload_n C dX1_init_74 1 rfl rfl ?_
  refine z_get C (ci := 1) (o := 84) (j := 2) (v := .ref (B.1 + 93)) (fs := [.ref (B.1 + 85), .ref (B.1 + 86), .ref (B.1 + 93), .null, .int 0, .int 0, .int 0]) zc_1 rfl (by decide) tw_170 rfl (by decide) rfl rfl dX1_init_75 ?_
  refine z_iload_n C dX1_init_78 0 rfl rfl ?_
  refine z_new C (ci := 4) (fs := [.int 0, .int 0, .int 0, .int 0]) tyX4 tyX4_ok zc_4 tw_138 tw_140 tw_11 rfl (by decide) (hG 97 (by decide) (by decide)) (Nat.le_of_ble_eq_true rfl) (Nat.le_of_ble_eq_true rfl) dX1_init_79 (n2 := 98) (a2 := 13) (w2 := 58) rfl rfl rfl ?_
  refine z_dup C dX1_init_82 rfl ?_
  refine z_callIN C hl (o := 97) (c_X4_init l B 98 (va_up (va_up G 84 (.inr (1, [.ref (B.1 + 85), .ref (B.1 + 86), .ref (B.1 + 93), .null, .int 0, .int 0, .int 0]))) 93 (.inl (B.2.2.1 5, 6, .inr (.inr (.inr (.inr (zq B (fun j => 93 + 1 + j) 3))))))) 97) (zCN (nA := 0) C rfl rfl tw_143 tw_11 (by decide +kernel) (by decide +kernel) ⟨Nat.le_of_ble_eq_true rfl, Nat.le_of_ble_eq_true rfl⟩) rfl tw_142 (Nat.le_of_ble_eq_true rfl) dX1_init_83 ⟨Nat.le_of_ble_eq_true rfl, Nat.le_of_ble_eq_true rfl⟩ (n2 := 98) (a2 := 13) (w2 := 58) rfl rfl rfl ?_
  refine z_aast C 5 (o := 93) (v := 97) (by decide) rfl rfl (by decide) (hG 97 (by decide) (by decide)) rfl (by unfold vp_in; decide) dX1_init_86 ?_
  refine z_G (G2 := (va_up (va_up G 84 (.inr (1, [.ref (B.1 + 85), .ref (B.1 + 86), .ref (B.1 + 93), .null, .int 0, .int 0, .int 0]))) 93 (.inl (B.2.2.1 5, 6, .inr (.inr (.inr (.inr (zq B (fun j => 93 + 1 + j) 4)))))))) ((va_upA _ _ _ _).trans (by rw [show va_up (zq B (fun j => 93 + 1 + j) 3) (Int32.toNatClampNeg 3) (some (B.1 + 97)) = zq B (fun j => 93 + 1 + j) 4 from zq_s B (fun j => 93 + 1 + j) 3])) ?_
  refine z_iinc C [(1, .int 4), (0, .ref (B.1 + 84))] dX1_init_87 0 rfl (by decide) (by decide) rfl ?_
  refine z_goto C 65 dX1_init_90 (by decide) ?_
  refine z_iload_n C dX1_init_65 0 rfl rfl ?_
  refine z_aload_n C dX1_init_66 1 rfl rfl ?_
  refine z_get C (ci := 1) (o := 84) (j := 2) (v := .ref (B.1 + 93)) (fs := [.ref (B.1 + 85), .ref (B.1 + 86), .ref (B.1 + 93), .null, .int 0, .int 0, .int 0]) zc_1 rfl (by decide) tw_170 rfl (by decide) rfl rfl dX1_init_67 ?_
  refine z_alen C (v := 6) 5 (o := 93) (by decide) rfl rfl rfl dX1_init_70 ?_
  refine z_icmp_ge C 93 dX1_init_71 (by decide) (fun hbr => absurd hbr (by decide)) (fun _ => ?_)
  refine z_aload_n C dX1_init_74 1 rfl rfl ?_
  refine z_get C (ci := 1) (o := 84) (j := 2) (v := .ref (B.1 + 93)) (fs := [.ref (B.1 + 85), .ref (B.1 + 86), .ref (B.1 + 93), .null, .int 0, .int 0, .int 0]) zc_1 rfl (by decide) tw_170 rfl (by decide) rfl rfl dX1_init_75 ?_
  refine z_iload_n C dX1_init_78 0 rfl rfl ?_
  refine z_new C (ci := 4) (fs := [.int 0, .int 0, .int 0, .int 0]) tyX4 tyX4_ok zc_4 tw_138 tw_140 tw_11 rfl (by decide) (hG 98 (by decide) (by decide)) (Nat.le_of_ble_eq_true rfl) (Nat.le_of_ble_eq_true rfl) dX1_init_79 (n2 := 99) (a2 := 14) (w2 := 62) rfl rfl rfl ?_
  refine z_dup C dX1_init_82 rfl ?_
  refine z_callIN C hl (o := 98) (c_X4_init l B 99 (va_up (va_up G 84 (.inr (1, [.ref (B.1 + 85), .ref (B.1 + 86), .ref (B.1 + 93), .null, .int 0, .int 0, .int 0]))) 93 (.inl (B.2.2.1 5, 6, .inr (.inr (.inr (.inr (zq B (fun j => 93 + 1 + j) 4))))))) 98) (zCN (nA := 0) C rfl rfl tw_143 tw_11 (by decide +kernel) (by decide +kernel) ⟨Nat.le_of_ble_eq_true rfl, Nat.le_of_ble_eq_true rfl⟩) rfl tw_142 (Nat.le_of_ble_eq_true rfl) dX1_init_83 ⟨Nat.le_of_ble_eq_true rfl, Nat.le_of_ble_eq_true rfl⟩ (n2 := 99) (a2 := 14) (w2 := 62) rfl rfl rfl ?_
  refine z_aast C 5 (o := 93) (v := 98) (by decide) rfl rfl (by decide) (hG 98 (by decide) (by decide)) rfl (by unfold vp_in; decide) dX1_init_86 ?_
  refine z_G (G2 := (va_up (va_up G 84 (.inr (1, [.ref (B.1 + 85), .ref (B.1 + 86), .ref (B.1 + 93), .null, .int 0, .int 0, .int 0]))) 93 (.inl (B.2.2.1 5, 6, .inr (.inr (.inr (.inr (zq B (fun j => 93 + 1 + j) 5)))))))) ((va_upA _ _ _ _).trans (by rw [show va_up (zq B (fun j => 93 + 1 + j) 4) (Int32.toNatClampNeg 4) (some (B.1 + 98)) = zq B (fun j => 93 + 1 + j) 5 from zq_s B (fun j => 93 + 1 + j) 4])) ?_
  refine z_iinc C [(1, .int 5), (0, .ref (B.1 + 84))] dX1_init_87 0 rfl (by decide) (by decide) rfl ?_
  refine z_goto C 65 dX1_init_90 (by decide) ?_
  refine z_iload_n C dX1_init_65 0 rfl rfl ?_
  refine z_aload_n C dX1_init_66 1 rfl rfl ?_
  refine z_get C (ci := 1) (o := 84) (j := 2) (v := .ref (B.1 + 93)) (fs := [.ref (B.1 + 85), .ref (B.1 + 86), .ref (B.1 + 93), .null, .int 0, .int 0, .int 0]) zc_1 rfl (by decide) tw_170 rfl (by decide) rfl rfl dX1_init_67 ?_
  refine z_alen C (v := 6) 5 (o := 93) (by decide) rfl rfl rfl dX1_init_70 ?_
  refine z_icmp_ge C 93 dX1_init_71 (by decide) (fun hbr => absurd hbr (by decide)) (fun _ => ?_)
  refine z_aload_n C dX1_init_74 1 rfl rfl ?_
  refine z_get C (ci := 1) (o := 84) (j := 2) (v := .ref (B.1 + 93)) (fs := [.ref (B.1 + 85), .ref (B.1 + 86), .ref (B.1 + 93), .null, .int 0, .int 0, .int 0]) zc_1 rfl (by decide) tw_170 rfl (by decide) rfl rfl dX1_init_75 ?_
  refine z_iload_n C dX1_init_78 0 rfl rfl ?_
  refine z_new C (ci := 4) (fs := [.int 0, .int 0, .int 0, .int 0]) tyX4 tyX4_ok zc_4 tw_138 tw_140 tw_11 rfl (by decide) (hG 99 (by decide) (by decide)) (Nat.le_of_ble_eq_true rfl) (Nat.le_of_ble_eq_true rfl) dX1_init_79 (n2 := 100) (a2 := 15) (w2 := 66) rfl rfl rfl ?_
  refine z_dup C dX1_init_82 rfl ?_
  refine z_callIN C hl (o := 99) (c_X4_init l B 100 (va_up (va_up G 84 (.inr (1, [.ref (B.1 + 85), .ref (B.1 + 86), .ref (B.1 + 93), .null, .int 0, .int 0, .int 0]))) 93 (.inl (B.2.2.1 5, 6, .inr (.inr (.inr (.inr (zq B (fun j => 93 + 1 + j) 5))))))) 99) (zCN (nA := 0) C rfl rfl tw_143 tw_11 (by decide +kernel) (by decide +kernel) ⟨Nat.le_of_ble_eq_true rfl, Nat.le_of_ble_eq_true rfl⟩) rfl tw_142 (Nat.le_of_ble_eq_true rfl) dX1_init_83 ⟨Nat.le_of_ble_eq_true rfl, Nat.le_of_ble_eq_true rfl⟩ (n2 := 100) (a2 := 15) (w2 := 66) rfl rfl rfl ?_
  refine z_aast C 5 (o := 93) (v := 99) (by decide) rfl rfl (by decide) (hG 99 (by decide) (by decide)) rfl (by unfold vp_in; decide) dX1_init_86 ?_
  refine z_G (G2 := (va_up (va_up G 84 (.inr (1, [.ref (B.1 + 85), .ref (B.1 + 86), .ref (B.1 + 93), .null, .int 0, .int 0, .int 0]))) 93 (.inl (B.2.2.1 5, 6, .inr (.inr (.inr (.inr (zq B (fun j => 93 + 1 + j) 6)))))))) ((va_upA _ _ _ _).trans (by rw [show va_up (zq B (fun j => 93 + 1 + j) 5) (Int32.toNatClampNeg 5) (some (B.1 + 99)) = zq B (fun j => 93 + 1 + j) 6 from zq_s B (fun j => 93 + 1 + j) 5])) ?_
  refine z_fill ?_
  refine z_G (G2 := (va_up G 84 (.inr (1, [.ref (B.1 + 85), .ref (B.1 + 86), .ref (B.1 + 93), .null, .int 0, .int 0, .int 0])))) (va_upI _ _ _ (hG 93 (by decide) (by decide))) ?_
  refine z_iinc C [(1, .int 6), (0, .ref (B.1 + 84))] dX1_init_87 0 rfl (by decide) (by decide) rfl ?_
  refine z_goto C 65 dX1_init_90 (by decide) ?_
  refine z_iload_n C dX1_init_65 0 rfl rfl ?_
  refine z_aload_n C dX1_init_66 1 rfl rfl ?_
  refine z_get C (ci := 1) (o := 84) (j := 2) (v := .ref (B.1 + 93)) (fs := [.ref (B.1 + 85), .ref (B.1 + 86), .ref (B.1 + 93), .null, .int 0, .int 0, .int 0]) zc_1 rfl (by decide) tw_170 rfl (by decide) rfl rfl dX1_init_67 ?_
  refine z_alen C (v := 6) 5 (o := 93) (by decide) (hG 93 (by decide) (by decide)) rfl rfl dX1_init_70 ?_
  refine z_icmp_ge C 93 dX1_init_71 (by decide) (fun _ => ?_) (fun hbr => absurd (by decide) hbr)
  refine z_aload_n C dX1_init_93 1 rfl rfl ?_
  refine z_bipush C dX1_init_94 kb_8 ?_
  refine z_GG (G2 := (va_up (va_up G 84 (.inr (1, [.ref (B.1 + 85), .ref (B.1 + 86), .ref (B.1 + 93), .null, .int 0, .int 0, .int 0]))) 100 (.inl (B.2.2.1 7, 8, .inr (.inr (.inr (.inr (fun _ => none)))))))) (fun k hk => (va_up_ne _ _ (Nat.ne_of_lt hk)).symm) ?_
  refine z_anew C 7 (Cn := RX8) tw_77 (by decide) rfl (by decide) (N' := 8) (by decide) (by decide) rfl (Nat.le_of_ble_eq_true rfl) (Nat.le_of_ble_eq_true rfl) dX1_init_96 (n2 := 101) (a2 := 16) (w2 := 74) rfl rfl rfl ?_
  refine z_G (G2 := (va_up (va_up G 84 (.inr (1, [.ref (B.1 + 85), .ref (B.1 + 86), .ref (B.1 + 93), .null, .int 0, .int 0, .int 0]))) 100 (.inl (B.2.2.1 7, 8, .inr (.inr (.inr (.inr (zq B (fun j => 100 + 1 + j) 0)))))))) (by rw [← zq_0]) ?_
  refine z_putF C hnm (ci := 1) (o := 84) (j := 3) (fs := [.ref (B.1 + 85), .ref (B.1 + 86), .ref (B.1 + 93), .null, .int 0, .int 0, .int 0]) (ty := tyX1 3) tyX1 tyX1_ok nmX1 zc_1 rfl (by decide) tw_171 rfl rfl rfl (by decide +kernel) rfl rfl (by decide) rfl (Nat.le_of_ble_eq_true rfl) dX1_init_99 ?_
  refine z_G (G2 := (va_up (va_up G 84 (.inr (1, [.ref (B.1 + 85), .ref (B.1 + 86), .ref (B.1 + 93), .ref (B.1 + 100), .int 0, .int 0, .int 0]))) 100 (.inl (B.2.2.1 7, 8, .inr (.inr (.inr (.inr (zq B (fun j => 100 + 1 + j) 0)))))))) (va_upB _ _ _ _ _ _ (by decide)) ?_
  refine z_iconst C dX1_init_102 ki_0 ?_
  refine z_istore_n C [(1, .int 0), (0, .ref (B.1 + 84))] dX1_init_103 rfl (by decide) rfl ?_
  refine z_iload_n C dX1_init_104 0 rfl rfl ?_
  refine z_aload_n C dX1_init_105 1 rfl rfl ?_
  refine z_get C (ci := 1) (o := 84) (j := 3) (v := .ref (B.1 + 100)) (fs := [.ref (B.1 + 85), .ref (B.1 + 86), .ref (B.1 + 93), .ref (B.1 + 100), .int 0, .int 0, .int 0]) zc_1 rfl (by decide) tw_171 rfl (by decide) rfl rfl dX1_init_106 ?_
  refine z_alen C (v := 8) 7 (o := 100) (by decide) rfl rfl rfl dX1_init_109 ?_
  refine z_icmp_ge C 132 dX1_init_110 (by decide) (fun hbr => absurd hbr (by decide)) (fun _ => ?_)
  refine z_aload_n C dX1_init_113 1 rfl rfl ?_
  refine z_get C (ci := 1) (o := 84) (j := 3) (v := .ref (B.1 + 100)) (fs := [.ref (B.1 + 85), .ref (B.1 + 86), .ref (B.1 + 93), .ref (B.1 + 100), .int 0, .int 0, .int 0]) zc_1 rfl (by decide) tw_171 rfl (by decide) rfl rfl dX1_init_114 ?_
  refine z_iload_n C dX1_init_117 0 rfl rfl ?_
  refine z_new C (ci := 8) (fs := [.int 0, .int 0, .int 0, .int 0, .int 0, .int 0]) tyX8 tyX8_ok zc_8 tw_77 tw_78 tw_9 rfl (by decide) (hG 101 (by decide) (by decide)) (Nat.le_of_ble_eq_true rfl) (Nat.le_of_ble_eq_true rfl) dX1_init_118 (n2 := 102) (a2 := 17) (w2 := 80) rfl rfl rfl ?_
  refine z_dup C dX1_init_121 rfl ?_
  refine z_callIN C hl (o := 101) (c_X8_init l B 102 (va_up (va_up G 84 (.inr (1, [.ref (B.1 + 85), .ref (B.1 + 86), .ref (B.1 + 93), .ref (B.1 + 100), .int 0, .int 0, .int 0]))) 100 (.inl (B.2.2.1 7, 8, .inr (.inr (.inr (.inr (zq B (fun j => 100 + 1 + j) 0))))))) 101) (zCN (nA := 0) C rfl rfl tw_81 tw_9 (by decide +kernel) (by decide +kernel) ⟨Nat.le_of_ble_eq_true rfl, Nat.le_of_ble_eq_true rfl⟩) rfl tw_80 (Nat.le_of_ble_eq_true rfl) dX1_init_122 ⟨Nat.le_of_ble_eq_true rfl, Nat.le_of_ble_eq_true rfl⟩ (n2 := 102) (a2 := 17) (w2 := 80) rfl rfl rfl ?_
  refine z_aast C 7 (o := 100) (v := 101) (by decide) rfl rfl (by decide) (hG 101 (by decide) (by decide)) rfl (by unfold vp_in; decide) dX1_init_125 ?_
  refine z_G (G2 := (va_up (va_up G 84 (.inr (1, [.ref (B.1 + 85), .ref (B.1 + 86), .ref (B.1 + 93), .ref (B.1 + 100), .int 0, .int 0, .int 0]))) 100 (.inl (B.2.2.1 7, 8, .inr (.inr (.inr (.inr (zq B (fun j => 100 + 1 + j) 1)))))))) ((va_upA _ _ _ _).trans (by rw [show va_up (zq B (fun j => 100 + 1 + j) 0) (Int32.toNatClampNeg 0) (some (B.1 + 101)) = zq B (fun j => 100 + 1 + j) 1 from zq_s B (fun j => 100 + 1 + j) 0])) ?_
  refine z_iinc C [(1, .int 1), (0, .ref (B.1 + 84))] dX1_init_126 0 rfl (by decide) (by decide) rfl ?_
  refine z_goto C 104 dX1_init_129 (by decide) ?_
  refine z_iload_n C dX1_init_104 0 rfl rfl ?_
  refine z_aload_n C dX1_init_105 1 rfl rfl ?_
  refine z_get C (ci := 1) (o := 84) (j := 3) (v := .ref (B.1 + 100)) (fs := [.ref (B.1 + 85), .ref (B.1 + 86), .ref (B.1 + 93), .ref (B.1 + 100), .int 0, .int 0, .int 0]) zc_1 rfl (by decide) tw_171 rfl (by decide) rfl rfl dX1_init_106 ?_
  refine z_alen C (v := 8) 7 (o := 100) (by decide) rfl rfl rfl dX1_init_109 ?_
  refine z_icmp_ge C 132 dX1_init_110 (by decide) (fun hbr => absurd hbr (by decide)) (fun _ => ?_)
  refine z_aload_n C dX1_init_113 1 rfl rfl ?_
  refine z_get C (ci := 1) (o := 84) (j := 3) (v := .ref (B.1 + 100)) (fs := [.ref (B.1 + 85), .ref (B.1 + 86), .ref (B.1 + 93), .ref (B.1 + 100), .int 0, .int 0, .int 0]) zc_1 rfl (by decide) tw_171 rfl (by decide) rfl rfl dX1_init_114 ?_
  refine z_iload_n C dX1_init_117 0 rfl rfl ?_
  refine z_new C (ci := 8) (fs := [.int 0, .int 0, .int 0, .int 0, .int 0, .int 0]) tyX8 tyX8_ok zc_8 tw_77 tw_78 tw_9 rfl (by decide) (hG 102 (by decide) (by decide)) (Nat.le_of_ble_eq_true rfl) (Nat.le_of_ble_eq_true rfl) dX1_init_118 (n2 := 103) (a2 := 18) (w2 := 86) rfl rfl rfl ?_
  refine z_dup C dX1_init_121 rfl ?_
  refine z_callIN C hl (o := 102) (c_X8_init l B 103 (va_up (va_up G 84 (.inr (1, [.ref (B.1 + 85), .ref (B.1 + 86), .ref (B.1 + 93), .ref (B.1 + 100), .int 0, .int 0, .int 0]))) 100 (.inl (B.2.2.1 7, 8, .inr (.inr (.inr (.inr (zq B (fun j => 100 + 1 + j) 1))))))) 102) (zCN (nA := 0) C rfl rfl tw_81 tw_9 (by decide +kernel) (by decide +kernel) ⟨Nat.le_of_ble_eq_true rfl, Nat.le_of_ble_eq_true rfl⟩) rfl tw_80 (Nat.le_of_ble_eq_true rfl) dX1_init_122 ⟨Nat.le_of_ble_eq_true rfl, Nat.le_of_ble_eq_true rfl⟩ (n2 := 103) (a2 := 18) (w2 := 86) rfl rfl rfl ?_
  refine z_aast C 7 (o := 100) (v := 102) (by decide) rfl rfl (by decide) (hG 102 (by decide) (by decide)) rfl (by unfold vp_in; decide) dX1_init_125 ?_
  refine z_G (G2 := (va_up (va_up G 84 (.inr (1, [.ref (B.1 + 85), .ref (B.1 + 86), .ref (B.1 + 93), .ref (B.1 + 100), .int 0, .int 0, .int 0]))) 100 (.inl (B.2.2.1 7, 8, .inr (.inr (.inr (.inr (zq B (fun j => 100 + 1 + j) 2)))))))) ((va_upA _ _ _ _).trans (by rw [show va_up (zq B (fun j => 100 + 1 + j) 1) (Int32.toNatClampNeg 1) (some (B.1 + 102)) = zq B (fun j => 100 + 1 + j) 2 from zq_s B (fun j => 100 + 1 + j) 1])) ?_
  refine z_iinc C [(1, .int 2), (0, .ref (B.1 + 84))] dX1_init_126 0 rfl (by decide) (by decide) rfl ?_
  refine z_goto C 104 dX1_init_129 (by decide) ?_
  refine z_iload_n C dX1_init_104 0 rfl rfl ?_
  refine z_aload_n C dX1_init_105 1 rfl rfl ?_
  refine z_get C (ci := 1) (o := 84) (j := 3) (v := .ref (B.1 + 100)) (fs := [.ref (B.1 + 85), .ref (B.1 + 86), .ref (B.1 + 93), .ref (B.1 + 100), .int 0, .int 0, .int 0]) zc_1 rfl (by decide) tw_171 rfl (by decide) rfl rfl dX1_init_106 ?_
  refine z_alen C (v := 8) 7 (o := 100) (by decide) rfl rfl rfl dX1_init_109 ?_
  refine z_icmp_ge C 132 dX1_init_110 (by decide) (fun hbr => absurd hbr (by decide)) (fun _ => ?_)
  refine z_aload_n C dX1_init_113 1 rfl rfl ?_
  refine z_get C (ci := 1) (o := 84) (j := 3) (v := .ref (B.1 + 100)) (fs := [.ref (B.1 + 85), .ref (B.1 + 86), .ref (B.1 + 93), .ref (B.1 + 100), .int 0, .int 0, .int 0]) zc_1 rfl (by decide) tw_171 rfl (by decide) rfl rfl dX1_init_114 ?_
  refine z_iload_n C dX1_init_117 0 rfl rfl ?_
  refine z_new C (ci := 8) (fs := [.int 0, .int 0, .int 0, .int 0, .int 0, .int 0]) tyX8 tyX8_ok zc_8 tw_77 tw_78 tw_9 rfl (by decide) (hG 103 (by decide) (by decide)) (Nat.le_of_ble_eq_true rfl) (Nat.le_of_ble_eq_true rfl) dX1_init_118 (n2 := 104) (a2 := 19) (w2 := 92) rfl rfl rfl ?_
  refine z_dup C dX1_init_121 rfl ?_
  refine z_callIN C hl (o := 103) (c_X8_init l B 104 (va_up (va_up G 84 (.inr (1, [.ref (B.1 + 85), .ref (B.1 + 86), .ref (B.1 + 93), .ref (B.1 + 100), .int 0, .int 0, .int 0]))) 100 (.inl (B.2.2.1 7, 8, .inr (.inr (.inr (.inr (zq B (fun j => 100 + 1 + j) 2))))))) 103) (zCN (nA := 0) C rfl rfl tw_81 tw_9 (by decide +kernel) (by decide +kernel) ⟨Nat.le_of_ble_eq_true rfl, Nat.le_of_ble_eq_true rfl⟩) rfl tw_80 (Nat.le_of_ble_eq_true rfl) dX1_init_122 ⟨Nat.le_of_ble_eq_true rfl, Nat.le_of_ble_eq_true rfl⟩ (n2 := 104) (a2 := 19) (w2 := 92) rfl rfl rfl ?_
  refine z_aast C 7 (o := 100) (v := 103) (by decide) rfl rfl (by decide) (hG 103 (by decide) (by decide)) rfl (by unfold vp_in; decide) dX1_init_125 ?_
  refine z_G (G2 := (va_up (va_up G 84 (.inr (1, [.ref (B.1 + 85), .ref (B.1 + 86), .ref (B.1 + 93), .ref (B.1 + 100), .int 0, .int 0, .int 0]))) 100 (.inl (B.2.2.1 7, 8, .inr (.inr (.inr (.inr (zq B (fun j => 100 + 1 + j) 3)))))))) ((va_upA _ _ _ _).trans (by rw [show va_up (zq B (fun j => 100 + 1 + j) 2) (Int32.toNatClampNeg 2) (some (B.1 + 103)) = zq B (fun j => 100 + 1 + j) 3 from zq_s B (fun j => 100 + 1 + j) 2])) ?_
  refine z_iinc C [(1, .int 3), (0, .ref (B.1 + 84))] dX1_init_126 0 rfl (by decide) (by decide) rfl ?_
  refine z_goto C 104 dX1_init_129 (by decide) ?_
  refine z_iload_n C dX1_init_104 0 rfl rfl ?_
  refine z_aload_n C dX1_init_105 1 rfl rfl ?_
  refine z_get C (ci := 1) (o := 84) (j := 3) (v := .ref (B.1 + 100)) (fs := [.ref (B.1 + 85), .ref (B.1 + 86), .ref (B.1 + 93), .ref (B.1 + 100), .int 0, .int 0, .int 0]) zc_1 rfl (by decide) tw_171 rfl (by decide) rfl rfl dX1_init_106 ?_
  refine z_alen C (v := 8) 7 (o := 100) (by decide) rfl rfl rfl dX1_init_109 ?_
  refine z_icmp_ge C 132 dX1_init_110 (by decide) (fun hbr => absurd hbr (by decide)) (fun _ => ?_)
  refine z_aload_n C dX1_init_113 1 rfl rfl ?_
  refine z_get C (ci := 1) (o := 84) (j := 3) (v := .ref (B.1 + 100)) (fs := [.ref (B.1 + 85), .ref (B.1 + 86), .ref (B.1 + 93), .ref (B.1 + 100), .int 0, .int 0, .int 0]) zc_1 rfl (by decide) tw_171 rfl (by decide) rfl rfl dX1_init_114 ?_
  refine z_iload_n C dX1_init_117 0 rfl rfl ?_
  refine z_new C (ci := 8) (fs := [.int 0, .int 0, .int 0, .int 0, .int 0, .int 0]) tyX8 tyX8_ok zc_8 tw_77 tw_78 tw_9 rfl (by decide) (hG 104 (by decide) (by decide)) (Nat.le_of_ble_eq_true rfl) (Nat.le_of_ble_eq_true rfl) dX1_init_118 (n2 := 105) (a2 := 20) (w2 := 98) rfl rfl rfl ?_
  refine z_dup C dX1_init_121 rfl ?_
  refine z_callIN C hl (o := 104) (c_X8_init l B 105 (va_up (va_up G 84 (.inr (1, [.ref (B.1 + 85), .ref (B.1 + 86), .ref (B.1 + 93), .ref (B.1 + 100), .int 0, .int 0, .int 0]))) 100 (.inl (B.2.2.1 7, 8, .inr (.inr (.inr (.inr (zq B (fun j => 100 + 1 + j) 3))))))) 104) (zCN (nA := 0) C rfl rfl tw_81 tw_9 (by decide +kernel) (by decide +kernel) ⟨Nat.le_of_ble_eq_true rfl, Nat.le_of_ble_eq_true rfl⟩) rfl tw_80 (Nat.le_of_ble_eq_true rfl) dX1_init_122 ⟨Nat.le_of_ble_eq_true rfl, Nat.le_of_ble_eq_true rfl⟩ (n2 := 105) (a2 := 20) (w2 := 98) rfl rfl rfl ?_
  refine z_aast C 7 (o := 100) (v := 104) (by decide) rfl rfl (by decide) (hG 104 (by decide) (by decide)) rfl (by unfold vp_in; decide) dX1_init_125 ?_
  refine z_G (G2 := (va_up (va_up G 84 (.inr (1, [.ref (B.1 + 85), .ref (B.1 + 86), .ref (B.1 + 93), .ref (B.1 + 100), .int 0, .int 0, .int 0]))) 100 (.inl (B.2.2.1 7, 8, .inr (.inr (.inr (.inr (zq B (fun j => 100 + 1 + j) 4)))))))) ((va_upA _ _ _ _).trans (by rw [show va_up (zq B (fun j => 100 + 1 + j) 3) (Int32.toNatClampNeg 3) (some (B.1 + 104)) = zq B (fun j => 100 + 1 + j) 4 from zq_s B (fun j => 100 + 1 + j) 3])) ?_
  refine z_iinc C [(1, .int 4), (0, .ref (B.1 + 84))] dX1_init_126 0 rfl (by decide) (by decide) rfl ?_
  refine z_goto C 104 dX1_init_129 (by decide) ?_
  refine z_iload_n C dX1_init_104 0 rfl rfl ?_
  refine z_aload_n C dX1_init_105 1 rfl rfl ?_
  refine z_get C (ci := 1) (o := 84) (j := 3) (v := .ref (B.1 + 100)) (fs := [.ref (B.1 + 85), .ref (B.1 + 86), .ref (B.1 + 93), .ref (B.1 + 100), .int 0, .int 0, .int 0]) zc_1 rfl (by decide) tw_171 rfl (by decide) rfl rfl dX1_init_106 ?_
  refine z_alen C (v := 8) 7 (o := 100) (by decide) rfl rfl rfl dX1_init_109 ?_
  refine z_icmp_ge C 132 dX1_init_110 (by decide) (fun hbr => absurd hbr (by decide)) (fun _ => ?_)
  refine z_aload_n C dX1_init_113 1 rfl rfl ?_
  refine z_get C (ci := 1) (o := 84) (j := 3) (v := .ref (B.1 + 100)) (fs := [.ref (B.1 + 85), .ref (B.1 + 86), .ref (B.1 + 93), .ref (B.1 + 100), .int 0, .int 0, .int 0]) zc_1 rfl (by decide) tw_171 rfl (by decide) rfl rfl dX1_init_114 ?_
  refine z_iload_n C dX1_init_117 0 rfl rfl ?_
  refine z_new C (ci := 8) (fs := [.int 0, .int 0, .int 0, .int 0, .int 0, .int 0]) tyX8 tyX8_ok zc_8 tw_77 tw_78 tw_9 rfl (by decide) (hG 105 (by decide) (by decide)) (Nat.le_of_ble_eq_true rfl) (Nat.le_of_ble_eq_true rfl) dX1_init_118 (n2 := 106) (a2 := 21) (w2 := 104) rfl rfl rfl ?_
  refine z_dup C dX1_init_121 rfl ?_
  refine z_callIN C hl (o := 105) (c_X8_init l B 106 (va_up (va_up G 84 (.inr (1, [.ref (B.1 + 85), .ref (B.1 + 86), .ref (B.1 + 93), .ref (B.1 + 100), .int 0, .int 0, .int 0]))) 100 (.inl (B.2.2.1 7, 8, .inr (.inr (.inr (.inr (zq B (fun j => 100 + 1 + j) 4))))))) 105) (zCN (nA := 0) C rfl rfl tw_81 tw_9 (by decide +kernel) (by decide +kernel) ⟨Nat.le_of_ble_eq_true rfl, Nat.le_of_ble_eq_true rfl⟩) rfl tw_80 (Nat.le_of_ble_eq_true rfl) dX1_init_122 ⟨Nat.le_of_ble_eq_true rfl, Nat.le_of_ble_eq_true rfl⟩ (n2 := 106) (a2 := 21) (w2 := 104) rfl rfl rfl ?_
  refine z_aast C 7 (o := 100) (v := 105) (by decide) rfl rfl (by decide) (hG 105 (by decide) (by decide)) rfl (by unfold vp_in; decide) dX1_init_125 ?_
  refine z_G (G2 := (va_up (va_up G 84 (.inr (1, [.ref (B.1 + 85), .ref (B.1 + 86), .ref (B.1 + 93), .ref (B.1 + 100), .int 0, .int 0, .int 0]))) 100 (.inl (B.2.2.1 7, 8, .inr (.inr (.inr (.inr (zq B (fun j => 100 + 1 + j) 5)))))))) ((va_upA _ _ _ _).trans (by rw [show va_up (zq B (fun j => 100 + 1 + j) 4) (Int32.toNatClampNeg 4) (some (B.1 + 105)) = zq B (fun j => 100 + 1 + j) 5 from zq_s B (fun j => 100 + 1 + j) 4])) ?_
  refine z_iinc C [(1, .int 5), (0, .ref (B.1 + 84))] dX1_init_126 0 rfl (by decide) (by decide) rfl ?_
  refine z_goto C 104 dX1_init_129 (by decide) ?_
  refine z_iload_n C dX1_init_104 0 rfl rfl ?_
  refine z_aload_n C dX1_init_105 1 rfl rfl ?_
  refine z_get C (ci := 1) (o := 84) (j := 3) (v := .ref (B.1 + 100)) (fs := [.ref (B.1 + 85), .ref (B.1 + 86), .ref (B.1 + 93), .ref (B.1 + 100), .int 0, .int 0, .int 0]) zc_1 rfl (by decide) tw_171 rfl (by decide) rfl rfl dX1_init_106 ?_
  refine z_alen C (v := 8) 7 (o := 100) (by decide) rfl rfl rfl dX1_init_109 ?_
  refine z_icmp_ge C 132 dX1_init_110 (by decide) (fun hbr => absurd hbr (by decide)) (fun _ => ?_)
  refine z_aload_n C dX1_init_113 1 rfl rfl ?_
  refine z_get C (ci := 1) (o := 84) (j := 3) (v := .ref (B.1 + 100)) (fs := [.ref (B.1 + 85), .ref (B.1 + 86), .ref (B.1 + 93), .ref (B.1 + 100), .int 0, .int 0, .int 0]) zc_1 rfl (by decide) tw_171 rfl (by decide) rfl rfl dX1_init_114 ?_
  refine z_iload_n C dX1_init_117 0 rfl rfl ?_
  refine z_new C (ci := 8) (fs := [.int 0, .int 0, .int 0, .int 0, .int 0, .int 0]) tyX8 tyX8_ok zc_8 tw_77 tw_78 tw_9 rfl (by decide) (hG 106 (by decide) (by decide)) (Nat.le_of_ble_eq_true rfl) (Nat.le_of_ble_eq_true rfl) dX1_init_118 (n2 := 107) (a2 := 22) (w2 := 110) rfl rfl rfl ?_
  refine z_dup C dX1_init_121 rfl ?_
  refine z_callIN C hl (o := 106) (c_X8_init l B 107 (va_up (va_up G 84 (.inr (1, [.ref (B.1 + 85), .ref (B.1 + 86), .ref (B.1 + 93), .ref (B.1 + 100), .int 0, .int 0, .int 0]))) 100 (.inl (B.2.2.1 7, 8, .inr (.inr (.inr (.inr (zq B (fun j => 100 + 1 + j) 5))))))) 106) (zCN (nA := 0) C rfl rfl tw_81 tw_9 (by decide +kernel) (by decide +kernel) ⟨Nat.le_of_ble_eq_true rfl, Nat.le_of_ble_eq_true rfl⟩) rfl tw_80 (Nat.le_of_ble_eq_true rfl) dX1_init_122 ⟨Nat.le_of_ble_eq_true rfl, Nat.le_of_ble_eq_true rfl⟩ (n2 := 107) (a2 := 22) (w2 := 110) rfl rfl rfl ?_
  refine z_aast C 7 (o := 100) (v := 106) (by decide) rfl rfl (by decide) (hG 106 (by decide) (by decide)) rfl (by unfold vp_in; decide) dX1_init_125 ?_
  refine z_G (G2 := (va_up (va_up G 84 (.inr (1, [.ref (B.1 + 85), .ref (B.1 + 86), .ref (B.1 + 93), .ref (B.1 + 100), .int 0, .int 0, .int 0]))) 100 (.inl (B.2.2.1 7, 8, .inr (.inr (.inr (.inr (zq B (fun j => 100 + 1 + j) 6)))))))) ((va_upA _ _ _ _).trans (by rw [show va_up (zq B (fun j => 100 + 1 + j) 5) (Int32.toNatClampNeg 5) (some (B.1 + 106)) = zq B (fun j => 100 + 1 + j) 6 from zq_s B (fun j => 100 + 1 + j) 5])) ?_
  refine z_iinc C [(1, .int 6), (0, .ref (B.1 + 84))] dX1_init_126 0 rfl (by decide) (by decide) rfl ?_
  refine z_goto C 104 dX1_init_129 (by decide) ?_
  refine z_iload_n C dX1_init_104 0 rfl rfl ?_
  refine z_aload_n C dX1_init_105 1 rfl rfl ?_
  refine z_get C (ci := 1) (o := 84) (j := 3) (v := .ref (B.1 + 100)) (fs := [.ref (B.1 + 85), .ref (B.1 + 86), .ref (B.1 + 93), .ref (B.1 + 100), .int 0, .int 0, .int 0]) zc_1 rfl (by decide) tw_171 rfl (by decide) rfl rfl dX1_init_106 ?_
  refine z_alen C (v := 8) 7 (o := 100) (by decide) rfl rfl rfl dX1_init_109 ?_
  refine z_icmp_ge C 132 dX1_init_110 (by decide) (fun hbr => absurd hbr (by decide)) (fun _ => ?_)
  refine z_aload_n C dX1_init_113 1 rfl rfl ?_
  refine z_get C (ci := 1) (o := 84) (j := 3) (v := .ref (B.1 + 100)) (fs := [.ref (B.1 + 85), .ref (B.1 + 86), .ref (B.1 + 93), .ref (B.1 + 100), .int 0, .int 0, .int 0]) zc_1 rfl (by decide) tw_171 rfl (by decide) rfl rfl dX1_init_114 ?_
  refine z_iload_n C dX1_init_117 0 rfl rfl ?_
  refine z_new C (ci := 8) (fs := [.int 0, .int 0, .int 0, .int 0, .int 0, .int 0]) tyX8 tyX8_ok zc_8 tw_77 tw_78 tw_9 rfl (by decide) (hG 107 (by decide) (by decide)) (Nat.le_of_ble_eq_true rfl) (Nat.le_of_ble_eq_true rfl) dX1_init_118 (n2 := 108) (a2 := 23) (w2 := 116) rfl rfl rfl ?_
  refine z_dup C dX1_init_121 rfl ?_
  refine z_callIN C hl (o := 107) (c_X8_init l B 108 (va_up (va_up G 84 (.inr (1, [.ref (B.1 + 85), .ref (B.1 + 86), .ref (B.1 + 93), .ref (B.1 + 100), .int 0, .int 0, .int 0]))) 100 (.inl (B.2.2.1 7, 8, .inr (.inr (.inr (.inr (zq B (fun j => 100 + 1 + j) 6))))))) 107) (zCN (nA := 0) C rfl rfl tw_81 tw_9 (by decide +kernel) (by decide +kernel) ⟨Nat.le_of_ble_eq_true rfl, Nat.le_of_ble_eq_true rfl⟩) rfl tw_80 (Nat.le_of_ble_eq_true rfl) dX1_init_122 ⟨Nat.le_of_ble_eq_true rfl, Nat.le_of_ble_eq_true rfl⟩ (n2 := 108) (a2 := 23) (w2 := 116) rfl rfl rfl ?_
  refine z_aast C 7 (o := 100) (v := 107) (by decide) rfl rfl (by decide) (hG 107 (by decide) (by decide)) rfl (by unfold vp_in; decide) dX1_init_125 ?_
  refine z_G (G2 := (va_up (va_up G 84 (.inr (1, [.ref (B.1 + 85), .ref (B.1 + 86), .ref (B.1 + 93), .ref (B.1 + 100), .int 0, .int 0, .int 0]))) 100 (.inl (B.2.2.1 7, 8, .inr (.inr (.inr (.inr (zq B (fun j => 100 + 1 + j) 7)))))))) ((va_upA _ _ _ _).trans (by rw [show va_up (zq B (fun j => 100 + 1 + j) 6) (Int32.toNatClampNeg 6) (some (B.1 + 107)) = zq B (fun j => 100 + 1 + j) 7 from zq_s B (fun j => 100 + 1 + j) 6])) ?_
  refine z_iinc C [(1, .int 7), (0, .ref (B.1 + 84))] dX1_init_126 0 rfl (by decide) (by decide) rfl ?_
  refine z_goto C 104 dX1_init_129 (by decide) ?_
  refine z_iload_n C dX1_init_104 0 rfl rfl ?_
  refine z_aload_n C dX1_init_105 1 rfl rfl ?_
  refine z_get C (ci := 1) (o := 84) (j := 3) (v := .ref (B.1 + 100)) (fs := [.ref (B.1 + 85), .ref (B.1 + 86), .ref (B.1 + 93), .ref (B.1 + 100), .int 0, .int 0, .int 0]) zc_1 rfl (by decide) tw_171 rfl (by decide) rfl rfl dX1_init_106 ?_
  refine z_alen C (v := 8) 7 (o := 100) (by decide) rfl rfl rfl dX1_init_109 ?_
  refine z_icmp_ge C 132 dX1_init_110 (by decide) (fun hbr => absurd hbr (by decide)) (fun _ => ?_)
  refine z_aload_n C dX1_init_113 1 rfl rfl ?_
  refine z_get C (ci := 1) (o := 84) (j := 3) (v := .ref (B.1 + 100)) (fs := [.ref (B.1 + 85), .ref (B.1 + 86), .ref (B.1 + 93), .ref (B.1 + 100), .int 0, .int 0, .int 0]) zc_1 rfl (by decide) tw_171 rfl (by decide) rfl rfl dX1_init_114 ?_
  refine z_iload_n C dX1_init_117 0 rfl rfl ?_
  refine z_new C (ci := 8) (fs := [.int 0, .int 0, .int 0, .int 0, .int 0, .int 0]) tyX8 tyX8_ok zc_8 tw_77 tw_78 tw_9 rfl (by decide) (hG 108 (by decide) (by decide)) (Nat.le_of_ble_eq_true rfl) (Nat.le_of_ble_eq_true rfl) dX1_init_118 (n2 := 109) (a2 := 24) (w2 := 122) rfl rfl rfl ?_
  refine z_dup C dX1_init_121 rfl ?_
  refine z_callIN C hl (o := 108) (c_X8_init l B 109 (va_up (va_up G 84 (.inr (1, [.ref (B.1 + 85), .ref (B.1 + 86), .ref (B.1 + 93), .ref (B.1 + 100), .int 0, .int 0, .int 0]))) 100 (.inl (B.2.2.1 7, 8, .inr (.inr (.inr (.inr (zq B (fun j => 100 + 1 + j) 7))))))) 108) (zCN (nA := 0) C rfl rfl tw_81 tw_9 (by decide +kernel) (by decide +kernel) ⟨Nat.le_of_ble_eq_true rfl, Nat.le_of_ble_eq_true rfl⟩) rfl tw_80 (Nat.le_of_ble_eq_true rfl) dX1_init_122 ⟨Nat.le_of_ble_eq_true rfl, Nat.le_of_ble_eq_true rfl⟩ (n2 := 109) (a2 := 24) (w2 := 122) rfl rfl rfl ?_
  refine z_aast C 7 (o := 100) (v := 108) (by decide) rfl rfl (by decide) (hG 108 (by decide) (by decide)) rfl (by unfold vp_in; decide) dX1_init_125 ?_
  refine z_G (G2 := (va_up (va_up G 84 (.inr (1, [.ref (B.1 + 85), .ref (B.1 + 86), .ref (B.1 + 93), .ref (B.1 + 100), .int 0, .int 0, .int 0]))) 100 (.inl (B.2.2.1 7, 8, .inr (.inr (.inr (.inr (zq B (fun j => 100 + 1 + j) 8)))))))) ((va_upA _ _ _ _).trans (by rw [show va_up (zq B (fun j => 100 + 1 + j) 7) (Int32.toNatClampNeg 7) (some (B.1 + 108)) = zq B (fun j => 100 + 1 + j) 8 from zq_s B (fun j => 100 + 1 + j) 7])) ?_
  refine z_fill ?_
  refine z_G (G2 := (va_up G 84 (.inr (1, [.ref (B.1 + 85), .ref (B.1 + 86), .ref (B.1 + 93), .ref (B.1 + 100), .int 0, .int 0, .int 0])))) (va_upI _ _ _ (hG 100 (by decide) (by decide))) ?_
  refine z_iinc C [(1, .int 8), (0, .ref (B.1 + 84))] dX1_init_126 0 rfl (by decide) (by decide) rfl ?_
  refine z_goto C 104 dX1_init_129 (by decide) ?_
  refine z_iload_n C dX1_init_104 0 rfl rfl ?_
  refine z_aload_n C dX1_init_105 1 rfl rfl ?_
  refine z_get C (ci := 1) (o := 84) (j := 3) (v := .ref (B.1 + 100)) (fs := [.ref (B.1 + 85), .ref (B.1 + 86), .ref (B.1 + 93), .ref (B.1 + 100), .int 0, .int 0, .int 0]) zc_1 rfl (by decide) tw_171 rfl (by decide) rfl rfl dX1_init_106 ?_
  refine z_alen C (v := 8) 7 (o := 100) (by decide) (hG 100 (by decide) (by decide)) rfl rfl dX1_init_109 ?_
  refine z_icmp_ge C 132 dX1_init_110 (by decide) (fun _ => ?_) (fun hbr => absurd (by decide) hbr)
  refine z_G (G2 := G) (va_upI _ _ _ (hG 84 (by decide) (by decide))) ?_
  exact z_vret C E rfl dX1_init_132 rfl (Nat.le_refl _) ⟨rfl, rfl⟩
