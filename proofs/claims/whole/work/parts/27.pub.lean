abbrev mX11_tryNext : zM := (yX11_tryNext, cX11_tryNext, 10, (some .int), { frames := 6, cells := 0, slots := 0, locals := 146 })
set_option maxRecDepth 100000 in
set_option maxHeartbeats 4000000 in
theorem c_X11_tryNext_bad (l : Launch) (B : zB) (s : zS) (t : zL) (x : Int32) (hx : x < 0 ∨ s 8 4 ≤ x) : zD l B mX11_tryNext s t [.ref (B.1 + 0), .int x] (some (.int (-2))) (zu s 0 9 (s 0 9 + 1)) t := by
  refine z_met (by decide) (Nat.le_of_ble_eq_true rfl) ?_
  intro X hl C E hnm
  show Zf X B mX11_tryNext s t 0 [(0, .ref (B.1 + 0)), (1, .int x)] []
  refine z_aload_n C dX11_tryNext_0 0 rfl rfl ?_
  refine f_get11 C 1 (v := .ref (B.1 + 8)) (by decide) tw_226 rfl zk_0 zb_0 rfl dX11_tryNext_1 ?_
  refine z_iload_n C dX11_tryNext_4 1 rfl rfl ?_
  refine f_callVr C hl (As := [.int x]) (rest := []) (c_X1_deputyAt8n l B s t x hx) zb_8 (zg_1 zk_8) rfl (zCB (nA := 1) C rfl rfl tw_424 tw_8 tw_474 (by decide +kernel) ⟨Nat.le_of_ble_eq_true rfl, Nat.le_of_ble_eq_true rfl⟩) tw_422 tw_423 rfl rfl (Nat.le_of_ble_eq_true rfl) dX11_tryNext_5 (Nat.zero_le _) ?_
  refine z_astore_nN C [(2, .null), (0, .ref (B.1 + 0)), (1, .int x)] dX11_tryNext_8 rfl (by decide) rfl ?_
  refine z_aload_nN C dX11_tryNext_9 0 rfl rfl ?_
  refine z_ifnonnullN C dX11_tryNext_10 ?_
  refine z_aload_n C dX11_tryNext_13 1 rfl rfl ?_
  refine z_bipush C dX11_tryNext_14 kb_m2 ?_
  refine f_callVr C hl (As := [.int (-2)]) (rest := []) (c_X11_refuse2 l B s t) zb_0 (zg_11 zk_0) rfl (zCB (nA := 1) C rfl rfl tw_272 tw_1 tw_269 (by decide +kernel) ⟨Nat.le_of_ble_eq_true rfl, Nat.le_of_ble_eq_true rfl⟩) tw_271 tp_0 rfl rfl (Nat.le_of_ble_eq_true rfl) dX11_tryNext_16 (Nat.zero_le _) ?_
  refine z_iret C E rfl dX11_tryNext_19 rfl (Nat.le_refl _) ⟨rfl, rfl⟩
set_option maxRecDepth 100000 in
set_option maxHeartbeats 4000000 in
theorem c_X11_tryNext_none (l : Launch) (B : zB) (s : zS) (t : zL) (N : Nat) (hN : s 8 4 = nI N) (h6 : N ≤ 6) (d : Nat) (hd : d < N) (x : Int32) (hx : x = nI d) (M : Nat) (hM : s 8 5 = nI M) (hM6 : M ≤ 6) (hB : ∀ n, n < M → r8 (s (18 + n) 1)) (g : wCol (fun c => wFit s x (nI c) (s (11 + d) 1) (s (11 + d) 2) M) 6 = 0) : zD l B mX11_tryNext s t [.ref (B.1 + 0), .int x] (some (.int (-1))) s t := by
  refine z_met (by decide) (Nat.le_of_ble_eq_true rfl) ?_
  intro X hl C E hnm
  show Zf X B mX11_tryNext s t 0 [(0, .ref (B.1 + 0)), (1, .int x)] []
  refine z_aload_n C dX11_tryNext_0 0 rfl rfl ?_
  refine f_get11 C 1 (v := .ref (B.1 + 8)) (by decide) tw_226 rfl zk_0 zb_0 rfl dX11_tryNext_1 ?_
  refine z_iload_n C dX11_tryNext_4 1 rfl rfl ?_
  refine f_callVr C hl (As := [.int x]) (rest := []) (c_X1_deputyAt8s l B s t d (by omega) x hx (by rw [hx, hN]; exact nI_lt hd (by omega))) zb_8 (zg_1 zk_8) rfl (zCB (nA := 1) C rfl rfl tw_424 tw_8 tw_474 (by decide +kernel) ⟨Nat.le_of_ble_eq_true rfl, Nat.le_of_ble_eq_true rfl⟩) tw_422 tw_423 rfl rfl (Nat.le_of_ble_eq_true rfl) dX11_tryNext_5 (Nat.zero_le _) ?_
  refine z_astore_n C [(2, .ref (B.1 + (11 + d))), (0, .ref (B.1 + 0)), (1, .int x)] dX11_tryNext_8 rfl (by decide) rfl ?_
  refine z_aload_n C dX11_tryNext_9 0 rfl rfl ?_
  refine z_ifnonnull C 20 dX11_tryNext_10 (by decide) ?_
  refine z_aload_n C dX11_tryNext_20 1 rfl rfl ?_
  refine z_iload_n C dX11_tryNext_21 2 rfl rfl ?_
  refine z_aload_n C dX11_tryNext_22 0 rfl rfl ?_
  refine f_callVr C hl (As := [.int x, .ref (B.1 + (11 + d))]) (rest := []) (c_X11_kindsThatFit l B s t x (11 + d) (zk_dep d (by omega)) (by omega) M hM hM6 hB) zb_0 (zg_11 zk_0) rfl (zCB (nA := 2) C rfl rfl tw_660 tw_1 tw_657 (by decide +kernel) ⟨Nat.le_of_ble_eq_true rfl, Nat.le_of_ble_eq_true rfl⟩) tw_659 tp_20 rfl rfl (Nat.le_of_ble_eq_true rfl) dX11_tryNext_23 (Nat.zero_le _) ?_
  refine z_istore_n C [(3, .int (wCol (fun c => wFit s x (nI c) (s (11 + d) 1) (s (11 + d) 2) M) 6)), (2, .ref (B.1 + (11 + d))), (0, .ref (B.1 + 0)), (1, .int x)] dX11_tryNext_26 rfl (by decide) rfl ?_
  refine z_iload_n C dX11_tryNext_27 0 rfl rfl ?_
  refine z_if_ne C 33 dX11_tryNext_28 (by decide) (fun hbr => absurd g hbr) (fun _ => ?_)
  refine z_iconst C dX11_tryNext_31 ki_m1 ?_
  refine z_iret C E rfl dX11_tryNext_32 rfl (Nat.le_refl _) ⟨rfl, rfl⟩
set_option maxRecDepth 100000 in
set_option maxHeartbeats 4000000 in
theorem l_X11_tryNext {l : Launch} {B : zB} {s : zS} {t : zL} {X : zX} (hl : X.2.1 = l) (C : zC X B mX11_tryNext) (o : Nat) (ho : zk o = 0) (lo : o < 124) (x may : Int32) (hmay : r8 may) (E : zE X B mX11_tryNext 124 0 0 (zR B (some (.int ((wTry (fun n => wMax (wPop (may &&& wCol (fun c => wStop (nI c) (s o 1) (s o 2) (nI n) (s 9 0)) 6)) (wPop may - wPop (may &&& wCol (fun c => wStop (nI c) (s o 1) (s o 2) (nI n) (s 9 0)) 6))) (wPop may + 1) 255).1))) s t)) : ∀ (m : Nat) (i : Nat) (a c : Int32), i + m = 255 → (a, c) = wTry (fun n => wMax (wPop (may &&& wCol (fun c => wStop (nI c) (s o 1) (s o 2) (nI n) (s 9 0)) 6)) (wPop may - wPop (may &&& wCol (fun c => wStop (nI c) (s o 1) (s o 2) (nI n) (s 9 0)) 6))) (wPop may + 1) i → Zf X B mX11_tryNext s t 51 [(7, .int (nI (i + 1))), (6, .int c), (5, .int a), (4, .int (wPop may)), (3, .int may), (2, .ref (B.1 + o)), (0, .ref (B.1 + 0)), (1, .int x)] [] := by
  intro m
  induction m with
  | zero =>
    intro i a c hi ha
    obtain rfl : i = 255 := by omega
    refine z_iload C dX11_tryNext_51 0 rfl ?_
    refine z_sipush C dX11_tryNext_53 ks_255 ?_
    refine z_icmp_gt C 106 dX11_tryNext_56 (by decide) (fun _ => ?_) (fun hbr => absurd (by decide) hbr)
    refine z_iload C dX11_tryNext_106 2 rfl ?_
    refine z_iret C E rfl dX11_tryNext_108 rfl (Nat.le_refl _) ⟨by rw [← ha], rfl⟩
  | succ m ih =>
    intro i a c hi0 ha
    have hi : i < 255 := by omega
    refine z_iload C dX11_tryNext_51 0 rfl ?_
    refine z_sipush C dX11_tryNext_53 ks_255 ?_
    refine z_icmp_gt C 106 dX11_tryNext_56 (by decide) (fun hbr => absurd hbr (show ¬ nI 255 < nI (i + 1) from nI_nlt (by omega) (by decide))) (fun _ => ?_)
    refine z_iload_n C dX11_tryNext_59 4 rfl rfl ?_
    refine z_aload_n C dX11_tryNext_60 6 rfl rfl ?_
    refine z_aload_n C dX11_tryNext_61 5 rfl rfl ?_
    refine z_iload C dX11_tryNext_62 0 rfl ?_
    refine f_callVr C hl (As := [.ref (B.1 + o), .int (nI (i + 1))]) (rest := [.int may]) (c_X11_kindsThatStop l B s t o ho lo (nI (i + 1)) (r8_of (by omega))) zb_0 (zg_11 zk_0) rfl (zCB (nA := 2) C rfl rfl tw_680 tw_1 tw_677 (by decide +kernel) ⟨Nat.le_of_ble_eq_true rfl, Nat.le_of_ble_eq_true rfl⟩) tw_679 tp_22 rfl rfl (Nat.le_of_ble_eq_true rfl) dX11_tryNext_64 (Nat.zero_le _) ?_
    refine z_iand C dX11_tryNext_67 ?_
    refine f_callSr C hl (As := [.int (may &&& (wCol (fun c => wStop (nI c) (s o 1) (s o 2) (nI (i + 1)) (s 9 0)) 6))]) (rest := []) (c_J6_bitCount_0f7a4 l B s t (may &&& (wCol (fun c => wStop (nI c) (s o 1) (s o 2) (nI (i + 1)) (s 9 0)) 6)) (r8_and hmay)) (zCB (nA := 1) C rfl rfl tw_486 tw_19 tw_484 (by decide +kernel) ⟨Nat.le_of_ble_eq_true rfl, Nat.le_of_ble_eq_true rfl⟩) tw_485 rfl rfl (Nat.le_of_ble_eq_true rfl) dX11_tryNext_68 (Nat.zero_le _) ?_
    refine z_istore C [(8, .int (wPop (may &&& (wCol (fun c => wStop (nI c) (s o 1) (s o 2) (nI (i + 1)) (s 9 0)) 6)))), (7, .int (nI (i + 1))), (6, .int c), (5, .int a), (4, .int (wPop may)), (3, .int may), (2, .ref (B.1 + o)), (0, .ref (B.1 + 0)), (1, .int x)] dX11_tryNext_71 (by decide) rfl ?_
    refine z_iload C dX11_tryNext_73 0 rfl ?_
    refine z_iload C dX11_tryNext_75 4 rfl ?_
    refine z_iload C dX11_tryNext_77 0 rfl ?_
    refine z_isub C dX11_tryNext_79 ?_
    refine f_mmax C tw_681 dX11_tryNext_80 (by decide) (by decide) (Nat.zero_le _) (Nat.zero_le _) (Nat.le_of_ble_eq_true rfl) ?_
    refine z_istore C [(9, .int (wMax (wPop (may &&& (wCol (fun c => wStop (nI c) (s o 1) (s o 2) (nI (i + 1)) (s 9 0)) 6))) ((wPop may) - (wPop (may &&& (wCol (fun c => wStop (nI c) (s o 1) (s o 2) (nI (i + 1)) (s 9 0)) 6)))))), (8, .int (wPop (may &&& (wCol (fun c => wStop (nI c) (s o 1) (s o 2) (nI (i + 1)) (s 9 0)) 6)))), (7, .int (nI (i + 1))), (6, .int c), (5, .int a), (4, .int (wPop may)), (3, .int may), (2, .ref (B.1 + o)), (0, .ref (B.1 + 0)), (1, .int x)] dX11_tryNext_83 (by decide) rfl ?_
    refine z_iload C dX11_tryNext_85 0 rfl ?_
    refine z_iload C dX11_tryNext_87 3 rfl ?_
    refine z_icmp_ge C 100 dX11_tryNext_89 (by decide) (fun h89 => ?_) (fun h89 => ?_)
    · refine z_iinc C [(7, .int (nI (i + 1 + 1))), (9, .int (wMax (wPop (may &&& (wCol (fun c => wStop (nI c) (s o 1) (s o 2) (nI (i + 1)) (s 9 0)) 6))) ((wPop may) - (wPop (may &&& (wCol (fun c => wStop (nI c) (s o 1) (s o 2) (nI (i + 1)) (s 9 0)) 6)))))), (8, .int (wPop (may &&& (wCol (fun c => wStop (nI c) (s o 1) (s o 2) (nI (i + 1)) (s 9 0)) 6)))), (6, .int c), (5, .int a), (4, .int (wPop may)), (3, .int may), (2, .ref (B.1 + o)), (0, .ref (B.1 + 0)), (1, .int x)] dX11_tryNext_100 2 rfl (nI_inc (i + 1)) (by decide) rfl ?_
      refine z_goto C 51 dX11_tryNext_103 (by decide) ?_
      exact z_lv [0, 3, 4, 5, 6, 7, 8, 9] rfl (ih (i + 1) _ _ (by omega) (by rw [wTry, if_pos (by rw [← ha]; exact h89)]; exact ha))
    · refine z_iload C dX11_tryNext_92 0 rfl ?_
      refine z_istore C [(6, .int (wMax (wPop (may &&& (wCol (fun c => wStop (nI c) (s o 1) (s o 2) (nI (i + 1)) (s 9 0)) 6))) ((wPop may) - (wPop (may &&& (wCol (fun c => wStop (nI c) (s o 1) (s o 2) (nI (i + 1)) (s 9 0)) 6)))))), (9, .int (wMax (wPop (may &&& (wCol (fun c => wStop (nI c) (s o 1) (s o 2) (nI (i + 1)) (s 9 0)) 6))) ((wPop may) - (wPop (may &&& (wCol (fun c => wStop (nI c) (s o 1) (s o 2) (nI (i + 1)) (s 9 0)) 6)))))), (8, .int (wPop (may &&& (wCol (fun c => wStop (nI c) (s o 1) (s o 2) (nI (i + 1)) (s 9 0)) 6)))), (7, .int (nI (i + 1))), (5, .int a), (4, .int (wPop may)), (3, .int may), (2, .ref (B.1 + o)), (0, .ref (B.1 + 0)), (1, .int x)] dX11_tryNext_94 (by decide) rfl ?_
      refine z_iload C dX11_tryNext_96 3 rfl ?_
      refine z_istore C [(5, .int (nI (i + 1))), (6, .int (wMax (wPop (may &&& (wCol (fun c => wStop (nI c) (s o 1) (s o 2) (nI (i + 1)) (s 9 0)) 6))) ((wPop may) - (wPop (may &&& (wCol (fun c => wStop (nI c) (s o 1) (s o 2) (nI (i + 1)) (s 9 0)) 6)))))), (9, .int (wMax (wPop (may &&& (wCol (fun c => wStop (nI c) (s o 1) (s o 2) (nI (i + 1)) (s 9 0)) 6))) ((wPop may) - (wPop (may &&& (wCol (fun c => wStop (nI c) (s o 1) (s o 2) (nI (i + 1)) (s 9 0)) 6)))))), (8, .int (wPop (may &&& (wCol (fun c => wStop (nI c) (s o 1) (s o 2) (nI (i + 1)) (s 9 0)) 6)))), (7, .int (nI (i + 1))), (4, .int (wPop may)), (3, .int may), (2, .ref (B.1 + o)), (0, .ref (B.1 + 0)), (1, .int x)] dX11_tryNext_98 (by decide) rfl ?_
      refine z_iinc C [(7, .int (nI (i + 1 + 1))), (5, .int (nI (i + 1))), (6, .int (wMax (wPop (may &&& (wCol (fun c => wStop (nI c) (s o 1) (s o 2) (nI (i + 1)) (s 9 0)) 6))) ((wPop may) - (wPop (may &&& (wCol (fun c => wStop (nI c) (s o 1) (s o 2) (nI (i + 1)) (s 9 0)) 6)))))), (9, .int (wMax (wPop (may &&& (wCol (fun c => wStop (nI c) (s o 1) (s o 2) (nI (i + 1)) (s 9 0)) 6))) ((wPop may) - (wPop (may &&& (wCol (fun c => wStop (nI c) (s o 1) (s o 2) (nI (i + 1)) (s 9 0)) 6)))))), (8, .int (wPop (may &&& (wCol (fun c => wStop (nI c) (s o 1) (s o 2) (nI (i + 1)) (s 9 0)) 6)))), (4, .int (wPop may)), (3, .int may), (2, .ref (B.1 + o)), (0, .ref (B.1 + 0)), (1, .int x)] dX11_tryNext_100 4 rfl (nI_inc (i + 1)) (by decide) rfl ?_
      refine z_goto C 51 dX11_tryNext_103 (by decide) ?_
      exact z_lv [0, 2, 1, 5, 6, 7, 8, 9] rfl (ih (i + 1) _ _ (by omega) (by rw [wTry, if_neg (by rw [← ha]; exact h89)]))
set_option maxRecDepth 100000 in
set_option maxHeartbeats 4000000 in
theorem c_X11_tryNext_ok (l : Launch) (B : zB) (s : zS) (t : zL) (N : Nat) (hN : s 8 4 = nI N) (h6 : N ≤ 6) (d : Nat) (hd : d < N) (x : Int32) (hx : x = nI d) (M : Nat) (hM : s 8 5 = nI M) (hM6 : M ≤ 6) (hB : ∀ n, n < M → r8 (s (18 + n) 1)) (g : ¬ wCol (fun c => wFit s x (nI c) (s (11 + d) 1) (s (11 + d) 2) M) 6 = 0) : zD l B mX11_tryNext s t [.ref (B.1 + 0), .int x] (some (.int ((wTry (fun n => wMax (wPop ((wCol (fun c => wFit s x (nI c) (s (11 + d) 1) (s (11 + d) 2) M) 6) &&& wCol (fun c => wStop (nI c) (s (11 + d) 1) (s (11 + d) 2) (nI n) (s 9 0)) 6)) (wPop (wCol (fun c => wFit s x (nI c) (s (11 + d) 1) (s (11 + d) 2) M) 6) - wPop ((wCol (fun c => wFit s x (nI c) (s (11 + d) 1) (s (11 + d) 2) M) 6) &&& wCol (fun c => wStop (nI c) (s (11 + d) 1) (s (11 + d) 2) (nI n) (s 9 0)) 6))) (wPop (wCol (fun c => wFit s x (nI c) (s (11 + d) 1) (s (11 + d) 2) M) 6) + 1) 255).1))) s t := by
  refine z_met (by decide) (Nat.le_of_ble_eq_true rfl) ?_
  intro X hl C E hnm
  show Zf X B mX11_tryNext s t 0 [(0, .ref (B.1 + 0)), (1, .int x)] []
  refine z_aload_n C dX11_tryNext_0 0 rfl rfl ?_
  refine f_get11 C 1 (v := .ref (B.1 + 8)) (by decide) tw_226 rfl zk_0 zb_0 rfl dX11_tryNext_1 ?_
  refine z_iload_n C dX11_tryNext_4 1 rfl rfl ?_
  refine f_callVr C hl (As := [.int x]) (rest := []) (c_X1_deputyAt8s l B s t d (by omega) x hx (by rw [hx, hN]; exact nI_lt hd (by omega))) zb_8 (zg_1 zk_8) rfl (zCB (nA := 1) C rfl rfl tw_424 tw_8 tw_474 (by decide +kernel) ⟨Nat.le_of_ble_eq_true rfl, Nat.le_of_ble_eq_true rfl⟩) tw_422 tw_423 rfl rfl (Nat.le_of_ble_eq_true rfl) dX11_tryNext_5 (Nat.zero_le _) ?_
  refine z_astore_n C [(2, .ref (B.1 + (11 + d))), (0, .ref (B.1 + 0)), (1, .int x)] dX11_tryNext_8 rfl (by decide) rfl ?_
  refine z_aload_n C dX11_tryNext_9 0 rfl rfl ?_
  refine z_ifnonnull C 20 dX11_tryNext_10 (by decide) ?_
  refine z_aload_n C dX11_tryNext_20 1 rfl rfl ?_
  refine z_iload_n C dX11_tryNext_21 2 rfl rfl ?_
  refine z_aload_n C dX11_tryNext_22 0 rfl rfl ?_
  refine f_callVr C hl (As := [.int x, .ref (B.1 + (11 + d))]) (rest := []) (c_X11_kindsThatFit l B s t x (11 + d) (zk_dep d (by omega)) (by omega) M hM hM6 hB) zb_0 (zg_11 zk_0) rfl (zCB (nA := 2) C rfl rfl tw_660 tw_1 tw_657 (by decide +kernel) ⟨Nat.le_of_ble_eq_true rfl, Nat.le_of_ble_eq_true rfl⟩) tw_659 tp_20 rfl rfl (Nat.le_of_ble_eq_true rfl) dX11_tryNext_23 (Nat.zero_le _) ?_
  refine z_istore_n C [(3, .int (wCol (fun c => wFit s x (nI c) (s (11 + d) 1) (s (11 + d) 2) M) 6)), (2, .ref (B.1 + (11 + d))), (0, .ref (B.1 + 0)), (1, .int x)] dX11_tryNext_26 rfl (by decide) rfl ?_
  refine z_iload_n C dX11_tryNext_27 0 rfl rfl ?_
  refine z_if_ne C 33 dX11_tryNext_28 (by decide) (fun _ => ?_) (fun hbr => absurd hbr g)
  refine z_iload_n C dX11_tryNext_33 0 rfl rfl ?_
  refine f_callSr C hl (As := [.int (wCol (fun c => wFit s x (nI c) (s (11 + d) 1) (s (11 + d) 2) M) 6)]) (rest := []) (c_J6_bitCount_0f7a4 l B s t (wCol (fun c => wFit s x (nI c) (s (11 + d) 1) (s (11 + d) 2) M) 6) (wCol_r8 _ _ (by decide))) (zCB (nA := 1) C rfl rfl tw_486 tw_19 tw_484 (by decide +kernel) ⟨Nat.le_of_ble_eq_true rfl, Nat.le_of_ble_eq_true rfl⟩) tw_485 rfl rfl (Nat.le_of_ble_eq_true rfl) dX11_tryNext_34 (Nat.zero_le _) ?_
  refine z_istore C [(4, .int (wPop (wCol (fun c => wFit s x (nI c) (s (11 + d) 1) (s (11 + d) 2) M) 6))), (3, .int (wCol (fun c => wFit s x (nI c) (s (11 + d) 1) (s (11 + d) 2) M) 6)), (2, .ref (B.1 + (11 + d))), (0, .ref (B.1 + 0)), (1, .int x)] dX11_tryNext_37 (by decide) rfl ?_
  refine z_iconst C dX11_tryNext_39 ki_m1 ?_
  refine z_istore C [(5, .int (-1)), (4, .int (wPop (wCol (fun c => wFit s x (nI c) (s (11 + d) 1) (s (11 + d) 2) M) 6))), (3, .int (wCol (fun c => wFit s x (nI c) (s (11 + d) 1) (s (11 + d) 2) M) 6)), (2, .ref (B.1 + (11 + d))), (0, .ref (B.1 + 0)), (1, .int x)] dX11_tryNext_40 (by decide) rfl ?_
  refine z_iload C dX11_tryNext_42 1 rfl ?_
  refine z_iconst C dX11_tryNext_44 ki_1 ?_
  refine z_iadd C dX11_tryNext_45 ?_
  refine z_istore C [(6, .int ((wPop (wCol (fun c => wFit s x (nI c) (s (11 + d) 1) (s (11 + d) 2) M) 6)) + 1)), (5, .int (-1)), (4, .int (wPop (wCol (fun c => wFit s x (nI c) (s (11 + d) 1) (s (11 + d) 2) M) 6))), (3, .int (wCol (fun c => wFit s x (nI c) (s (11 + d) 1) (s (11 + d) 2) M) 6)), (2, .ref (B.1 + (11 + d))), (0, .ref (B.1 + 0)), (1, .int x)] dX11_tryNext_46 (by decide) rfl ?_
  refine z_iconst C dX11_tryNext_48 ki_1 ?_
  refine z_istore C [(7, .int 1), (6, .int ((wPop (wCol (fun c => wFit s x (nI c) (s (11 + d) 1) (s (11 + d) 2) M) 6)) + 1)), (5, .int (-1)), (4, .int (wPop (wCol (fun c => wFit s x (nI c) (s (11 + d) 1) (s (11 + d) 2) M) 6))), (3, .int (wCol (fun c => wFit s x (nI c) (s (11 + d) 1) (s (11 + d) 2) M) 6)), (2, .ref (B.1 + (11 + d))), (0, .ref (B.1 + 0)), (1, .int x)] dX11_tryNext_49 (by decide) rfl ?_
  exact z_lv [0, 1, 2, 3, 4, 5, 6, 7] rfl (l_X11_tryNext hl C (11 + d) (zk_dep d (by omega)) (by omega) x _ (wCol_r8 _ _ (by decide)) E 255 0 _ _ (by omega) rfl)
abbrev mX11_away : zM := (yX11_away, cX11_away, 7, (some .int), { frames := 5, cells := 0, slots := 0, locals := 122 })
set_option maxRecDepth 100000 in
set_option maxHeartbeats 4000000 in
theorem c_X11_away_bad (l : Launch) (B : zB) (s : zS) (t : zL) (b c : Int32) (h : (wIn b 255 && wIn c 10) = false) : zD l B mX11_away s t [.ref (B.1 + 0), .int b, .int c] (some (.int (-2))) (zu s 0 9 (s 0 9 + 1)) t := by
  refine z_met (by decide) (Nat.le_of_ble_eq_true rfl) ?_
  intro X hl C E hnm
  show Zf X B mX11_away s t 0 [(0, .ref (B.1 + 0)), (1, .int b), (2, .int c)] []
  refine z_iload_n C dX11_away_0 1 rfl rfl ?_
  refine f_callSr C hl (As := [.int b]) (rest := []) (c_X11_isBundle l B s t b) (zCB (nA := 1) C rfl rfl tw_287 tw_1 tw_285 (by decide +kernel) ⟨Nat.le_of_ble_eq_true rfl, Nat.le_of_ble_eq_true rfl⟩) tw_286 rfl rfl (Nat.le_of_ble_eq_true rfl) dX11_away_1 (Nat.zero_le _) ?_
  refine z_ifb_eq C 16 dX11_away_4 (by decide) (fun h4 => ?_) (fun h4 => ?_)
  · refine z_aload_n C dX11_away_16 0 rfl rfl ?_
    refine z_bipush C dX11_away_17 kb_m2 ?_
    refine f_callVr C hl (As := [.int (-2)]) (rest := []) (c_X11_refuse2 l B s t) zb_0 (zg_11 zk_0) rfl (zCB (nA := 1) C rfl rfl tw_272 tw_1 tw_269 (by decide +kernel) ⟨Nat.le_of_ble_eq_true rfl, Nat.le_of_ble_eq_true rfl⟩) tw_271 tp_0 rfl rfl (Nat.le_of_ble_eq_true rfl) dX11_away_19 (Nat.zero_le _) ?_
    refine z_iret C E rfl dX11_away_22 rfl (Nat.le_refl _) ⟨rfl, rfl⟩
  · refine z_iload_n C dX11_away_7 2 rfl rfl ?_
    refine z_bipush C dX11_away_8 kb_10 ?_
    refine f_callSr C hl (As := [.int c, .int 10]) (rest := []) (c_X11_within l B s t c 10) (zCB (nA := 2) C rfl rfl tw_268 tw_1 tw_266 (by decide +kernel) ⟨Nat.le_of_ble_eq_true rfl, Nat.le_of_ble_eq_true rfl⟩) tw_267 rfl rfl (Nat.le_of_ble_eq_true rfl) dX11_away_10 (Nat.zero_le _) ?_
    refine z_ifb_ne C 23 dX11_away_13 (by decide) (fun h13 => ?_) (fun h13 => ?_)
    · exact absurd h (by rw [h4, h13]; decide)
    · refine z_aload_n C dX11_away_16 0 rfl rfl ?_
      refine z_bipush C dX11_away_17 kb_m2 ?_
      refine f_callVr C hl (As := [.int (-2)]) (rest := []) (c_X11_refuse2 l B s t) zb_0 (zg_11 zk_0) rfl (zCB (nA := 1) C rfl rfl tw_272 tw_1 tw_269 (by decide +kernel) ⟨Nat.le_of_ble_eq_true rfl, Nat.le_of_ble_eq_true rfl⟩) tw_271 tp_0 rfl rfl (Nat.le_of_ble_eq_true rfl) dX11_away_19 (Nat.zero_le _) ?_
      refine z_iret C E rfl dX11_away_22 rfl (Nat.le_refl _) ⟨rfl, rfl⟩
def wFr (t : zL) (u v : Int32) (k : Nat) : zL := zv (zv t 0 7 (wPow u.toInt64 k)) 0 8 (wPow v.toInt64 k)
theorem wFr_7 (t : zL) (u v : Int32) (k : Nat) : wFr t u v k 0 7 = wPow u.toInt64 k := by simp [wFr, zv]
theorem wFr_8 (t : zL) (u v : Int32) (k : Nat) : wFr t u v k 0 8 = wPow v.toInt64 k := by simp [wFr, zv]
theorem wFr_s (t : zL) (u v : Int32) (k : Nat) : zv (zv (wFr t u v k) 0 7 (wFr t u v k 0 7 * u.toInt64)) 0 8 (zv (wFr t u v k) 0 7 (wFr t u v k 0 7 * u.toInt64) 0 8 * v.toInt64) = wFr t u v (k + 1) := by
  funext a b
  by_cases h : a = 0
  · subst h
    by_cases h7 : b = 7
    · subst h7; simp [wFr, zv, wPow]
    · by_cases h8 : b = 8
      · subst h8; simp [wFr, zv, wPow]
      · simp [wFr, zv, h7, h8]
  · simp [wFr, zv, h]
theorem wFr_0 (t : zL) (u v : Int32) : zv (zv t 0 7 1) 0 8 1 = wFr t u v 0 := rfl
set_option maxRecDepth 100000 in
set_option maxHeartbeats 4000000 in
theorem l_X11_away {l : Launch} {B : zB} {s : zS} {t : zL} {X : zX} (hl : X.2.1 = l) (C : zC X B mX11_away) (b c u v : Int32) (K : Nat) (hK8 : K ≤ 8) (E : zE X B mX11_away 124 0 0 (zR B (some (.int 1)) s (wFr t u v K))) : ∀ (m : Nat) (i : Nat), i + m = K → Zf X B mX11_away s (wFr t u v i) 91 [(6, .int (nI i)), (5, .int (nI K)), (4, .int v), (3, .int u), (0, .ref (B.1 + 0)), (1, .int b), (2, .int c)] [] := by
  intro m
  induction m with
  | zero =>
    intro i hi
    refine z_iload C dX11_away_91 0 rfl ?_
    refine z_iload C dX11_away_93 1 rfl ?_
    refine z_icmp_ge C 127 dX11_away_95 (by decide) (fun _ => ?_) (fun hbr => absurd (nI_le (by omega) (by omega)) hbr)
    refine z_iconst C dX11_away_127 ki_1 ?_
    refine z_iret C E rfl dX11_away_128 rfl (Nat.le_refl _) ⟨rfl, congrArg (fun z => zg B s z) (by rw [show i = K by omega])⟩
  | succ m ih =>
    intro i hi0
    have hi : i < K := by omega
    refine z_iload C dX11_away_91 0 rfl ?_
    refine z_iload C dX11_away_93 1 rfl ?_
    refine z_icmp_ge C 127 dX11_away_95 (by decide) (fun hbr => absurd hbr (nI_ge hi (by omega))) (fun _ => ?_)
    refine z_aload_n C dX11_away_98 4 rfl rfl ?_
    refine z_dup C dX11_away_99 rfl ?_
    refine f_get11 C 7 (v := .long ((wFr t u v i) 0 7)) (by decide) tw_232 rfl zk_0 zb_0 rfl dX11_away_100 ?_
    refine z_iload_n C dX11_away_103 3 rfl rfl ?_
    refine z_i2l C dX11_away_104 ?_
    refine z_lmul C dX11_away_105 ?_
    refine f_put11_7 C tw_232 zk_0 zb_0 dX11_away_106 ?_
    refine z_aload_n C dX11_away_109 4 rfl rfl ?_
    refine z_dup C dX11_away_110 rfl ?_
    refine f_get11 C 8 (v := .long ((zv (wFr t u v i) 0 7 (((wFr t u v i) 0 7) * ((u : Int32).toInt64))) 0 8)) (by decide) tw_233 rfl zk_0 zb_0 rfl dX11_away_111 ?_
    refine z_iload C dX11_away_114 2 rfl ?_
    refine z_i2l C dX11_away_116 ?_
    refine z_lmul C dX11_away_117 ?_
    refine f_put11_8 C tw_233 zk_0 zb_0 dX11_away_118 ?_
    refine z_iinc C [(6, .int (nI (i + 1))), (5, .int (nI K)), (4, .int v), (3, .int u), (0, .ref (B.1 + 0)), (1, .int b), (2, .int c)] dX11_away_121 0 rfl (nI_inc i) (by decide) rfl ?_
    refine z_goto C 91 dX11_away_124 (by decide) ?_
    refine z_G (congrArg (fun z => zg B s z) (wFr_s t u v i)) ?_
    exact z_lv [0, 1, 2, 3, 4, 5, 6] rfl (ih (i + 1) (by omega))
set_option maxRecDepth 100000 in
set_option maxHeartbeats 4000000 in
theorem c_X11_away_0 (l : Launch) (B : zB) (s : zS) (t : zL) (b : Int32) (g : wIn b 255 = true) (N : Nat) (hN : s 8 4 = nI N) (h6 : N ≤ 6) (hK : ∀ d, d < N → ∃ c, c < 6 ∧ s (11 + d) 0 = nI c) : zD l B mX11_away s t [.ref (B.1 + 0), .int b, .int 0] (some (.int 1)) s (wFr t 0 1 (pcN (wWho (fun d => s (11 + d) 0) (fun d => s (11 + d) 1) (fun d => s (11 + d) 2) (s 9 3 ||| s 9 4) (s 9 0) b N).toBitVec.toNat)) := by
  refine z_met (by decide) (Nat.le_of_ble_eq_true rfl) ?_
  intro X hl C E hnm
  show Zf X B mX11_away s t 0 [(0, .ref (B.1 + 0)), (1, .int b), (2, .int 0)] []
  refine z_iload_n C dX11_away_0 1 rfl rfl ?_
  refine f_callSr C hl (As := [.int b]) (rest := []) (c_X11_isBundle l B s t b) (zCB (nA := 1) C rfl rfl tw_287 tw_1 tw_285 (by decide +kernel) ⟨Nat.le_of_ble_eq_true rfl, Nat.le_of_ble_eq_true rfl⟩) tw_286 rfl rfl (Nat.le_of_ble_eq_true rfl) dX11_away_1 (Nat.zero_le _) ?_
  refine z_ifb_eq C 16 dX11_away_4 (by decide) (fun hbr => absurd hbr (by rw [g]; decide)) (fun _ => ?_)
  refine z_iload_n C dX11_away_7 2 rfl rfl ?_
  refine z_bipush C dX11_away_8 kb_10 ?_
  refine f_callSr C hl (As := [.int 0, .int 10]) (rest := []) (c_X11_within l B s t 0 10) (zCB (nA := 2) C rfl rfl tw_268 tw_1 tw_266 (by decide +kernel) ⟨Nat.le_of_ble_eq_true rfl, Nat.le_of_ble_eq_true rfl⟩) tw_267 rfl rfl (Nat.le_of_ble_eq_true rfl) dX11_away_10 (Nat.zero_le _) ?_
  refine z_ifb_ne C 23 dX11_away_13 (by decide) (fun _ => ?_) (fun hbr => Bool.noConfusion (show false = true from hbr.symm.trans (by decide)))
  refine z_iload_n C dX11_away_23 2 rfl rfl ?_
  refine z_istore_n C [(3, .int 0), (0, .ref (B.1 + 0)), (1, .int b), (2, .int 0)] dX11_away_24 rfl (by decide) rfl ?_
  refine z_bipush C dX11_away_25 kb_10 ?_
  refine z_istore C [(4, .int 10), (3, .int 0), (0, .ref (B.1 + 0)), (1, .int b), (2, .int 0)] dX11_away_27 (by decide) rfl ?_
  refine z_iload_n C dX11_away_29 1 rfl rfl ?_
  refine z_iconst C dX11_away_30 ki_2 ?_
  refine z_irem C dX11_away_31 (by decide) ?_
  refine f_topi (y := 0) (by decide) ?_
  refine z_if_ne C 45 dX11_away_32 (by decide) (fun hbr => absurd (by decide) hbr) (fun _ => ?_)
  refine z_iload_n C dX11_away_35 1 rfl rfl ?_
  refine z_iconst C dX11_away_36 ki_2 ?_
  refine z_idiv C dX11_away_37 (by decide) ?_
  refine f_topi (y := 0) (by decide) ?_
  refine z_istore_n C [(3, .int 0), (4, .int 10), (0, .ref (B.1 + 0)), (1, .int b), (2, .int 0)] dX11_away_38 rfl (by decide) rfl ?_
  refine z_iload C dX11_away_39 1 rfl ?_
  refine z_iconst C dX11_away_41 ki_2 ?_
  refine z_idiv C dX11_away_42 (by decide) ?_
  refine f_topi (y := 5) (by decide) ?_
  refine z_istore C [(4, .int 5), (3, .int 0), (0, .ref (B.1 + 0)), (1, .int b), (2, .int 0)] dX11_away_43 (by decide) rfl ?_
  refine z_iload_n C dX11_away_45 1 rfl rfl ?_
  refine z_iconst C dX11_away_46 ki_5 ?_
  refine z_irem C dX11_away_47 (by decide) ?_
  refine f_topi (y := 0) (by decide) ?_
  refine z_if_ne C 61 dX11_away_48 (by decide) (fun hbr => absurd (by decide) hbr) (fun _ => ?_)
  refine z_iload_n C dX11_away_51 1 rfl rfl ?_
  refine z_iconst C dX11_away_52 ki_5 ?_
  refine z_idiv C dX11_away_53 (by decide) ?_
  refine f_topi (y := 0) (by decide) ?_
  refine z_istore_n C [(3, .int 0), (4, .int 5), (0, .ref (B.1 + 0)), (1, .int b), (2, .int 0)] dX11_away_54 rfl (by decide) rfl ?_
  refine z_iload C dX11_away_55 1 rfl ?_
  refine z_iconst C dX11_away_57 ki_5 ?_
  refine z_idiv C dX11_away_58 (by decide) ?_
  refine f_topi (y := 1) (by decide) ?_
  refine z_istore C [(4, .int 1), (3, .int 0), (0, .ref (B.1 + 0)), (1, .int b), (2, .int 0)] dX11_away_59 (by decide) rfl ?_
  refine z_aload_n C dX11_away_61 2 rfl rfl ?_
  refine z_aload_n C dX11_away_62 2 rfl rfl ?_
  refine f_get11 C 1 (v := .ref (B.1 + 8)) (by decide) tw_226 rfl zk_0 zb_0 rfl dX11_away_63 ?_
  refine f_get1 C 0 (v := .ref (B.1 + 9)) (by decide) tw_168 rfl zk_8 zb_8 rfl dX11_away_66 ?_
  refine z_iload_n C dX11_away_69 3 rfl rfl ?_
  refine f_callVr C hl (As := [.ref (B.1 + 9), .int b]) (rest := []) (c_X11_stoppers l B s t 9 zk_9 zb_9 b (wIn_r8 g) N hN h6 hK) zb_0 (zg_11 zk_0) rfl (zCB (nA := 2) C rfl rfl tw_473 tw_1 tw_470 (by decide +kernel) ⟨Nat.le_of_ble_eq_true rfl, Nat.le_of_ble_eq_true rfl⟩) tw_472 tp_10 rfl rfl (Nat.le_of_ble_eq_true rfl) dX11_away_70 (Nat.zero_le _) ?_
  refine f_callSr C hl (As := [.int (wWho (fun d => s (11 + d) 0) (fun d => s (11 + d) 1) (fun d => s (11 + d) 2) (s 9 3 ||| s 9 4) (s 9 0) b N)]) (rest := []) (c_J6_bitCount_0f7a4 l B s t (wWho (fun d => s (11 + d) 0) (fun d => s (11 + d) 1) (fun d => s (11 + d) 2) (s 9 3 ||| s 9 4) (s 9 0) b N) (wWho_r8 _ _ _ _ _ _ _ (by omega))) (zCB (nA := 1) C rfl rfl tw_486 tw_19 tw_484 (by decide +kernel) ⟨Nat.le_of_ble_eq_true rfl, Nat.le_of_ble_eq_true rfl⟩) tw_485 rfl rfl (Nat.le_of_ble_eq_true rfl) dX11_away_73 (Nat.zero_le _) ?_
  refine z_istore C [(5, .int (wPop (wWho (fun d => s (11 + d) 0) (fun d => s (11 + d) 1) (fun d => s (11 + d) 2) (s 9 3 ||| s 9 4) (s 9 0) b N))), (4, .int 1), (3, .int 0), (0, .ref (B.1 + 0)), (1, .int b), (2, .int 0)] dX11_away_76 (by decide) rfl ?_
  refine z_aload_n C dX11_away_78 3 rfl rfl ?_
  refine z_lconst C dX11_away_79 kl_1 ?_
  refine f_put11_7 C tw_232 zk_0 zb_0 dX11_away_80 ?_
  refine z_aload_n C dX11_away_83 3 rfl rfl ?_
  refine z_lconst C dX11_away_84 kl_1 ?_
  refine f_put11_8 C tw_233 zk_0 zb_0 dX11_away_85 ?_
  refine z_iconst C dX11_away_88 ki_0 ?_
  refine z_istore C [(6, .int 0), (5, .int (wPop (wWho (fun d => s (11 + d) 0) (fun d => s (11 + d) 1) (fun d => s (11 + d) 2) (s 9 3 ||| s 9 4) (s 9 0) b N))), (4, .int 1), (3, .int 0), (0, .ref (B.1 + 0)), (1, .int b), (2, .int 0)] dX11_away_89 (by decide) rfl ?_
  exact z_lv [0, 1, 2, 3, 4, 5, 6] rfl (l_X11_away hl C b 0 0 1 (pcN (wWho (fun d => s (11 + d) 0) (fun d => s (11 + d) 1) (fun d => s (11 + d) 2) (s 9 3 ||| s 9 4) (s 9 0) b N).toBitVec.toNat) (pcN_lt _) E _ 0 (Nat.zero_add _))
set_option maxRecDepth 100000 in
set_option maxHeartbeats 4000000 in
theorem c_X11_away_1 (l : Launch) (B : zB) (s : zS) (t : zL) (b : Int32) (g : wIn b 255 = true) (N : Nat) (hN : s 8 4 = nI N) (h6 : N ≤ 6) (hK : ∀ d, d < N → ∃ c, c < 6 ∧ s (11 + d) 0 = nI c) : zD l B mX11_away s t [.ref (B.1 + 0), .int b, .int 1] (some (.int 1)) s (wFr t 1 10 (pcN (wWho (fun d => s (11 + d) 0) (fun d => s (11 + d) 1) (fun d => s (11 + d) 2) (s 9 3 ||| s 9 4) (s 9 0) b N).toBitVec.toNat)) := by
  refine z_met (by decide) (Nat.le_of_ble_eq_true rfl) ?_
  intro X hl C E hnm
  show Zf X B mX11_away s t 0 [(0, .ref (B.1 + 0)), (1, .int b), (2, .int 1)] []
  refine z_iload_n C dX11_away_0 1 rfl rfl ?_
  refine f_callSr C hl (As := [.int b]) (rest := []) (c_X11_isBundle l B s t b) (zCB (nA := 1) C rfl rfl tw_287 tw_1 tw_285 (by decide +kernel) ⟨Nat.le_of_ble_eq_true rfl, Nat.le_of_ble_eq_true rfl⟩) tw_286 rfl rfl (Nat.le_of_ble_eq_true rfl) dX11_away_1 (Nat.zero_le _) ?_
  refine z_ifb_eq C 16 dX11_away_4 (by decide) (fun hbr => absurd hbr (by rw [g]; decide)) (fun _ => ?_)
  refine z_iload_n C dX11_away_7 2 rfl rfl ?_
  refine z_bipush C dX11_away_8 kb_10 ?_
  refine f_callSr C hl (As := [.int 1, .int 10]) (rest := []) (c_X11_within l B s t 1 10) (zCB (nA := 2) C rfl rfl tw_268 tw_1 tw_266 (by decide +kernel) ⟨Nat.le_of_ble_eq_true rfl, Nat.le_of_ble_eq_true rfl⟩) tw_267 rfl rfl (Nat.le_of_ble_eq_true rfl) dX11_away_10 (Nat.zero_le _) ?_
  refine z_ifb_ne C 23 dX11_away_13 (by decide) (fun _ => ?_) (fun hbr => Bool.noConfusion (show false = true from hbr.symm.trans (by decide)))
  refine z_iload_n C dX11_away_23 2 rfl rfl ?_
  refine z_istore_n C [(3, .int 1), (0, .ref (B.1 + 0)), (1, .int b), (2, .int 1)] dX11_away_24 rfl (by decide) rfl ?_
  refine z_bipush C dX11_away_25 kb_10 ?_
  refine z_istore C [(4, .int 10), (3, .int 1), (0, .ref (B.1 + 0)), (1, .int b), (2, .int 1)] dX11_away_27 (by decide) rfl ?_
  refine z_iload_n C dX11_away_29 1 rfl rfl ?_
  refine z_iconst C dX11_away_30 ki_2 ?_
  refine z_irem C dX11_away_31 (by decide) ?_
  refine f_topi (y := 1) (by decide) ?_
  refine z_if_ne C 45 dX11_away_32 (by decide) (fun _ => ?_) (fun hbr => absurd hbr (by decide))
  refine z_iload_n C dX11_away_45 1 rfl rfl ?_
  refine z_iconst C dX11_away_46 ki_5 ?_
  refine z_irem C dX11_away_47 (by decide) ?_
  refine f_topi (y := 1) (by decide) ?_
  refine z_if_ne C 61 dX11_away_48 (by decide) (fun _ => ?_) (fun hbr => absurd hbr (by decide))
  refine z_aload_n C dX11_away_61 2 rfl rfl ?_
  refine z_aload_n C dX11_away_62 2 rfl rfl ?_
  refine f_get11 C 1 (v := .ref (B.1 + 8)) (by decide) tw_226 rfl zk_0 zb_0 rfl dX11_away_63 ?_
  refine f_get1 C 0 (v := .ref (B.1 + 9)) (by decide) tw_168 rfl zk_8 zb_8 rfl dX11_away_66 ?_
  refine z_iload_n C dX11_away_69 3 rfl rfl ?_
  refine f_callVr C hl (As := [.ref (B.1 + 9), .int b]) (rest := []) (c_X11_stoppers l B s t 9 zk_9 zb_9 b (wIn_r8 g) N hN h6 hK) zb_0 (zg_11 zk_0) rfl (zCB (nA := 2) C rfl rfl tw_473 tw_1 tw_470 (by decide +kernel) ⟨Nat.le_of_ble_eq_true rfl, Nat.le_of_ble_eq_true rfl⟩) tw_472 tp_10 rfl rfl (Nat.le_of_ble_eq_true rfl) dX11_away_70 (Nat.zero_le _) ?_
  refine f_callSr C hl (As := [.int (wWho (fun d => s (11 + d) 0) (fun d => s (11 + d) 1) (fun d => s (11 + d) 2) (s 9 3 ||| s 9 4) (s 9 0) b N)]) (rest := []) (c_J6_bitCount_0f7a4 l B s t (wWho (fun d => s (11 + d) 0) (fun d => s (11 + d) 1) (fun d => s (11 + d) 2) (s 9 3 ||| s 9 4) (s 9 0) b N) (wWho_r8 _ _ _ _ _ _ _ (by omega))) (zCB (nA := 1) C rfl rfl tw_486 tw_19 tw_484 (by decide +kernel) ⟨Nat.le_of_ble_eq_true rfl, Nat.le_of_ble_eq_true rfl⟩) tw_485 rfl rfl (Nat.le_of_ble_eq_true rfl) dX11_away_73 (Nat.zero_le _) ?_
  refine z_istore C [(5, .int (wPop (wWho (fun d => s (11 + d) 0) (fun d => s (11 + d) 1) (fun d => s (11 + d) 2) (s 9 3 ||| s 9 4) (s 9 0) b N))), (4, .int 10), (3, .int 1), (0, .ref (B.1 + 0)), (1, .int b), (2, .int 1)] dX11_away_76 (by decide) rfl ?_
  refine z_aload_n C dX11_away_78 3 rfl rfl ?_
  refine z_lconst C dX11_away_79 kl_1 ?_
  refine f_put11_7 C tw_232 zk_0 zb_0 dX11_away_80 ?_
  refine z_aload_n C dX11_away_83 3 rfl rfl ?_
  refine z_lconst C dX11_away_84 kl_1 ?_
  refine f_put11_8 C tw_233 zk_0 zb_0 dX11_away_85 ?_
  refine z_iconst C dX11_away_88 ki_0 ?_
  refine z_istore C [(6, .int 0), (5, .int (wPop (wWho (fun d => s (11 + d) 0) (fun d => s (11 + d) 1) (fun d => s (11 + d) 2) (s 9 3 ||| s 9 4) (s 9 0) b N))), (4, .int 10), (3, .int 1), (0, .ref (B.1 + 0)), (1, .int b), (2, .int 1)] dX11_away_89 (by decide) rfl ?_
  exact z_lv [0, 1, 2, 3, 4, 5, 6] rfl (l_X11_away hl C b 1 1 10 (pcN (wWho (fun d => s (11 + d) 0) (fun d => s (11 + d) 1) (fun d => s (11 + d) 2) (s 9 3 ||| s 9 4) (s 9 0) b N).toBitVec.toNat) (pcN_lt _) E _ 0 (Nat.zero_add _))
set_option maxRecDepth 100000 in
set_option maxHeartbeats 4000000 in
theorem c_X11_away_2 (l : Launch) (B : zB) (s : zS) (t : zL) (b : Int32) (g : wIn b 255 = true) (N : Nat) (hN : s 8 4 = nI N) (h6 : N ≤ 6) (hK : ∀ d, d < N → ∃ c, c < 6 ∧ s (11 + d) 0 = nI c) : zD l B mX11_away s t [.ref (B.1 + 0), .int b, .int 2] (some (.int 1)) s (wFr t 1 5 (pcN (wWho (fun d => s (11 + d) 0) (fun d => s (11 + d) 1) (fun d => s (11 + d) 2) (s 9 3 ||| s 9 4) (s 9 0) b N).toBitVec.toNat)) := by
  refine z_met (by decide) (Nat.le_of_ble_eq_true rfl) ?_
  intro X hl C E hnm
  show Zf X B mX11_away s t 0 [(0, .ref (B.1 + 0)), (1, .int b), (2, .int 2)] []
  refine z_iload_n C dX11_away_0 1 rfl rfl ?_
  refine f_callSr C hl (As := [.int b]) (rest := []) (c_X11_isBundle l B s t b) (zCB (nA := 1) C rfl rfl tw_287 tw_1 tw_285 (by decide +kernel) ⟨Nat.le_of_ble_eq_true rfl, Nat.le_of_ble_eq_true rfl⟩) tw_286 rfl rfl (Nat.le_of_ble_eq_true rfl) dX11_away_1 (Nat.zero_le _) ?_
  refine z_ifb_eq C 16 dX11_away_4 (by decide) (fun hbr => absurd hbr (by rw [g]; decide)) (fun _ => ?_)
  refine z_iload_n C dX11_away_7 2 rfl rfl ?_
  refine z_bipush C dX11_away_8 kb_10 ?_
  refine f_callSr C hl (As := [.int 2, .int 10]) (rest := []) (c_X11_within l B s t 2 10) (zCB (nA := 2) C rfl rfl tw_268 tw_1 tw_266 (by decide +kernel) ⟨Nat.le_of_ble_eq_true rfl, Nat.le_of_ble_eq_true rfl⟩) tw_267 rfl rfl (Nat.le_of_ble_eq_true rfl) dX11_away_10 (Nat.zero_le _) ?_
  refine z_ifb_ne C 23 dX11_away_13 (by decide) (fun _ => ?_) (fun hbr => Bool.noConfusion (show false = true from hbr.symm.trans (by decide)))
  refine z_iload_n C dX11_away_23 2 rfl rfl ?_
  refine z_istore_n C [(3, .int 2), (0, .ref (B.1 + 0)), (1, .int b), (2, .int 2)] dX11_away_24 rfl (by decide) rfl ?_
  refine z_bipush C dX11_away_25 kb_10 ?_
  refine z_istore C [(4, .int 10), (3, .int 2), (0, .ref (B.1 + 0)), (1, .int b), (2, .int 2)] dX11_away_27 (by decide) rfl ?_
  refine z_iload_n C dX11_away_29 1 rfl rfl ?_
  refine z_iconst C dX11_away_30 ki_2 ?_
  refine z_irem C dX11_away_31 (by decide) ?_
  refine f_topi (y := 0) (by decide) ?_
  refine z_if_ne C 45 dX11_away_32 (by decide) (fun hbr => absurd (by decide) hbr) (fun _ => ?_)
  refine z_iload_n C dX11_away_35 1 rfl rfl ?_
  refine z_iconst C dX11_away_36 ki_2 ?_
  refine z_idiv C dX11_away_37 (by decide) ?_
  refine f_topi (y := 1) (by decide) ?_
  refine z_istore_n C [(3, .int 1), (4, .int 10), (0, .ref (B.1 + 0)), (1, .int b), (2, .int 2)] dX11_away_38 rfl (by decide) rfl ?_
  refine z_iload C dX11_away_39 1 rfl ?_
  refine z_iconst C dX11_away_41 ki_2 ?_
  refine z_idiv C dX11_away_42 (by decide) ?_
  refine f_topi (y := 5) (by decide) ?_
  refine z_istore C [(4, .int 5), (3, .int 1), (0, .ref (B.1 + 0)), (1, .int b), (2, .int 2)] dX11_away_43 (by decide) rfl ?_
  refine z_iload_n C dX11_away_45 1 rfl rfl ?_
  refine z_iconst C dX11_away_46 ki_5 ?_
  refine z_irem C dX11_away_47 (by decide) ?_
  refine f_topi (y := 1) (by decide) ?_
  refine z_if_ne C 61 dX11_away_48 (by decide) (fun _ => ?_) (fun hbr => absurd hbr (by decide))
  refine z_aload_n C dX11_away_61 2 rfl rfl ?_
  refine z_aload_n C dX11_away_62 2 rfl rfl ?_
  refine f_get11 C 1 (v := .ref (B.1 + 8)) (by decide) tw_226 rfl zk_0 zb_0 rfl dX11_away_63 ?_
  refine f_get1 C 0 (v := .ref (B.1 + 9)) (by decide) tw_168 rfl zk_8 zb_8 rfl dX11_away_66 ?_
  refine z_iload_n C dX11_away_69 3 rfl rfl ?_
  refine f_callVr C hl (As := [.ref (B.1 + 9), .int b]) (rest := []) (c_X11_stoppers l B s t 9 zk_9 zb_9 b (wIn_r8 g) N hN h6 hK) zb_0 (zg_11 zk_0) rfl (zCB (nA := 2) C rfl rfl tw_473 tw_1 tw_470 (by decide +kernel) ⟨Nat.le_of_ble_eq_true rfl, Nat.le_of_ble_eq_true rfl⟩) tw_472 tp_10 rfl rfl (Nat.le_of_ble_eq_true rfl) dX11_away_70 (Nat.zero_le _) ?_
  refine f_callSr C hl (As := [.int (wWho (fun d => s (11 + d) 0) (fun d => s (11 + d) 1) (fun d => s (11 + d) 2) (s 9 3 ||| s 9 4) (s 9 0) b N)]) (rest := []) (c_J6_bitCount_0f7a4 l B s t (wWho (fun d => s (11 + d) 0) (fun d => s (11 + d) 1) (fun d => s (11 + d) 2) (s 9 3 ||| s 9 4) (s 9 0) b N) (wWho_r8 _ _ _ _ _ _ _ (by omega))) (zCB (nA := 1) C rfl rfl tw_486 tw_19 tw_484 (by decide +kernel) ⟨Nat.le_of_ble_eq_true rfl, Nat.le_of_ble_eq_true rfl⟩) tw_485 rfl rfl (Nat.le_of_ble_eq_true rfl) dX11_away_73 (Nat.zero_le _) ?_
  refine z_istore C [(5, .int (wPop (wWho (fun d => s (11 + d) 0) (fun d => s (11 + d) 1) (fun d => s (11 + d) 2) (s 9 3 ||| s 9 4) (s 9 0) b N))), (4, .int 5), (3, .int 1), (0, .ref (B.1 + 0)), (1, .int b), (2, .int 2)] dX11_away_76 (by decide) rfl ?_
  refine z_aload_n C dX11_away_78 3 rfl rfl ?_
  refine z_lconst C dX11_away_79 kl_1 ?_
  refine f_put11_7 C tw_232 zk_0 zb_0 dX11_away_80 ?_
  refine z_aload_n C dX11_away_83 3 rfl rfl ?_
  refine z_lconst C dX11_away_84 kl_1 ?_
  refine f_put11_8 C tw_233 zk_0 zb_0 dX11_away_85 ?_
  refine z_iconst C dX11_away_88 ki_0 ?_
  refine z_istore C [(6, .int 0), (5, .int (wPop (wWho (fun d => s (11 + d) 0) (fun d => s (11 + d) 1) (fun d => s (11 + d) 2) (s 9 3 ||| s 9 4) (s 9 0) b N))), (4, .int 5), (3, .int 1), (0, .ref (B.1 + 0)), (1, .int b), (2, .int 2)] dX11_away_89 (by decide) rfl ?_
  exact z_lv [0, 1, 2, 3, 4, 5, 6] rfl (l_X11_away hl C b 2 1 5 (pcN (wWho (fun d => s (11 + d) 0) (fun d => s (11 + d) 1) (fun d => s (11 + d) 2) (s 9 3 ||| s 9 4) (s 9 0) b N).toBitVec.toNat) (pcN_lt _) E _ 0 (Nat.zero_add _))
set_option maxRecDepth 100000 in
set_option maxHeartbeats 4000000 in
theorem c_X11_away_3 (l : Launch) (B : zB) (s : zS) (t : zL) (b : Int32) (g : wIn b 255 = true) (N : Nat) (hN : s 8 4 = nI N) (h6 : N ≤ 6) (hK : ∀ d, d < N → ∃ c, c < 6 ∧ s (11 + d) 0 = nI c) : zD l B mX11_away s t [.ref (B.1 + 0), .int b, .int 3] (some (.int 1)) s (wFr t 3 10 (pcN (wWho (fun d => s (11 + d) 0) (fun d => s (11 + d) 1) (fun d => s (11 + d) 2) (s 9 3 ||| s 9 4) (s 9 0) b N).toBitVec.toNat)) := by
  refine z_met (by decide) (Nat.le_of_ble_eq_true rfl) ?_
  intro X hl C E hnm
  show Zf X B mX11_away s t 0 [(0, .ref (B.1 + 0)), (1, .int b), (2, .int 3)] []
  refine z_iload_n C dX11_away_0 1 rfl rfl ?_
  refine f_callSr C hl (As := [.int b]) (rest := []) (c_X11_isBundle l B s t b) (zCB (nA := 1) C rfl rfl tw_287 tw_1 tw_285 (by decide +kernel) ⟨Nat.le_of_ble_eq_true rfl, Nat.le_of_ble_eq_true rfl⟩) tw_286 rfl rfl (Nat.le_of_ble_eq_true rfl) dX11_away_1 (Nat.zero_le _) ?_
  refine z_ifb_eq C 16 dX11_away_4 (by decide) (fun hbr => absurd hbr (by rw [g]; decide)) (fun _ => ?_)
  refine z_iload_n C dX11_away_7 2 rfl rfl ?_
  refine z_bipush C dX11_away_8 kb_10 ?_
  refine f_callSr C hl (As := [.int 3, .int 10]) (rest := []) (c_X11_within l B s t 3 10) (zCB (nA := 2) C rfl rfl tw_268 tw_1 tw_266 (by decide +kernel) ⟨Nat.le_of_ble_eq_true rfl, Nat.le_of_ble_eq_true rfl⟩) tw_267 rfl rfl (Nat.le_of_ble_eq_true rfl) dX11_away_10 (Nat.zero_le _) ?_
  refine z_ifb_ne C 23 dX11_away_13 (by decide) (fun _ => ?_) (fun hbr => Bool.noConfusion (show false = true from hbr.symm.trans (by decide)))
  refine z_iload_n C dX11_away_23 2 rfl rfl ?_
  refine z_istore_n C [(3, .int 3), (0, .ref (B.1 + 0)), (1, .int b), (2, .int 3)] dX11_away_24 rfl (by decide) rfl ?_
  refine z_bipush C dX11_away_25 kb_10 ?_
  refine z_istore C [(4, .int 10), (3, .int 3), (0, .ref (B.1 + 0)), (1, .int b), (2, .int 3)] dX11_away_27 (by decide) rfl ?_
  refine z_iload_n C dX11_away_29 1 rfl rfl ?_
  refine z_iconst C dX11_away_30 ki_2 ?_
  refine z_irem C dX11_away_31 (by decide) ?_
  refine f_topi (y := 1) (by decide) ?_
  refine z_if_ne C 45 dX11_away_32 (by decide) (fun _ => ?_) (fun hbr => absurd hbr (by decide))
  refine z_iload_n C dX11_away_45 1 rfl rfl ?_
  refine z_iconst C dX11_away_46 ki_5 ?_
  refine z_irem C dX11_away_47 (by decide) ?_
  refine f_topi (y := 3) (by decide) ?_
  refine z_if_ne C 61 dX11_away_48 (by decide) (fun _ => ?_) (fun hbr => absurd hbr (by decide))
  refine z_aload_n C dX11_away_61 2 rfl rfl ?_
  refine z_aload_n C dX11_away_62 2 rfl rfl ?_
  refine f_get11 C 1 (v := .ref (B.1 + 8)) (by decide) tw_226 rfl zk_0 zb_0 rfl dX11_away_63 ?_
  refine f_get1 C 0 (v := .ref (B.1 + 9)) (by decide) tw_168 rfl zk_8 zb_8 rfl dX11_away_66 ?_
  refine z_iload_n C dX11_away_69 3 rfl rfl ?_
  refine f_callVr C hl (As := [.ref (B.1 + 9), .int b]) (rest := []) (c_X11_stoppers l B s t 9 zk_9 zb_9 b (wIn_r8 g) N hN h6 hK) zb_0 (zg_11 zk_0) rfl (zCB (nA := 2) C rfl rfl tw_473 tw_1 tw_470 (by decide +kernel) ⟨Nat.le_of_ble_eq_true rfl, Nat.le_of_ble_eq_true rfl⟩) tw_472 tp_10 rfl rfl (Nat.le_of_ble_eq_true rfl) dX11_away_70 (Nat.zero_le _) ?_
  refine f_callSr C hl (As := [.int (wWho (fun d => s (11 + d) 0) (fun d => s (11 + d) 1) (fun d => s (11 + d) 2) (s 9 3 ||| s 9 4) (s 9 0) b N)]) (rest := []) (c_J6_bitCount_0f7a4 l B s t (wWho (fun d => s (11 + d) 0) (fun d => s (11 + d) 1) (fun d => s (11 + d) 2) (s 9 3 ||| s 9 4) (s 9 0) b N) (wWho_r8 _ _ _ _ _ _ _ (by omega))) (zCB (nA := 1) C rfl rfl tw_486 tw_19 tw_484 (by decide +kernel) ⟨Nat.le_of_ble_eq_true rfl, Nat.le_of_ble_eq_true rfl⟩) tw_485 rfl rfl (Nat.le_of_ble_eq_true rfl) dX11_away_73 (Nat.zero_le _) ?_
  refine z_istore C [(5, .int (wPop (wWho (fun d => s (11 + d) 0) (fun d => s (11 + d) 1) (fun d => s (11 + d) 2) (s 9 3 ||| s 9 4) (s 9 0) b N))), (4, .int 10), (3, .int 3), (0, .ref (B.1 + 0)), (1, .int b), (2, .int 3)] dX11_away_76 (by decide) rfl ?_
  refine z_aload_n C dX11_away_78 3 rfl rfl ?_
  refine z_lconst C dX11_away_79 kl_1 ?_
  refine f_put11_7 C tw_232 zk_0 zb_0 dX11_away_80 ?_
  refine z_aload_n C dX11_away_83 3 rfl rfl ?_
  refine z_lconst C dX11_away_84 kl_1 ?_
  refine f_put11_8 C tw_233 zk_0 zb_0 dX11_away_85 ?_
  refine z_iconst C dX11_away_88 ki_0 ?_
  refine z_istore C [(6, .int 0), (5, .int (wPop (wWho (fun d => s (11 + d) 0) (fun d => s (11 + d) 1) (fun d => s (11 + d) 2) (s 9 3 ||| s 9 4) (s 9 0) b N))), (4, .int 10), (3, .int 3), (0, .ref (B.1 + 0)), (1, .int b), (2, .int 3)] dX11_away_89 (by decide) rfl ?_
  exact z_lv [0, 1, 2, 3, 4, 5, 6] rfl (l_X11_away hl C b 3 3 10 (pcN (wWho (fun d => s (11 + d) 0) (fun d => s (11 + d) 1) (fun d => s (11 + d) 2) (s 9 3 ||| s 9 4) (s 9 0) b N).toBitVec.toNat) (pcN_lt _) E _ 0 (Nat.zero_add _))
set_option maxRecDepth 100000 in
set_option maxHeartbeats 4000000 in
theorem c_X11_away_4 (l : Launch) (B : zB) (s : zS) (t : zL) (b : Int32) (g : wIn b 255 = true) (N : Nat) (hN : s 8 4 = nI N) (h6 : N ≤ 6) (hK : ∀ d, d < N → ∃ c, c < 6 ∧ s (11 + d) 0 = nI c) : zD l B mX11_away s t [.ref (B.1 + 0), .int b, .int 4] (some (.int 1)) s (wFr t 2 5 (pcN (wWho (fun d => s (11 + d) 0) (fun d => s (11 + d) 1) (fun d => s (11 + d) 2) (s 9 3 ||| s 9 4) (s 9 0) b N).toBitVec.toNat)) := by
  refine z_met (by decide) (Nat.le_of_ble_eq_true rfl) ?_
  intro X hl C E hnm
  show Zf X B mX11_away s t 0 [(0, .ref (B.1 + 0)), (1, .int b), (2, .int 4)] []
  refine z_iload_n C dX11_away_0 1 rfl rfl ?_
  refine f_callSr C hl (As := [.int b]) (rest := []) (c_X11_isBundle l B s t b) (zCB (nA := 1) C rfl rfl tw_287 tw_1 tw_285 (by decide +kernel) ⟨Nat.le_of_ble_eq_true rfl, Nat.le_of_ble_eq_true rfl⟩) tw_286 rfl rfl (Nat.le_of_ble_eq_true rfl) dX11_away_1 (Nat.zero_le _) ?_
  refine z_ifb_eq C 16 dX11_away_4 (by decide) (fun hbr => absurd hbr (by rw [g]; decide)) (fun _ => ?_)
  refine z_iload_n C dX11_away_7 2 rfl rfl ?_
  refine z_bipush C dX11_away_8 kb_10 ?_
  refine f_callSr C hl (As := [.int 4, .int 10]) (rest := []) (c_X11_within l B s t 4 10) (zCB (nA := 2) C rfl rfl tw_268 tw_1 tw_266 (by decide +kernel) ⟨Nat.le_of_ble_eq_true rfl, Nat.le_of_ble_eq_true rfl⟩) tw_267 rfl rfl (Nat.le_of_ble_eq_true rfl) dX11_away_10 (Nat.zero_le _) ?_
  refine z_ifb_ne C 23 dX11_away_13 (by decide) (fun _ => ?_) (fun hbr => Bool.noConfusion (show false = true from hbr.symm.trans (by decide)))
  refine z_iload_n C dX11_away_23 2 rfl rfl ?_
  refine z_istore_n C [(3, .int 4), (0, .ref (B.1 + 0)), (1, .int b), (2, .int 4)] dX11_away_24 rfl (by decide) rfl ?_
  refine z_bipush C dX11_away_25 kb_10 ?_
  refine z_istore C [(4, .int 10), (3, .int 4), (0, .ref (B.1 + 0)), (1, .int b), (2, .int 4)] dX11_away_27 (by decide) rfl ?_
  refine z_iload_n C dX11_away_29 1 rfl rfl ?_
  refine z_iconst C dX11_away_30 ki_2 ?_
  refine z_irem C dX11_away_31 (by decide) ?_
  refine f_topi (y := 0) (by decide) ?_
  refine z_if_ne C 45 dX11_away_32 (by decide) (fun hbr => absurd (by decide) hbr) (fun _ => ?_)
  refine z_iload_n C dX11_away_35 1 rfl rfl ?_
  refine z_iconst C dX11_away_36 ki_2 ?_
  refine z_idiv C dX11_away_37 (by decide) ?_
  refine f_topi (y := 2) (by decide) ?_
  refine z_istore_n C [(3, .int 2), (4, .int 10), (0, .ref (B.1 + 0)), (1, .int b), (2, .int 4)] dX11_away_38 rfl (by decide) rfl ?_
  refine z_iload C dX11_away_39 1 rfl ?_
  refine z_iconst C dX11_away_41 ki_2 ?_
  refine z_idiv C dX11_away_42 (by decide) ?_
  refine f_topi (y := 5) (by decide) ?_
  refine z_istore C [(4, .int 5), (3, .int 2), (0, .ref (B.1 + 0)), (1, .int b), (2, .int 4)] dX11_away_43 (by decide) rfl ?_
  refine z_iload_n C dX11_away_45 1 rfl rfl ?_
  refine z_iconst C dX11_away_46 ki_5 ?_
  refine z_irem C dX11_away_47 (by decide) ?_
  refine f_topi (y := 2) (by decide) ?_
  refine z_if_ne C 61 dX11_away_48 (by decide) (fun _ => ?_) (fun hbr => absurd hbr (by decide))
  refine z_aload_n C dX11_away_61 2 rfl rfl ?_
  refine z_aload_n C dX11_away_62 2 rfl rfl ?_
  refine f_get11 C 1 (v := .ref (B.1 + 8)) (by decide) tw_226 rfl zk_0 zb_0 rfl dX11_away_63 ?_
  refine f_get1 C 0 (v := .ref (B.1 + 9)) (by decide) tw_168 rfl zk_8 zb_8 rfl dX11_away_66 ?_
  refine z_iload_n C dX11_away_69 3 rfl rfl ?_
  refine f_callVr C hl (As := [.ref (B.1 + 9), .int b]) (rest := []) (c_X11_stoppers l B s t 9 zk_9 zb_9 b (wIn_r8 g) N hN h6 hK) zb_0 (zg_11 zk_0) rfl (zCB (nA := 2) C rfl rfl tw_473 tw_1 tw_470 (by decide +kernel) ⟨Nat.le_of_ble_eq_true rfl, Nat.le_of_ble_eq_true rfl⟩) tw_472 tp_10 rfl rfl (Nat.le_of_ble_eq_true rfl) dX11_away_70 (Nat.zero_le _) ?_
  refine f_callSr C hl (As := [.int (wWho (fun d => s (11 + d) 0) (fun d => s (11 + d) 1) (fun d => s (11 + d) 2) (s 9 3 ||| s 9 4) (s 9 0) b N)]) (rest := []) (c_J6_bitCount_0f7a4 l B s t (wWho (fun d => s (11 + d) 0) (fun d => s (11 + d) 1) (fun d => s (11 + d) 2) (s 9 3 ||| s 9 4) (s 9 0) b N) (wWho_r8 _ _ _ _ _ _ _ (by omega))) (zCB (nA := 1) C rfl rfl tw_486 tw_19 tw_484 (by decide +kernel) ⟨Nat.le_of_ble_eq_true rfl, Nat.le_of_ble_eq_true rfl⟩) tw_485 rfl rfl (Nat.le_of_ble_eq_true rfl) dX11_away_73 (Nat.zero_le _) ?_
  refine z_istore C [(5, .int (wPop (wWho (fun d => s (11 + d) 0) (fun d => s (11 + d) 1) (fun d => s (11 + d) 2) (s 9 3 ||| s 9 4) (s 9 0) b N))), (4, .int 5), (3, .int 2), (0, .ref (B.1 + 0)), (1, .int b), (2, .int 4)] dX11_away_76 (by decide) rfl ?_
  refine z_aload_n C dX11_away_78 3 rfl rfl ?_
  refine z_lconst C dX11_away_79 kl_1 ?_
  refine f_put11_7 C tw_232 zk_0 zb_0 dX11_away_80 ?_
  refine z_aload_n C dX11_away_83 3 rfl rfl ?_
  refine z_lconst C dX11_away_84 kl_1 ?_
  refine f_put11_8 C tw_233 zk_0 zb_0 dX11_away_85 ?_
  refine z_iconst C dX11_away_88 ki_0 ?_
  refine z_istore C [(6, .int 0), (5, .int (wPop (wWho (fun d => s (11 + d) 0) (fun d => s (11 + d) 1) (fun d => s (11 + d) 2) (s 9 3 ||| s 9 4) (s 9 0) b N))), (4, .int 5), (3, .int 2), (0, .ref (B.1 + 0)), (1, .int b), (2, .int 4)] dX11_away_89 (by decide) rfl ?_
  exact z_lv [0, 1, 2, 3, 4, 5, 6] rfl (l_X11_away hl C b 4 2 5 (pcN (wWho (fun d => s (11 + d) 0) (fun d => s (11 + d) 1) (fun d => s (11 + d) 2) (s 9 3 ||| s 9 4) (s 9 0) b N).toBitVec.toNat) (pcN_lt _) E _ 0 (Nat.zero_add _))
set_option maxRecDepth 100000 in
set_option maxHeartbeats 4000000 in
theorem c_X11_away_5 (l : Launch) (B : zB) (s : zS) (t : zL) (b : Int32) (g : wIn b 255 = true) (N : Nat) (hN : s 8 4 = nI N) (h6 : N ≤ 6) (hK : ∀ d, d < N → ∃ c, c < 6 ∧ s (11 + d) 0 = nI c) : zD l B mX11_away s t [.ref (B.1 + 0), .int b, .int 5] (some (.int 1)) s (wFr t 1 2 (pcN (wWho (fun d => s (11 + d) 0) (fun d => s (11 + d) 1) (fun d => s (11 + d) 2) (s 9 3 ||| s 9 4) (s 9 0) b N).toBitVec.toNat)) := by
  refine z_met (by decide) (Nat.le_of_ble_eq_true rfl) ?_
  intro X hl C E hnm
  show Zf X B mX11_away s t 0 [(0, .ref (B.1 + 0)), (1, .int b), (2, .int 5)] []
  refine z_iload_n C dX11_away_0 1 rfl rfl ?_
  refine f_callSr C hl (As := [.int b]) (rest := []) (c_X11_isBundle l B s t b) (zCB (nA := 1) C rfl rfl tw_287 tw_1 tw_285 (by decide +kernel) ⟨Nat.le_of_ble_eq_true rfl, Nat.le_of_ble_eq_true rfl⟩) tw_286 rfl rfl (Nat.le_of_ble_eq_true rfl) dX11_away_1 (Nat.zero_le _) ?_
  refine z_ifb_eq C 16 dX11_away_4 (by decide) (fun hbr => absurd hbr (by rw [g]; decide)) (fun _ => ?_)
  refine z_iload_n C dX11_away_7 2 rfl rfl ?_
  refine z_bipush C dX11_away_8 kb_10 ?_
  refine f_callSr C hl (As := [.int 5, .int 10]) (rest := []) (c_X11_within l B s t 5 10) (zCB (nA := 2) C rfl rfl tw_268 tw_1 tw_266 (by decide +kernel) ⟨Nat.le_of_ble_eq_true rfl, Nat.le_of_ble_eq_true rfl⟩) tw_267 rfl rfl (Nat.le_of_ble_eq_true rfl) dX11_away_10 (Nat.zero_le _) ?_
  refine z_ifb_ne C 23 dX11_away_13 (by decide) (fun _ => ?_) (fun hbr => Bool.noConfusion (show false = true from hbr.symm.trans (by decide)))
  refine z_iload_n C dX11_away_23 2 rfl rfl ?_
  refine z_istore_n C [(3, .int 5), (0, .ref (B.1 + 0)), (1, .int b), (2, .int 5)] dX11_away_24 rfl (by decide) rfl ?_
  refine z_bipush C dX11_away_25 kb_10 ?_
  refine z_istore C [(4, .int 10), (3, .int 5), (0, .ref (B.1 + 0)), (1, .int b), (2, .int 5)] dX11_away_27 (by decide) rfl ?_
  refine z_iload_n C dX11_away_29 1 rfl rfl ?_
  refine z_iconst C dX11_away_30 ki_2 ?_
  refine z_irem C dX11_away_31 (by decide) ?_
  refine f_topi (y := 1) (by decide) ?_
  refine z_if_ne C 45 dX11_away_32 (by decide) (fun _ => ?_) (fun hbr => absurd hbr (by decide))
  refine z_iload_n C dX11_away_45 1 rfl rfl ?_
  refine z_iconst C dX11_away_46 ki_5 ?_
  refine z_irem C dX11_away_47 (by decide) ?_
  refine f_topi (y := 0) (by decide) ?_
  refine z_if_ne C 61 dX11_away_48 (by decide) (fun hbr => absurd (by decide) hbr) (fun _ => ?_)
  refine z_iload_n C dX11_away_51 1 rfl rfl ?_
  refine z_iconst C dX11_away_52 ki_5 ?_
  refine z_idiv C dX11_away_53 (by decide) ?_
  refine f_topi (y := 1) (by decide) ?_
  refine z_istore_n C [(3, .int 1), (4, .int 10), (0, .ref (B.1 + 0)), (1, .int b), (2, .int 5)] dX11_away_54 rfl (by decide) rfl ?_
  refine z_iload C dX11_away_55 1 rfl ?_
  refine z_iconst C dX11_away_57 ki_5 ?_
  refine z_idiv C dX11_away_58 (by decide) ?_
  refine f_topi (y := 2) (by decide) ?_
  refine z_istore C [(4, .int 2), (3, .int 1), (0, .ref (B.1 + 0)), (1, .int b), (2, .int 5)] dX11_away_59 (by decide) rfl ?_
  refine z_aload_n C dX11_away_61 2 rfl rfl ?_
  refine z_aload_n C dX11_away_62 2 rfl rfl ?_
  refine f_get11 C 1 (v := .ref (B.1 + 8)) (by decide) tw_226 rfl zk_0 zb_0 rfl dX11_away_63 ?_
  refine f_get1 C 0 (v := .ref (B.1 + 9)) (by decide) tw_168 rfl zk_8 zb_8 rfl dX11_away_66 ?_
  refine z_iload_n C dX11_away_69 3 rfl rfl ?_
  refine f_callVr C hl (As := [.ref (B.1 + 9), .int b]) (rest := []) (c_X11_stoppers l B s t 9 zk_9 zb_9 b (wIn_r8 g) N hN h6 hK) zb_0 (zg_11 zk_0) rfl (zCB (nA := 2) C rfl rfl tw_473 tw_1 tw_470 (by decide +kernel) ⟨Nat.le_of_ble_eq_true rfl, Nat.le_of_ble_eq_true rfl⟩) tw_472 tp_10 rfl rfl (Nat.le_of_ble_eq_true rfl) dX11_away_70 (Nat.zero_le _) ?_
  refine f_callSr C hl (As := [.int (wWho (fun d => s (11 + d) 0) (fun d => s (11 + d) 1) (fun d => s (11 + d) 2) (s 9 3 ||| s 9 4) (s 9 0) b N)]) (rest := []) (c_J6_bitCount_0f7a4 l B s t (wWho (fun d => s (11 + d) 0) (fun d => s (11 + d) 1) (fun d => s (11 + d) 2) (s 9 3 ||| s 9 4) (s 9 0) b N) (wWho_r8 _ _ _ _ _ _ _ (by omega))) (zCB (nA := 1) C rfl rfl tw_486 tw_19 tw_484 (by decide +kernel) ⟨Nat.le_of_ble_eq_true rfl, Nat.le_of_ble_eq_true rfl⟩) tw_485 rfl rfl (Nat.le_of_ble_eq_true rfl) dX11_away_73 (Nat.zero_le _) ?_
  refine z_istore C [(5, .int (wPop (wWho (fun d => s (11 + d) 0) (fun d => s (11 + d) 1) (fun d => s (11 + d) 2) (s 9 3 ||| s 9 4) (s 9 0) b N))), (4, .int 2), (3, .int 1), (0, .ref (B.1 + 0)), (1, .int b), (2, .int 5)] dX11_away_76 (by decide) rfl ?_
  refine z_aload_n C dX11_away_78 3 rfl rfl ?_
  refine z_lconst C dX11_away_79 kl_1 ?_
  refine f_put11_7 C tw_232 zk_0 zb_0 dX11_away_80 ?_
  refine z_aload_n C dX11_away_83 3 rfl rfl ?_
  refine z_lconst C dX11_away_84 kl_1 ?_
  refine f_put11_8 C tw_233 zk_0 zb_0 dX11_away_85 ?_
  refine z_iconst C dX11_away_88 ki_0 ?_
  refine z_istore C [(6, .int 0), (5, .int (wPop (wWho (fun d => s (11 + d) 0) (fun d => s (11 + d) 1) (fun d => s (11 + d) 2) (s 9 3 ||| s 9 4) (s 9 0) b N))), (4, .int 2), (3, .int 1), (0, .ref (B.1 + 0)), (1, .int b), (2, .int 5)] dX11_away_89 (by decide) rfl ?_
  exact z_lv [0, 1, 2, 3, 4, 5, 6] rfl (l_X11_away hl C b 5 1 2 (pcN (wWho (fun d => s (11 + d) 0) (fun d => s (11 + d) 1) (fun d => s (11 + d) 2) (s 9 3 ||| s 9 4) (s 9 0) b N).toBitVec.toNat) (pcN_lt _) E _ 0 (Nat.zero_add _))
set_option maxRecDepth 100000 in
set_option maxHeartbeats 4000000 in
theorem c_X11_away_6 (l : Launch) (B : zB) (s : zS) (t : zL) (b : Int32) (g : wIn b 255 = true) (N : Nat) (hN : s 8 4 = nI N) (h6 : N ≤ 6) (hK : ∀ d, d < N → ∃ c, c < 6 ∧ s (11 + d) 0 = nI c) : zD l B mX11_away s t [.ref (B.1 + 0), .int b, .int 6] (some (.int 1)) s (wFr t 3 5 (pcN (wWho (fun d => s (11 + d) 0) (fun d => s (11 + d) 1) (fun d => s (11 + d) 2) (s 9 3 ||| s 9 4) (s 9 0) b N).toBitVec.toNat)) := by
  refine z_met (by decide) (Nat.le_of_ble_eq_true rfl) ?_
  intro X hl C E hnm
  show Zf X B mX11_away s t 0 [(0, .ref (B.1 + 0)), (1, .int b), (2, .int 6)] []
  refine z_iload_n C dX11_away_0 1 rfl rfl ?_
  refine f_callSr C hl (As := [.int b]) (rest := []) (c_X11_isBundle l B s t b) (zCB (nA := 1) C rfl rfl tw_287 tw_1 tw_285 (by decide +kernel) ⟨Nat.le_of_ble_eq_true rfl, Nat.le_of_ble_eq_true rfl⟩) tw_286 rfl rfl (Nat.le_of_ble_eq_true rfl) dX11_away_1 (Nat.zero_le _) ?_
  refine z_ifb_eq C 16 dX11_away_4 (by decide) (fun hbr => absurd hbr (by rw [g]; decide)) (fun _ => ?_)
  refine z_iload_n C dX11_away_7 2 rfl rfl ?_
  refine z_bipush C dX11_away_8 kb_10 ?_
  refine f_callSr C hl (As := [.int 6, .int 10]) (rest := []) (c_X11_within l B s t 6 10) (zCB (nA := 2) C rfl rfl tw_268 tw_1 tw_266 (by decide +kernel) ⟨Nat.le_of_ble_eq_true rfl, Nat.le_of_ble_eq_true rfl⟩) tw_267 rfl rfl (Nat.le_of_ble_eq_true rfl) dX11_away_10 (Nat.zero_le _) ?_
  refine z_ifb_ne C 23 dX11_away_13 (by decide) (fun _ => ?_) (fun hbr => Bool.noConfusion (show false = true from hbr.symm.trans (by decide)))
  refine z_iload_n C dX11_away_23 2 rfl rfl ?_
  refine z_istore_n C [(3, .int 6), (0, .ref (B.1 + 0)), (1, .int b), (2, .int 6)] dX11_away_24 rfl (by decide) rfl ?_
  refine z_bipush C dX11_away_25 kb_10 ?_
  refine z_istore C [(4, .int 10), (3, .int 6), (0, .ref (B.1 + 0)), (1, .int b), (2, .int 6)] dX11_away_27 (by decide) rfl ?_
  refine z_iload_n C dX11_away_29 1 rfl rfl ?_
  refine z_iconst C dX11_away_30 ki_2 ?_
  refine z_irem C dX11_away_31 (by decide) ?_
  refine f_topi (y := 0) (by decide) ?_
  refine z_if_ne C 45 dX11_away_32 (by decide) (fun hbr => absurd (by decide) hbr) (fun _ => ?_)
  refine z_iload_n C dX11_away_35 1 rfl rfl ?_
  refine z_iconst C dX11_away_36 ki_2 ?_
  refine z_idiv C dX11_away_37 (by decide) ?_
  refine f_topi (y := 3) (by decide) ?_
  refine z_istore_n C [(3, .int 3), (4, .int 10), (0, .ref (B.1 + 0)), (1, .int b), (2, .int 6)] dX11_away_38 rfl (by decide) rfl ?_
  refine z_iload C dX11_away_39 1 rfl ?_
  refine z_iconst C dX11_away_41 ki_2 ?_
  refine z_idiv C dX11_away_42 (by decide) ?_
  refine f_topi (y := 5) (by decide) ?_
  refine z_istore C [(4, .int 5), (3, .int 3), (0, .ref (B.1 + 0)), (1, .int b), (2, .int 6)] dX11_away_43 (by decide) rfl ?_
  refine z_iload_n C dX11_away_45 1 rfl rfl ?_
  refine z_iconst C dX11_away_46 ki_5 ?_
  refine z_irem C dX11_away_47 (by decide) ?_
  refine f_topi (y := 3) (by decide) ?_
  refine z_if_ne C 61 dX11_away_48 (by decide) (fun _ => ?_) (fun hbr => absurd hbr (by decide))
  refine z_aload_n C dX11_away_61 2 rfl rfl ?_
  refine z_aload_n C dX11_away_62 2 rfl rfl ?_
  refine f_get11 C 1 (v := .ref (B.1 + 8)) (by decide) tw_226 rfl zk_0 zb_0 rfl dX11_away_63 ?_
  refine f_get1 C 0 (v := .ref (B.1 + 9)) (by decide) tw_168 rfl zk_8 zb_8 rfl dX11_away_66 ?_
  refine z_iload_n C dX11_away_69 3 rfl rfl ?_
  refine f_callVr C hl (As := [.ref (B.1 + 9), .int b]) (rest := []) (c_X11_stoppers l B s t 9 zk_9 zb_9 b (wIn_r8 g) N hN h6 hK) zb_0 (zg_11 zk_0) rfl (zCB (nA := 2) C rfl rfl tw_473 tw_1 tw_470 (by decide +kernel) ⟨Nat.le_of_ble_eq_true rfl, Nat.le_of_ble_eq_true rfl⟩) tw_472 tp_10 rfl rfl (Nat.le_of_ble_eq_true rfl) dX11_away_70 (Nat.zero_le _) ?_
  refine f_callSr C hl (As := [.int (wWho (fun d => s (11 + d) 0) (fun d => s (11 + d) 1) (fun d => s (11 + d) 2) (s 9 3 ||| s 9 4) (s 9 0) b N)]) (rest := []) (c_J6_bitCount_0f7a4 l B s t (wWho (fun d => s (11 + d) 0) (fun d => s (11 + d) 1) (fun d => s (11 + d) 2) (s 9 3 ||| s 9 4) (s 9 0) b N) (wWho_r8 _ _ _ _ _ _ _ (by omega))) (zCB (nA := 1) C rfl rfl tw_486 tw_19 tw_484 (by decide +kernel) ⟨Nat.le_of_ble_eq_true rfl, Nat.le_of_ble_eq_true rfl⟩) tw_485 rfl rfl (Nat.le_of_ble_eq_true rfl) dX11_away_73 (Nat.zero_le _) ?_
  refine z_istore C [(5, .int (wPop (wWho (fun d => s (11 + d) 0) (fun d => s (11 + d) 1) (fun d => s (11 + d) 2) (s 9 3 ||| s 9 4) (s 9 0) b N))), (4, .int 5), (3, .int 3), (0, .ref (B.1 + 0)), (1, .int b), (2, .int 6)] dX11_away_76 (by decide) rfl ?_
  refine z_aload_n C dX11_away_78 3 rfl rfl ?_
  refine z_lconst C dX11_away_79 kl_1 ?_
  refine f_put11_7 C tw_232 zk_0 zb_0 dX11_away_80 ?_
  refine z_aload_n C dX11_away_83 3 rfl rfl ?_
  refine z_lconst C dX11_away_84 kl_1 ?_
  refine f_put11_8 C tw_233 zk_0 zb_0 dX11_away_85 ?_
  refine z_iconst C dX11_away_88 ki_0 ?_
  refine z_istore C [(6, .int 0), (5, .int (wPop (wWho (fun d => s (11 + d) 0) (fun d => s (11 + d) 1) (fun d => s (11 + d) 2) (s 9 3 ||| s 9 4) (s 9 0) b N))), (4, .int 5), (3, .int 3), (0, .ref (B.1 + 0)), (1, .int b), (2, .int 6)] dX11_away_89 (by decide) rfl ?_
  exact z_lv [0, 1, 2, 3, 4, 5, 6] rfl (l_X11_away hl C b 6 3 5 (pcN (wWho (fun d => s (11 + d) 0) (fun d => s (11 + d) 1) (fun d => s (11 + d) 2) (s 9 3 ||| s 9 4) (s 9 0) b N).toBitVec.toNat) (pcN_lt _) E _ 0 (Nat.zero_add _))
set_option maxRecDepth 100000 in
set_option maxHeartbeats 4000000 in
theorem c_X11_away_7 (l : Launch) (B : zB) (s : zS) (t : zL) (b : Int32) (g : wIn b 255 = true) (N : Nat) (hN : s 8 4 = nI N) (h6 : N ≤ 6) (hK : ∀ d, d < N → ∃ c, c < 6 ∧ s (11 + d) 0 = nI c) : zD l B mX11_away s t [.ref (B.1 + 0), .int b, .int 7] (some (.int 1)) s (wFr t 7 10 (pcN (wWho (fun d => s (11 + d) 0) (fun d => s (11 + d) 1) (fun d => s (11 + d) 2) (s 9 3 ||| s 9 4) (s 9 0) b N).toBitVec.toNat)) := by
  refine z_met (by decide) (Nat.le_of_ble_eq_true rfl) ?_
  intro X hl C E hnm
  show Zf X B mX11_away s t 0 [(0, .ref (B.1 + 0)), (1, .int b), (2, .int 7)] []
  refine z_iload_n C dX11_away_0 1 rfl rfl ?_
  refine f_callSr C hl (As := [.int b]) (rest := []) (c_X11_isBundle l B s t b) (zCB (nA := 1) C rfl rfl tw_287 tw_1 tw_285 (by decide +kernel) ⟨Nat.le_of_ble_eq_true rfl, Nat.le_of_ble_eq_true rfl⟩) tw_286 rfl rfl (Nat.le_of_ble_eq_true rfl) dX11_away_1 (Nat.zero_le _) ?_
  refine z_ifb_eq C 16 dX11_away_4 (by decide) (fun hbr => absurd hbr (by rw [g]; decide)) (fun _ => ?_)
  refine z_iload_n C dX11_away_7 2 rfl rfl ?_
  refine z_bipush C dX11_away_8 kb_10 ?_
  refine f_callSr C hl (As := [.int 7, .int 10]) (rest := []) (c_X11_within l B s t 7 10) (zCB (nA := 2) C rfl rfl tw_268 tw_1 tw_266 (by decide +kernel) ⟨Nat.le_of_ble_eq_true rfl, Nat.le_of_ble_eq_true rfl⟩) tw_267 rfl rfl (Nat.le_of_ble_eq_true rfl) dX11_away_10 (Nat.zero_le _) ?_
  refine z_ifb_ne C 23 dX11_away_13 (by decide) (fun _ => ?_) (fun hbr => Bool.noConfusion (show false = true from hbr.symm.trans (by decide)))
  refine z_iload_n C dX11_away_23 2 rfl rfl ?_
  refine z_istore_n C [(3, .int 7), (0, .ref (B.1 + 0)), (1, .int b), (2, .int 7)] dX11_away_24 rfl (by decide) rfl ?_
  refine z_bipush C dX11_away_25 kb_10 ?_
  refine z_istore C [(4, .int 10), (3, .int 7), (0, .ref (B.1 + 0)), (1, .int b), (2, .int 7)] dX11_away_27 (by decide) rfl ?_
  refine z_iload_n C dX11_away_29 1 rfl rfl ?_
  refine z_iconst C dX11_away_30 ki_2 ?_
  refine z_irem C dX11_away_31 (by decide) ?_
  refine f_topi (y := 1) (by decide) ?_
  refine z_if_ne C 45 dX11_away_32 (by decide) (fun _ => ?_) (fun hbr => absurd hbr (by decide))
  refine z_iload_n C dX11_away_45 1 rfl rfl ?_
  refine z_iconst C dX11_away_46 ki_5 ?_
  refine z_irem C dX11_away_47 (by decide) ?_
  refine f_topi (y := 2) (by decide) ?_
  refine z_if_ne C 61 dX11_away_48 (by decide) (fun _ => ?_) (fun hbr => absurd hbr (by decide))
  refine z_aload_n C dX11_away_61 2 rfl rfl ?_
  refine z_aload_n C dX11_away_62 2 rfl rfl ?_
  refine f_get11 C 1 (v := .ref (B.1 + 8)) (by decide) tw_226 rfl zk_0 zb_0 rfl dX11_away_63 ?_
  refine f_get1 C 0 (v := .ref (B.1 + 9)) (by decide) tw_168 rfl zk_8 zb_8 rfl dX11_away_66 ?_
  refine z_iload_n C dX11_away_69 3 rfl rfl ?_
  refine f_callVr C hl (As := [.ref (B.1 + 9), .int b]) (rest := []) (c_X11_stoppers l B s t 9 zk_9 zb_9 b (wIn_r8 g) N hN h6 hK) zb_0 (zg_11 zk_0) rfl (zCB (nA := 2) C rfl rfl tw_473 tw_1 tw_470 (by decide +kernel) ⟨Nat.le_of_ble_eq_true rfl, Nat.le_of_ble_eq_true rfl⟩) tw_472 tp_10 rfl rfl (Nat.le_of_ble_eq_true rfl) dX11_away_70 (Nat.zero_le _) ?_
  refine f_callSr C hl (As := [.int (wWho (fun d => s (11 + d) 0) (fun d => s (11 + d) 1) (fun d => s (11 + d) 2) (s 9 3 ||| s 9 4) (s 9 0) b N)]) (rest := []) (c_J6_bitCount_0f7a4 l B s t (wWho (fun d => s (11 + d) 0) (fun d => s (11 + d) 1) (fun d => s (11 + d) 2) (s 9 3 ||| s 9 4) (s 9 0) b N) (wWho_r8 _ _ _ _ _ _ _ (by omega))) (zCB (nA := 1) C rfl rfl tw_486 tw_19 tw_484 (by decide +kernel) ⟨Nat.le_of_ble_eq_true rfl, Nat.le_of_ble_eq_true rfl⟩) tw_485 rfl rfl (Nat.le_of_ble_eq_true rfl) dX11_away_73 (Nat.zero_le _) ?_
  refine z_istore C [(5, .int (wPop (wWho (fun d => s (11 + d) 0) (fun d => s (11 + d) 1) (fun d => s (11 + d) 2) (s 9 3 ||| s 9 4) (s 9 0) b N))), (4, .int 10), (3, .int 7), (0, .ref (B.1 + 0)), (1, .int b), (2, .int 7)] dX11_away_76 (by decide) rfl ?_
  refine z_aload_n C dX11_away_78 3 rfl rfl ?_
  refine z_lconst C dX11_away_79 kl_1 ?_
  refine f_put11_7 C tw_232 zk_0 zb_0 dX11_away_80 ?_
  refine z_aload_n C dX11_away_83 3 rfl rfl ?_
  refine z_lconst C dX11_away_84 kl_1 ?_
  refine f_put11_8 C tw_233 zk_0 zb_0 dX11_away_85 ?_
  refine z_iconst C dX11_away_88 ki_0 ?_
  refine z_istore C [(6, .int 0), (5, .int (wPop (wWho (fun d => s (11 + d) 0) (fun d => s (11 + d) 1) (fun d => s (11 + d) 2) (s 9 3 ||| s 9 4) (s 9 0) b N))), (4, .int 10), (3, .int 7), (0, .ref (B.1 + 0)), (1, .int b), (2, .int 7)] dX11_away_89 (by decide) rfl ?_
  exact z_lv [0, 1, 2, 3, 4, 5, 6] rfl (l_X11_away hl C b 7 7 10 (pcN (wWho (fun d => s (11 + d) 0) (fun d => s (11 + d) 1) (fun d => s (11 + d) 2) (s 9 3 ||| s 9 4) (s 9 0) b N).toBitVec.toNat) (pcN_lt _) E _ 0 (Nat.zero_add _))
set_option maxRecDepth 100000 in
set_option maxHeartbeats 4000000 in
theorem c_X11_away_8 (l : Launch) (B : zB) (s : zS) (t : zL) (b : Int32) (g : wIn b 255 = true) (N : Nat) (hN : s 8 4 = nI N) (h6 : N ≤ 6) (hK : ∀ d, d < N → ∃ c, c < 6 ∧ s (11 + d) 0 = nI c) : zD l B mX11_away s t [.ref (B.1 + 0), .int b, .int 8] (some (.int 1)) s (wFr t 4 5 (pcN (wWho (fun d => s (11 + d) 0) (fun d => s (11 + d) 1) (fun d => s (11 + d) 2) (s 9 3 ||| s 9 4) (s 9 0) b N).toBitVec.toNat)) := by
  refine z_met (by decide) (Nat.le_of_ble_eq_true rfl) ?_
  intro X hl C E hnm
  show Zf X B mX11_away s t 0 [(0, .ref (B.1 + 0)), (1, .int b), (2, .int 8)] []
  refine z_iload_n C dX11_away_0 1 rfl rfl ?_
  refine f_callSr C hl (As := [.int b]) (rest := []) (c_X11_isBundle l B s t b) (zCB (nA := 1) C rfl rfl tw_287 tw_1 tw_285 (by decide +kernel) ⟨Nat.le_of_ble_eq_true rfl, Nat.le_of_ble_eq_true rfl⟩) tw_286 rfl rfl (Nat.le_of_ble_eq_true rfl) dX11_away_1 (Nat.zero_le _) ?_
  refine z_ifb_eq C 16 dX11_away_4 (by decide) (fun hbr => absurd hbr (by rw [g]; decide)) (fun _ => ?_)
  refine z_iload_n C dX11_away_7 2 rfl rfl ?_
  refine z_bipush C dX11_away_8 kb_10 ?_
  refine f_callSr C hl (As := [.int 8, .int 10]) (rest := []) (c_X11_within l B s t 8 10) (zCB (nA := 2) C rfl rfl tw_268 tw_1 tw_266 (by decide +kernel) ⟨Nat.le_of_ble_eq_true rfl, Nat.le_of_ble_eq_true rfl⟩) tw_267 rfl rfl (Nat.le_of_ble_eq_true rfl) dX11_away_10 (Nat.zero_le _) ?_
  refine z_ifb_ne C 23 dX11_away_13 (by decide) (fun _ => ?_) (fun hbr => Bool.noConfusion (show false = true from hbr.symm.trans (by decide)))
  refine z_iload_n C dX11_away_23 2 rfl rfl ?_
  refine z_istore_n C [(3, .int 8), (0, .ref (B.1 + 0)), (1, .int b), (2, .int 8)] dX11_away_24 rfl (by decide) rfl ?_
  refine z_bipush C dX11_away_25 kb_10 ?_
  refine z_istore C [(4, .int 10), (3, .int 8), (0, .ref (B.1 + 0)), (1, .int b), (2, .int 8)] dX11_away_27 (by decide) rfl ?_
  refine z_iload_n C dX11_away_29 1 rfl rfl ?_
  refine z_iconst C dX11_away_30 ki_2 ?_
  refine z_irem C dX11_away_31 (by decide) ?_
  refine f_topi (y := 0) (by decide) ?_
  refine z_if_ne C 45 dX11_away_32 (by decide) (fun hbr => absurd (by decide) hbr) (fun _ => ?_)
  refine z_iload_n C dX11_away_35 1 rfl rfl ?_
  refine z_iconst C dX11_away_36 ki_2 ?_
  refine z_idiv C dX11_away_37 (by decide) ?_
  refine f_topi (y := 4) (by decide) ?_
  refine z_istore_n C [(3, .int 4), (4, .int 10), (0, .ref (B.1 + 0)), (1, .int b), (2, .int 8)] dX11_away_38 rfl (by decide) rfl ?_
  refine z_iload C dX11_away_39 1 rfl ?_
  refine z_iconst C dX11_away_41 ki_2 ?_
  refine z_idiv C dX11_away_42 (by decide) ?_
  refine f_topi (y := 5) (by decide) ?_
  refine z_istore C [(4, .int 5), (3, .int 4), (0, .ref (B.1 + 0)), (1, .int b), (2, .int 8)] dX11_away_43 (by decide) rfl ?_
  refine z_iload_n C dX11_away_45 1 rfl rfl ?_
  refine z_iconst C dX11_away_46 ki_5 ?_
  refine z_irem C dX11_away_47 (by decide) ?_
  refine f_topi (y := 4) (by decide) ?_
  refine z_if_ne C 61 dX11_away_48 (by decide) (fun _ => ?_) (fun hbr => absurd hbr (by decide))
  refine z_aload_n C dX11_away_61 2 rfl rfl ?_
  refine z_aload_n C dX11_away_62 2 rfl rfl ?_
  refine f_get11 C 1 (v := .ref (B.1 + 8)) (by decide) tw_226 rfl zk_0 zb_0 rfl dX11_away_63 ?_
  refine f_get1 C 0 (v := .ref (B.1 + 9)) (by decide) tw_168 rfl zk_8 zb_8 rfl dX11_away_66 ?_
  refine z_iload_n C dX11_away_69 3 rfl rfl ?_
  refine f_callVr C hl (As := [.ref (B.1 + 9), .int b]) (rest := []) (c_X11_stoppers l B s t 9 zk_9 zb_9 b (wIn_r8 g) N hN h6 hK) zb_0 (zg_11 zk_0) rfl (zCB (nA := 2) C rfl rfl tw_473 tw_1 tw_470 (by decide +kernel) ⟨Nat.le_of_ble_eq_true rfl, Nat.le_of_ble_eq_true rfl⟩) tw_472 tp_10 rfl rfl (Nat.le_of_ble_eq_true rfl) dX11_away_70 (Nat.zero_le _) ?_
  refine f_callSr C hl (As := [.int (wWho (fun d => s (11 + d) 0) (fun d => s (11 + d) 1) (fun d => s (11 + d) 2) (s 9 3 ||| s 9 4) (s 9 0) b N)]) (rest := []) (c_J6_bitCount_0f7a4 l B s t (wWho (fun d => s (11 + d) 0) (fun d => s (11 + d) 1) (fun d => s (11 + d) 2) (s 9 3 ||| s 9 4) (s 9 0) b N) (wWho_r8 _ _ _ _ _ _ _ (by omega))) (zCB (nA := 1) C rfl rfl tw_486 tw_19 tw_484 (by decide +kernel) ⟨Nat.le_of_ble_eq_true rfl, Nat.le_of_ble_eq_true rfl⟩) tw_485 rfl rfl (Nat.le_of_ble_eq_true rfl) dX11_away_73 (Nat.zero_le _) ?_
  refine z_istore C [(5, .int (wPop (wWho (fun d => s (11 + d) 0) (fun d => s (11 + d) 1) (fun d => s (11 + d) 2) (s 9 3 ||| s 9 4) (s 9 0) b N))), (4, .int 5), (3, .int 4), (0, .ref (B.1 + 0)), (1, .int b), (2, .int 8)] dX11_away_76 (by decide) rfl ?_
  refine z_aload_n C dX11_away_78 3 rfl rfl ?_
  refine z_lconst C dX11_away_79 kl_1 ?_
  refine f_put11_7 C tw_232 zk_0 zb_0 dX11_away_80 ?_
  refine z_aload_n C dX11_away_83 3 rfl rfl ?_
  refine z_lconst C dX11_away_84 kl_1 ?_
  refine f_put11_8 C tw_233 zk_0 zb_0 dX11_away_85 ?_
  refine z_iconst C dX11_away_88 ki_0 ?_
  refine z_istore C [(6, .int 0), (5, .int (wPop (wWho (fun d => s (11 + d) 0) (fun d => s (11 + d) 1) (fun d => s (11 + d) 2) (s 9 3 ||| s 9 4) (s 9 0) b N))), (4, .int 5), (3, .int 4), (0, .ref (B.1 + 0)), (1, .int b), (2, .int 8)] dX11_away_89 (by decide) rfl ?_
  exact z_lv [0, 1, 2, 3, 4, 5, 6] rfl (l_X11_away hl C b 8 4 5 (pcN (wWho (fun d => s (11 + d) 0) (fun d => s (11 + d) 1) (fun d => s (11 + d) 2) (s 9 3 ||| s 9 4) (s 9 0) b N).toBitVec.toNat) (pcN_lt _) E _ 0 (Nat.zero_add _))
set_option maxRecDepth 100000 in
set_option maxHeartbeats 4000000 in
theorem c_X11_away_9 (l : Launch) (B : zB) (s : zS) (t : zL) (b : Int32) (g : wIn b 255 = true) (N : Nat) (hN : s 8 4 = nI N) (h6 : N ≤ 6) (hK : ∀ d, d < N → ∃ c, c < 6 ∧ s (11 + d) 0 = nI c) : zD l B mX11_away s t [.ref (B.1 + 0), .int b, .int 9] (some (.int 1)) s (wFr t 9 10 (pcN (wWho (fun d => s (11 + d) 0) (fun d => s (11 + d) 1) (fun d => s (11 + d) 2) (s 9 3 ||| s 9 4) (s 9 0) b N).toBitVec.toNat)) := by
  refine z_met (by decide) (Nat.le_of_ble_eq_true rfl) ?_
  intro X hl C E hnm
  show Zf X B mX11_away s t 0 [(0, .ref (B.1 + 0)), (1, .int b), (2, .int 9)] []
  refine z_iload_n C dX11_away_0 1 rfl rfl ?_
  refine f_callSr C hl (As := [.int b]) (rest := []) (c_X11_isBundle l B s t b) (zCB (nA := 1) C rfl rfl tw_287 tw_1 tw_285 (by decide +kernel) ⟨Nat.le_of_ble_eq_true rfl, Nat.le_of_ble_eq_true rfl⟩) tw_286 rfl rfl (Nat.le_of_ble_eq_true rfl) dX11_away_1 (Nat.zero_le _) ?_
  refine z_ifb_eq C 16 dX11_away_4 (by decide) (fun hbr => absurd hbr (by rw [g]; decide)) (fun _ => ?_)
  refine z_iload_n C dX11_away_7 2 rfl rfl ?_
  refine z_bipush C dX11_away_8 kb_10 ?_
  refine f_callSr C hl (As := [.int 9, .int 10]) (rest := []) (c_X11_within l B s t 9 10) (zCB (nA := 2) C rfl rfl tw_268 tw_1 tw_266 (by decide +kernel) ⟨Nat.le_of_ble_eq_true rfl, Nat.le_of_ble_eq_true rfl⟩) tw_267 rfl rfl (Nat.le_of_ble_eq_true rfl) dX11_away_10 (Nat.zero_le _) ?_
  refine z_ifb_ne C 23 dX11_away_13 (by decide) (fun _ => ?_) (fun hbr => Bool.noConfusion (show false = true from hbr.symm.trans (by decide)))
  refine z_iload_n C dX11_away_23 2 rfl rfl ?_
  refine z_istore_n C [(3, .int 9), (0, .ref (B.1 + 0)), (1, .int b), (2, .int 9)] dX11_away_24 rfl (by decide) rfl ?_
  refine z_bipush C dX11_away_25 kb_10 ?_
  refine z_istore C [(4, .int 10), (3, .int 9), (0, .ref (B.1 + 0)), (1, .int b), (2, .int 9)] dX11_away_27 (by decide) rfl ?_
  refine z_iload_n C dX11_away_29 1 rfl rfl ?_
  refine z_iconst C dX11_away_30 ki_2 ?_
  refine z_irem C dX11_away_31 (by decide) ?_
  refine f_topi (y := 1) (by decide) ?_
  refine z_if_ne C 45 dX11_away_32 (by decide) (fun _ => ?_) (fun hbr => absurd hbr (by decide))
  refine z_iload_n C dX11_away_45 1 rfl rfl ?_
  refine z_iconst C dX11_away_46 ki_5 ?_
  refine z_irem C dX11_away_47 (by decide) ?_
  refine f_topi (y := 4) (by decide) ?_
  refine z_if_ne C 61 dX11_away_48 (by decide) (fun _ => ?_) (fun hbr => absurd hbr (by decide))
  refine z_aload_n C dX11_away_61 2 rfl rfl ?_
  refine z_aload_n C dX11_away_62 2 rfl rfl ?_
  refine f_get11 C 1 (v := .ref (B.1 + 8)) (by decide) tw_226 rfl zk_0 zb_0 rfl dX11_away_63 ?_
  refine f_get1 C 0 (v := .ref (B.1 + 9)) (by decide) tw_168 rfl zk_8 zb_8 rfl dX11_away_66 ?_
  refine z_iload_n C dX11_away_69 3 rfl rfl ?_
  refine f_callVr C hl (As := [.ref (B.1 + 9), .int b]) (rest := []) (c_X11_stoppers l B s t 9 zk_9 zb_9 b (wIn_r8 g) N hN h6 hK) zb_0 (zg_11 zk_0) rfl (zCB (nA := 2) C rfl rfl tw_473 tw_1 tw_470 (by decide +kernel) ⟨Nat.le_of_ble_eq_true rfl, Nat.le_of_ble_eq_true rfl⟩) tw_472 tp_10 rfl rfl (Nat.le_of_ble_eq_true rfl) dX11_away_70 (Nat.zero_le _) ?_
  refine f_callSr C hl (As := [.int (wWho (fun d => s (11 + d) 0) (fun d => s (11 + d) 1) (fun d => s (11 + d) 2) (s 9 3 ||| s 9 4) (s 9 0) b N)]) (rest := []) (c_J6_bitCount_0f7a4 l B s t (wWho (fun d => s (11 + d) 0) (fun d => s (11 + d) 1) (fun d => s (11 + d) 2) (s 9 3 ||| s 9 4) (s 9 0) b N) (wWho_r8 _ _ _ _ _ _ _ (by omega))) (zCB (nA := 1) C rfl rfl tw_486 tw_19 tw_484 (by decide +kernel) ⟨Nat.le_of_ble_eq_true rfl, Nat.le_of_ble_eq_true rfl⟩) tw_485 rfl rfl (Nat.le_of_ble_eq_true rfl) dX11_away_73 (Nat.zero_le _) ?_
  refine z_istore C [(5, .int (wPop (wWho (fun d => s (11 + d) 0) (fun d => s (11 + d) 1) (fun d => s (11 + d) 2) (s 9 3 ||| s 9 4) (s 9 0) b N))), (4, .int 10), (3, .int 9), (0, .ref (B.1 + 0)), (1, .int b), (2, .int 9)] dX11_away_76 (by decide) rfl ?_
  refine z_aload_n C dX11_away_78 3 rfl rfl ?_
  refine z_lconst C dX11_away_79 kl_1 ?_
  refine f_put11_7 C tw_232 zk_0 zb_0 dX11_away_80 ?_
  refine z_aload_n C dX11_away_83 3 rfl rfl ?_
  refine z_lconst C dX11_away_84 kl_1 ?_
  refine f_put11_8 C tw_233 zk_0 zb_0 dX11_away_85 ?_
  refine z_iconst C dX11_away_88 ki_0 ?_
  refine z_istore C [(6, .int 0), (5, .int (wPop (wWho (fun d => s (11 + d) 0) (fun d => s (11 + d) 1) (fun d => s (11 + d) 2) (s 9 3 ||| s 9 4) (s 9 0) b N))), (4, .int 10), (3, .int 9), (0, .ref (B.1 + 0)), (1, .int b), (2, .int 9)] dX11_away_89 (by decide) rfl ?_
  exact z_lv [0, 1, 2, 3, 4, 5, 6] rfl (l_X11_away hl C b 9 9 10 (pcN (wWho (fun d => s (11 + d) 0) (fun d => s (11 + d) 1) (fun d => s (11 + d) 2) (s 9 3 ||| s 9 4) (s 9 0) b N).toBitVec.toNat) (pcN_lt _) E _ 0 (Nat.zero_add _))
set_option maxRecDepth 100000 in
set_option maxHeartbeats 4000000 in
theorem c_X11_away_10 (l : Launch) (B : zB) (s : zS) (t : zL) (b : Int32) (g : wIn b 255 = true) (N : Nat) (hN : s 8 4 = nI N) (h6 : N ≤ 6) (hK : ∀ d, d < N → ∃ c, c < 6 ∧ s (11 + d) 0 = nI c) : zD l B mX11_away s t [.ref (B.1 + 0), .int b, .int 10] (some (.int 1)) s (wFr t 1 1 (pcN (wWho (fun d => s (11 + d) 0) (fun d => s (11 + d) 1) (fun d => s (11 + d) 2) (s 9 3 ||| s 9 4) (s 9 0) b N).toBitVec.toNat)) := by
  refine z_met (by decide) (Nat.le_of_ble_eq_true rfl) ?_
  intro X hl C E hnm
  show Zf X B mX11_away s t 0 [(0, .ref (B.1 + 0)), (1, .int b), (2, .int 10)] []
  refine z_iload_n C dX11_away_0 1 rfl rfl ?_
  refine f_callSr C hl (As := [.int b]) (rest := []) (c_X11_isBundle l B s t b) (zCB (nA := 1) C rfl rfl tw_287 tw_1 tw_285 (by decide +kernel) ⟨Nat.le_of_ble_eq_true rfl, Nat.le_of_ble_eq_true rfl⟩) tw_286 rfl rfl (Nat.le_of_ble_eq_true rfl) dX11_away_1 (Nat.zero_le _) ?_
  refine z_ifb_eq C 16 dX11_away_4 (by decide) (fun hbr => absurd hbr (by rw [g]; decide)) (fun _ => ?_)
  refine z_iload_n C dX11_away_7 2 rfl rfl ?_
  refine z_bipush C dX11_away_8 kb_10 ?_
  refine f_callSr C hl (As := [.int 10, .int 10]) (rest := []) (c_X11_within l B s t 10 10) (zCB (nA := 2) C rfl rfl tw_268 tw_1 tw_266 (by decide +kernel) ⟨Nat.le_of_ble_eq_true rfl, Nat.le_of_ble_eq_true rfl⟩) tw_267 rfl rfl (Nat.le_of_ble_eq_true rfl) dX11_away_10 (Nat.zero_le _) ?_
  refine z_ifb_ne C 23 dX11_away_13 (by decide) (fun _ => ?_) (fun hbr => Bool.noConfusion (show false = true from hbr.symm.trans (by decide)))
  refine z_iload_n C dX11_away_23 2 rfl rfl ?_
  refine z_istore_n C [(3, .int 10), (0, .ref (B.1 + 0)), (1, .int b), (2, .int 10)] dX11_away_24 rfl (by decide) rfl ?_
  refine z_bipush C dX11_away_25 kb_10 ?_
  refine z_istore C [(4, .int 10), (3, .int 10), (0, .ref (B.1 + 0)), (1, .int b), (2, .int 10)] dX11_away_27 (by decide) rfl ?_
  refine z_iload_n C dX11_away_29 1 rfl rfl ?_
  refine z_iconst C dX11_away_30 ki_2 ?_
  refine z_irem C dX11_away_31 (by decide) ?_
  refine f_topi (y := 0) (by decide) ?_
  refine z_if_ne C 45 dX11_away_32 (by decide) (fun hbr => absurd (by decide) hbr) (fun _ => ?_)
  refine z_iload_n C dX11_away_35 1 rfl rfl ?_
  refine z_iconst C dX11_away_36 ki_2 ?_
  refine z_idiv C dX11_away_37 (by decide) ?_
  refine f_topi (y := 5) (by decide) ?_
  refine z_istore_n C [(3, .int 5), (4, .int 10), (0, .ref (B.1 + 0)), (1, .int b), (2, .int 10)] dX11_away_38 rfl (by decide) rfl ?_
  refine z_iload C dX11_away_39 1 rfl ?_
  refine z_iconst C dX11_away_41 ki_2 ?_
  refine z_idiv C dX11_away_42 (by decide) ?_
  refine f_topi (y := 5) (by decide) ?_
  refine z_istore C [(4, .int 5), (3, .int 5), (0, .ref (B.1 + 0)), (1, .int b), (2, .int 10)] dX11_away_43 (by decide) rfl ?_
  refine z_iload_n C dX11_away_45 1 rfl rfl ?_
  refine z_iconst C dX11_away_46 ki_5 ?_
  refine z_irem C dX11_away_47 (by decide) ?_
  refine f_topi (y := 0) (by decide) ?_
  refine z_if_ne C 61 dX11_away_48 (by decide) (fun hbr => absurd (by decide) hbr) (fun _ => ?_)
  refine z_iload_n C dX11_away_51 1 rfl rfl ?_
  refine z_iconst C dX11_away_52 ki_5 ?_
  refine z_idiv C dX11_away_53 (by decide) ?_
  refine f_topi (y := 1) (by decide) ?_
  refine z_istore_n C [(3, .int 1), (4, .int 5), (0, .ref (B.1 + 0)), (1, .int b), (2, .int 10)] dX11_away_54 rfl (by decide) rfl ?_
  refine z_iload C dX11_away_55 1 rfl ?_
  refine z_iconst C dX11_away_57 ki_5 ?_
  refine z_idiv C dX11_away_58 (by decide) ?_
  refine f_topi (y := 1) (by decide) ?_
  refine z_istore C [(4, .int 1), (3, .int 1), (0, .ref (B.1 + 0)), (1, .int b), (2, .int 10)] dX11_away_59 (by decide) rfl ?_
  refine z_aload_n C dX11_away_61 2 rfl rfl ?_
  refine z_aload_n C dX11_away_62 2 rfl rfl ?_
  refine f_get11 C 1 (v := .ref (B.1 + 8)) (by decide) tw_226 rfl zk_0 zb_0 rfl dX11_away_63 ?_
  refine f_get1 C 0 (v := .ref (B.1 + 9)) (by decide) tw_168 rfl zk_8 zb_8 rfl dX11_away_66 ?_
  refine z_iload_n C dX11_away_69 3 rfl rfl ?_
  refine f_callVr C hl (As := [.ref (B.1 + 9), .int b]) (rest := []) (c_X11_stoppers l B s t 9 zk_9 zb_9 b (wIn_r8 g) N hN h6 hK) zb_0 (zg_11 zk_0) rfl (zCB (nA := 2) C rfl rfl tw_473 tw_1 tw_470 (by decide +kernel) ⟨Nat.le_of_ble_eq_true rfl, Nat.le_of_ble_eq_true rfl⟩) tw_472 tp_10 rfl rfl (Nat.le_of_ble_eq_true rfl) dX11_away_70 (Nat.zero_le _) ?_
  refine f_callSr C hl (As := [.int (wWho (fun d => s (11 + d) 0) (fun d => s (11 + d) 1) (fun d => s (11 + d) 2) (s 9 3 ||| s 9 4) (s 9 0) b N)]) (rest := []) (c_J6_bitCount_0f7a4 l B s t (wWho (fun d => s (11 + d) 0) (fun d => s (11 + d) 1) (fun d => s (11 + d) 2) (s 9 3 ||| s 9 4) (s 9 0) b N) (wWho_r8 _ _ _ _ _ _ _ (by omega))) (zCB (nA := 1) C rfl rfl tw_486 tw_19 tw_484 (by decide +kernel) ⟨Nat.le_of_ble_eq_true rfl, Nat.le_of_ble_eq_true rfl⟩) tw_485 rfl rfl (Nat.le_of_ble_eq_true rfl) dX11_away_73 (Nat.zero_le _) ?_
  refine z_istore C [(5, .int (wPop (wWho (fun d => s (11 + d) 0) (fun d => s (11 + d) 1) (fun d => s (11 + d) 2) (s 9 3 ||| s 9 4) (s 9 0) b N))), (4, .int 1), (3, .int 1), (0, .ref (B.1 + 0)), (1, .int b), (2, .int 10)] dX11_away_76 (by decide) rfl ?_
  refine z_aload_n C dX11_away_78 3 rfl rfl ?_
  refine z_lconst C dX11_away_79 kl_1 ?_
  refine f_put11_7 C tw_232 zk_0 zb_0 dX11_away_80 ?_
  refine z_aload_n C dX11_away_83 3 rfl rfl ?_
  refine z_lconst C dX11_away_84 kl_1 ?_
  refine f_put11_8 C tw_233 zk_0 zb_0 dX11_away_85 ?_
  refine z_iconst C dX11_away_88 ki_0 ?_
  refine z_istore C [(6, .int 0), (5, .int (wPop (wWho (fun d => s (11 + d) 0) (fun d => s (11 + d) 1) (fun d => s (11 + d) 2) (s 9 3 ||| s 9 4) (s 9 0) b N))), (4, .int 1), (3, .int 1), (0, .ref (B.1 + 0)), (1, .int b), (2, .int 10)] dX11_away_89 (by decide) rfl ?_
  exact z_lv [0, 1, 2, 3, 4, 5, 6] rfl (l_X11_away hl C b 10 1 1 (pcN (wWho (fun d => s (11 + d) 0) (fun d => s (11 + d) 1) (fun d => s (11 + d) 2) (s 9 3 ||| s 9 4) (s 9 0) b N).toBitVec.toNat) (pcN_lt _) E _ 0 (Nat.zero_add _))
abbrev mX11_diets : zM := (yX11_diets, cX11_diets, 7, (some .int), { frames := 6, cells := 0, slots := 0, locals := 145 })
set_option maxRecDepth 100000 in
set_option maxHeartbeats 4000000 in
theorem c_X11_diets_bad (l : Launch) (B : zB) (s : zS) (t : zL) (a n : Int32) (h : (wIn a 999999 && wIn n 30) = false) : zD l B mX11_diets s t [.ref (B.1 + 0), .int a, .int n] (some (.int (-2))) (zu s 0 9 (s 0 9 + 1)) t := by
  refine z_met (by decide) (Nat.le_of_ble_eq_true rfl) ?_
  intro X hl C E hnm
  show Zf X B mX11_diets s t 0 [(0, .ref (B.1 + 0)), (1, .int a), (2, .int n)] []
  refine z_iload_n C dX11_diets_0 1 rfl rfl ?_
  refine z_ldc C dX11_diets_1 tw_690 ?_
  refine f_callSr C hl (As := [.int a, .int 999999]) (rest := []) (c_X11_within l B s t a 999999) (zCB (nA := 2) C rfl rfl tw_268 tw_1 tw_266 (by decide +kernel) ⟨Nat.le_of_ble_eq_true rfl, Nat.le_of_ble_eq_true rfl⟩) tw_267 rfl rfl (Nat.le_of_ble_eq_true rfl) dX11_diets_3 (Nat.zero_le _) ?_
  refine z_ifb_eq C 18 dX11_diets_6 (by decide) (fun h6 => ?_) (fun h6 => ?_)
  · refine z_aload_n C dX11_diets_18 0 rfl rfl ?_
    refine z_bipush C dX11_diets_19 kb_m2 ?_
    refine f_callVr C hl (As := [.int (-2)]) (rest := []) (c_X11_refuse2 l B s t) zb_0 (zg_11 zk_0) rfl (zCB (nA := 1) C rfl rfl tw_272 tw_1 tw_269 (by decide +kernel) ⟨Nat.le_of_ble_eq_true rfl, Nat.le_of_ble_eq_true rfl⟩) tw_271 tp_0 rfl rfl (Nat.le_of_ble_eq_true rfl) dX11_diets_21 (Nat.zero_le _) ?_
    refine z_iret C E rfl dX11_diets_24 rfl (Nat.le_refl _) ⟨rfl, rfl⟩
  · refine z_iload_n C dX11_diets_9 2 rfl rfl ?_
    refine z_bipush C dX11_diets_10 kb_30 ?_
    refine f_callSr C hl (As := [.int n, .int 30]) (rest := []) (c_X11_within l B s t n 30) (zCB (nA := 2) C rfl rfl tw_268 tw_1 tw_266 (by decide +kernel) ⟨Nat.le_of_ble_eq_true rfl, Nat.le_of_ble_eq_true rfl⟩) tw_267 rfl rfl (Nat.le_of_ble_eq_true rfl) dX11_diets_12 (Nat.zero_le _) ?_
    refine z_ifb_ne C 25 dX11_diets_15 (by decide) (fun h15 => ?_) (fun h15 => ?_)
    · exact absurd h (by rw [h6, h15]; decide)
    · refine z_aload_n C dX11_diets_18 0 rfl rfl ?_
      refine z_bipush C dX11_diets_19 kb_m2 ?_
      refine f_callVr C hl (As := [.int (-2)]) (rest := []) (c_X11_refuse2 l B s t) zb_0 (zg_11 zk_0) rfl (zCB (nA := 1) C rfl rfl tw_272 tw_1 tw_269 (by decide +kernel) ⟨Nat.le_of_ble_eq_true rfl, Nat.le_of_ble_eq_true rfl⟩) tw_271 tp_0 rfl rfl (Nat.le_of_ble_eq_true rfl) dX11_diets_21 (Nat.zero_le _) ?_
      refine z_iret C E rfl dX11_diets_24 rfl (Nat.le_refl _) ⟨rfl, rfl⟩
def wDx (x : Int64) : Int64 := (x * 1103515245 + 12345) - (x * 1103515245 + 12345) / 2147483648 * 2147483648
def wDl (x : Int64) : Int32 := (x / 65536 - x / 65536 / 256 * 256).toInt32
/-- one diet: the bundle b, on the sitting 110 -/
def wDw (N : Nat) (s : zS) (b : Int32) : Int32 := wWho (fun d => s (11 + d) 0) (fun d => s (11 + d) 1) (fun d => s (11 + d) 2) (s 110 3 ||| s 110 4) (s 110 0) b N
def wDb (s : zS) (x : Int64) : Int32 := wDl x &&& (255 &&& ((s 110 1 ||| s 110 2) ^^^ (-1)))
def wDs (N : Nat) (s : zS) (x : Int64) : zS := if wDw N s (wDb s x) = 0 then wClose (wMove s 110 (wDw N s (wDb s x)) (wDb s x)) 110 else wMove s 110 (wDw N s (wDb s x)) (wDb s x)
def wD (N : Nat) (s : zS) (x : Int64) : Nat → zS × Int64
  | 0 => (s, x)
  | n + 1 => (wDs N (wD N s x n).1 (wDx (wD N s x n).2), wDx (wD N s x n).2)
theorem wDb_r8 (s : zS) (x : Int64) : r8 (wDb s x) := r8_and' (r8_and r8_255)
theorem wClose_row {s : zS} {o k : Nat} (h : k ≠ o) : wClose s o k = s k := by funext j; simp [wClose, zu, h]
theorem wMove_row {s : zS} {o k : Nat} {w b : Int32} (h : k ≠ o) : wMove s o w b k = s k := by
  unfold wMove
  split
  · exact zu_row _ _ h
  · rw [wClose_row h]; exact zu_row _ _ h
theorem wDs_row {N : Nat} {s : zS} {x : Int64} {k : Nat} (h : k ≠ 110) : wDs N s x k = s k := by
  unfold wDs
  split
  · rw [wClose_row h, wMove_row h]
  · exact wMove_row h
theorem wD_row {N : Nat} {s : zS} {x : Int64} {k : Nat} (h : k ≠ 110) : ∀ n, (wD N s x n).1 k = s k := by
  intro n
  induction n with
  | zero => rfl
  | succ n ih => show wDs N _ _ k = s k; rw [wDs_row h]; exact ih
theorem wDs_r8 {N : Nat} {s : zS} {x : Int64} (h1 : r8 (s 110 1)) (h2 : r8 (s 110 2)) : r8 (wDs N s x 110 1) ∧ r8 (wDs N s x 110 2) := by
  have hb := wDb_r8 s x
  have h0 : r8 0 := r8_of (n := 0) (by decide)
  unfold wDs
  split
  · next e =>
    rw [wMove, if_pos e]
    simp only [wClose, zu]
    refine ⟨?_, ?_⟩ <;> simp
    · exact h0
    · exact r8_or h2 (r8_or h1 hb)
  · next e =>
    rw [wMove, if_neg e]
    simp only [wClose, zu]
    refine ⟨?_, ?_⟩ <;> simp
    · exact h0
    · exact h2
theorem wD_r8 {N : Nat} {s : zS} {x : Int64} (h1 : r8 (s 110 1)) (h2 : r8 (s 110 2)) : ∀ n, r8 ((wD N s x n).1 110 1) ∧ r8 ((wD N s x n).1 110 2) := by
  intro n
  induction n with
  | zero => exact ⟨h1, h2⟩
  | succ n ih => exact wDs_r8 ih.1 ih.2
set_option maxRecDepth 100000 in
set_option maxHeartbeats 4000000 in
theorem l_X11_diets {l : Launch} {B : zB} {s : zS} {t : zL} {X : zX} (hl : X.2.1 = l) (C : zC X B mX11_diets) (a : Int32) (x : Int64) (n : Nat) (hn30 : n ≤ 30) (N : Nat) (hN : s 8 4 = nI N) (h6 : N ≤ 6) (hK : ∀ d, d < N → ∃ c, c < 6 ∧ s (11 + d) 0 = nI c) (hr1 : r8 (s 110 1)) (hr2 : r8 (s 110 2)) (E : zE X B mX11_diets 124 0 0 (zR B (some (.int (wPop ((wD N s x n).1 110 2)))) (wD N s x n).1 t)) : ∀ (m : Nat) (i : Nat), i + m = n → Zf X B mX11_diets ((wD N s x i).1) t 45 [(5, .int (nI i)), (3, .long ((wD N s x i).2)), (0, .ref (B.1 + 0)), (1, .int a), (2, .int (nI n))] [] := by
  intro m
  induction m with
  | zero =>
    intro i hi
    refine z_iload C dX11_diets_45 0 rfl ?_
    refine z_iload_n C dX11_diets_47 4 rfl rfl ?_
    refine z_icmp_ge C 111 dX11_diets_48 (by decide) (fun _ => ?_) (fun hbr => absurd (nI_le (by omega) (by omega)) hbr)
    refine z_aload_n C dX11_diets_111 2 rfl rfl ?_
    refine f_get11 C 5 (v := .ref (B.1 + 110)) (by decide) tw_230 rfl zk_0 zb_0 rfl dX11_diets_112 ?_
    refine f_get8 C 2 (v := .int (((wD N s x i).1) 110 2)) (by decide) tw_89 rfl zk_110 zb_110 rfl dX11_diets_115 ?_
    refine f_callSr C hl (As := [.int (((wD N s x i).1) 110 2)]) (rest := []) (c_J6_bitCount_0f7a4 l B ((wD N s x i).1) t (((wD N s x i).1) 110 2) (wD_r8 hr1 hr2 i).2) (zCB (nA := 1) C rfl rfl tw_486 tw_19 tw_484 (by decide +kernel) ⟨Nat.le_of_ble_eq_true rfl, Nat.le_of_ble_eq_true rfl⟩) tw_485 rfl rfl (Nat.le_of_ble_eq_true rfl) dX11_diets_118 (Nat.zero_le _) ?_
    refine z_iret C E rfl dX11_diets_121 rfl (Nat.le_refl _) ⟨by rw [show i = n by omega], by rw [show i = n by omega]⟩
  | succ m ih =>
    intro i hi0
    have hi : i < n := by omega
    refine z_iload C dX11_diets_45 0 rfl ?_
    refine z_iload_n C dX11_diets_47 4 rfl rfl ?_
    refine z_icmp_ge C 111 dX11_diets_48 (by decide) (fun hbr => absurd hbr (nI_ge hi (by omega))) (fun _ => ?_)
    refine z_lload_n C dX11_diets_51 1 rfl rfl ?_
    refine z_ldc2 C dX11_diets_52 tw_692 ?_
    refine z_lmul C dX11_diets_55 ?_
    refine z_ldc2 C dX11_diets_56 tw_693 ?_
    refine z_ladd C dX11_diets_59 ?_
    refine z_ldc2 C dX11_diets_60 tw_694 ?_
    refine z_lrem C dX11_diets_63 (by decide) ?_
    refine z_lstore_n C [(3, .long (((((wD N s x i).2) * 1103515245) + 12345) - ((((wD N s x i).2) * 1103515245) + 12345) / 2147483648 * 2147483648)), (5, .int (nI i)), (0, .ref (B.1 + 0)), (1, .int a), (2, .int (nI n))] dX11_diets_64 rfl (by decide) rfl ?_
    refine z_lload_n C dX11_diets_65 0 rfl rfl ?_
    refine z_ldc2 C dX11_diets_66 tw_695 ?_
    refine z_ldiv C dX11_diets_69 (by decide) ?_
    refine z_ldc2 C dX11_diets_70 tw_696 ?_
    refine z_lrem C dX11_diets_73 (by decide) ?_
    refine z_l2i C dX11_diets_74 ?_
    refine z_istore C [(6, .int ((((((((wD N s x i).2) * 1103515245) + 12345) - ((((wD N s x i).2) * 1103515245) + 12345) / 2147483648 * 2147483648) / 65536) - ((((((wD N s x i).2) * 1103515245) + 12345) - ((((wD N s x i).2) * 1103515245) + 12345) / 2147483648 * 2147483648) / 65536) / 256 * 256 : Int64).toInt32)), (3, .long (((((wD N s x i).2) * 1103515245) + 12345) - ((((wD N s x i).2) * 1103515245) + 12345) / 2147483648 * 2147483648)), (5, .int (nI i)), (0, .ref (B.1 + 0)), (1, .int a), (2, .int (nI n))] dX11_diets_75 (by decide) rfl ?_
    refine z_aload_n C dX11_diets_77 3 rfl rfl ?_
    refine z_aload_n C dX11_diets_78 3 rfl rfl ?_
    refine f_get11 C 5 (v := .ref (B.1 + 110)) (by decide) tw_230 rfl zk_0 zb_0 rfl dX11_diets_79 ?_
    refine z_iload C dX11_diets_82 0 rfl ?_
    refine z_aload_n C dX11_diets_84 3 rfl rfl ?_
    refine f_get11 C 5 (v := .ref (B.1 + 110)) (by decide) tw_230 rfl zk_0 zb_0 rfl dX11_diets_85 ?_
    refine f_callVr C hl (As := []) (rest := [.int ((((((((wD N s x i).2) * 1103515245) + 12345) - ((((wD N s x i).2) * 1103515245) + 12345) / 2147483648 * 2147483648) / 65536) - ((((((wD N s x i).2) * 1103515245) + 12345) - ((((wD N s x i).2) * 1103515245) + 12345) / 2147483648 * 2147483648) / 65536) / 256 * 256 : Int64).toInt32), .ref (B.1 + 110), .ref (B.1 + 0)]) (c_X8_freeLaws l B ((wD N s x i).1) t 110 zk_110 zb_110) zb_110 (zg_8 zk_110) rfl (zCB (nA := 0) C rfl rfl tw_461 tw_9 tw_458 (by decide +kernel) ⟨Nat.le_of_ble_eq_true rfl, Nat.le_of_ble_eq_true rfl⟩) tw_459 tw_460 rfl rfl (Nat.le_of_ble_eq_true rfl) dX11_diets_88 (Nat.zero_le _) ?_
    refine z_iand C dX11_diets_91 ?_
    refine f_callVr C hl (As := [.ref (B.1 + 110), .int (((((((((wD N s x i).2) * 1103515245) + 12345) - ((((wD N s x i).2) * 1103515245) + 12345) / 2147483648 * 2147483648) / 65536) - ((((((wD N s x i).2) * 1103515245) + 12345) - ((((wD N s x i).2) * 1103515245) + 12345) / 2147483648 * 2147483648) / 65536) / 256 * 256 : Int64).toInt32) &&& (255 &&& ((((wD N s x i).1) 110 1 ||| ((wD N s x i).1) 110 2) ^^^ (-1))))]) (rest := []) (c_X11_moveIn l B (wD N s x i).1 t 110 zk_110 zb_110 (wDb (wD N s x i).1 (wDx (wD N s x i).2)) (wDb_r8 _ _) N (by rw [wD_row (by decide)]; exact hN) h6 (fun d hd => by rw [wD_row (by omega)]; exact hK d hd)) zb_0 (zg_11 zk_0) rfl (zCB (nA := 2) C rfl rfl tw_469 tw_1 tw_466 (by decide +kernel) ⟨Nat.le_of_ble_eq_true rfl, Nat.le_of_ble_eq_true rfl⟩) tw_468 tp_9 rfl rfl (Nat.le_of_ble_eq_true rfl) dX11_diets_92 (Nat.zero_le _) ?_
    refine z_if_ne C 105 dX11_diets_95 (by decide) (fun h95 => ?_) (fun h95 => ?_)
    · refine z_iinc C [(5, .int (nI (i + 1))), (6, .int ((((((((wD N s x i).2) * 1103515245) + 12345) - ((((wD N s x i).2) * 1103515245) + 12345) / 2147483648 * 2147483648) / 65536) - ((((((wD N s x i).2) * 1103515245) + 12345) - ((((wD N s x i).2) * 1103515245) + 12345) / 2147483648 * 2147483648) / 65536) / 256 * 256 : Int64).toInt32)), (3, .long (((((wD N s x i).2) * 1103515245) + 12345) - ((((wD N s x i).2) * 1103515245) + 12345) / 2147483648 * 2147483648)), (0, .ref (B.1 + 0)), (1, .int a), (2, .int (nI n))] dX11_diets_105 2 rfl (nI_inc i) (by decide) rfl ?_
      refine z_goto C 45 dX11_diets_108 (by decide) ?_
      refine z_G (G2 := zg B (wD N s x (i + 1)).1 t) (congrArg (fun z => zg B z t) (by show _ = wDs N _ _; rw [wDs]; exact (if_neg h95).symm)) ?_
      exact z_lv [0, 2, 3, 4, 5] rfl (ih (i + 1) (by omega))
    · refine z_aload_n C dX11_diets_98 3 rfl rfl ?_
      refine f_get11 C 5 (v := .ref (B.1 + 110)) (by decide) tw_230 rfl zk_0 zb_0 rfl dX11_diets_99 ?_
      refine f_callVv C hl (As := []) (rest := []) (c_X8_close l B (wMove (wD N s x i).1 110 (wDw N (wD N s x i).1 (wDb (wD N s x i).1 (wDx (wD N s x i).2))) (wDb (wD N s x i).1 (wDx (wD N s x i).2))) t 110 zk_110 zb_110) zb_110 (zg_8 zk_110) rfl (zCB (nA := 0) C rfl rfl tw_527 tw_9 tw_524 (by decide +kernel) ⟨Nat.le_of_ble_eq_true rfl, Nat.le_of_ble_eq_true rfl⟩) tw_525 tw_526 rfl rfl (Nat.le_of_ble_eq_true rfl) dX11_diets_102 (Nat.zero_le _) ?_
      refine z_iinc C [(5, .int (nI (i + 1))), (6, .int ((((((((wD N s x i).2) * 1103515245) + 12345) - ((((wD N s x i).2) * 1103515245) + 12345) / 2147483648 * 2147483648) / 65536) - ((((((wD N s x i).2) * 1103515245) + 12345) - ((((wD N s x i).2) * 1103515245) + 12345) / 2147483648 * 2147483648) / 65536) / 256 * 256 : Int64).toInt32)), (3, .long (((((wD N s x i).2) * 1103515245) + 12345) - ((((wD N s x i).2) * 1103515245) + 12345) / 2147483648 * 2147483648)), (0, .ref (B.1 + 0)), (1, .int a), (2, .int (nI n))] dX11_diets_105 2 rfl (nI_inc i) (by decide) rfl ?_
      refine z_goto C 45 dX11_diets_108 (by decide) ?_
      refine z_G (G2 := zg B (wD N s x (i + 1)).1 t) (congrArg (fun z => zg B z t) (by show _ = wDs N _ _; rw [wDs]; exact (if_pos h95).symm)) ?_
      exact z_lv [0, 2, 3, 4, 5] rfl (ih (i + 1) (by omega))
set_option maxRecDepth 100000 in
set_option maxHeartbeats 4000000 in
theorem c_X11_diets_ok (l : Launch) (B : zB) (s : zS) (t : zL) (a : Int32) (g1 : wIn a 999999 = true) (n : Nat) (hn30 : n ≤ 30) (N : Nat) (hN : s 8 4 = nI N) (h6 : N ≤ 6) (hK : ∀ d, d < N → ∃ c, c < 6 ∧ s (11 + d) 0 = nI c) (hr1 : r8 (s 9 1)) (hr2 : r8 (s 9 2)) : zD l B mX11_diets s t [.ref (B.1 + 0), .int a, .int (nI n)] (some (.int (wPop ((wD N (zcp s 110 9 6) a.toInt64 n).1 110 2)))) ((wD N (zcp s 110 9 6) a.toInt64 n).1) t := by
  refine z_met (by decide) (Nat.le_of_ble_eq_true rfl) ?_
  intro X hl C E hnm
  show Zf X B mX11_diets s t 0 [(0, .ref (B.1 + 0)), (1, .int a), (2, .int (nI n))] []
  refine z_iload_n C dX11_diets_0 1 rfl rfl ?_
  refine z_ldc C dX11_diets_1 tw_690 ?_
  refine f_callSr C hl (As := [.int a, .int 999999]) (rest := []) (c_X11_within l B s t a 999999) (zCB (nA := 2) C rfl rfl tw_268 tw_1 tw_266 (by decide +kernel) ⟨Nat.le_of_ble_eq_true rfl, Nat.le_of_ble_eq_true rfl⟩) tw_267 rfl rfl (Nat.le_of_ble_eq_true rfl) dX11_diets_3 (Nat.zero_le _) ?_
  refine z_ifb_eq C 18 dX11_diets_6 (by decide) (fun hbr => absurd hbr (by rw [g1]; decide)) (fun _ => ?_)
  refine z_iload_n C dX11_diets_9 2 rfl rfl ?_
  refine z_bipush C dX11_diets_10 kb_30 ?_
  refine f_callSr C hl (As := [.int (nI n), .int 30]) (rest := []) (c_X11_within l B s t (nI n) 30) (zCB (nA := 2) C rfl rfl tw_268 tw_1 tw_266 (by decide +kernel) ⟨Nat.le_of_ble_eq_true rfl, Nat.le_of_ble_eq_true rfl⟩) tw_267 rfl rfl (Nat.le_of_ble_eq_true rfl) dX11_diets_12 (Nat.zero_le _) ?_
  refine z_ifb_ne C 25 dX11_diets_15 (by decide) (fun _ => ?_) (fun hbr => Bool.noConfusion (show false = true from hbr.symm.trans (wIn_nI (n := 30) hn30 (by decide))))
  refine z_aload_n C dX11_diets_25 0 rfl rfl ?_
  refine f_get11 C 5 (v := .ref (B.1 + 110)) (by decide) tw_230 rfl zk_0 zb_0 rfl dX11_diets_26 ?_
  refine z_aload_n C dX11_diets_29 0 rfl rfl ?_
  refine f_get11 C 1 (v := .ref (B.1 + 8)) (by decide) tw_226 rfl zk_0 zb_0 rfl dX11_diets_30 ?_
  refine f_get1 C 0 (v := .ref (B.1 + 9)) (by decide) tw_168 rfl zk_8 zb_8 rfl dX11_diets_33 ?_
  refine f_callVv C hl (As := [.ref (B.1 + 9)]) (rest := []) (c_X8_copyFrom l B s t 110 9 zk_110 zb_110 zk_9 zb_9) zb_110 (zg_8 zk_110) rfl (zCB (nA := 1) C rfl rfl tw_445 tw_9 tw_691 (by decide +kernel) ⟨Nat.le_of_ble_eq_true rfl, Nat.le_of_ble_eq_true rfl⟩) tw_443 tw_444 rfl rfl (Nat.le_of_ble_eq_true rfl) dX11_diets_36 (Nat.zero_le _) ?_
  refine z_iload_n C dX11_diets_39 1 rfl rfl ?_
  refine z_i2l C dX11_diets_40 ?_
  refine z_lstore_n C [(3, .long ((a : Int32).toInt64)), (0, .ref (B.1 + 0)), (1, .int a), (2, .int (nI n))] dX11_diets_41 rfl (by decide) rfl ?_
  refine z_iconst C dX11_diets_42 ki_0 ?_
  refine z_istore C [(5, .int 0), (3, .long ((a : Int32).toInt64)), (0, .ref (B.1 + 0)), (1, .int a), (2, .int (nI n))] dX11_diets_43 (by decide) rfl ?_
  exact z_lv [0, 1, 2, 3, 4] rfl (l_X11_diets (s := (zcp s 110 9 6)) hl C a a.toInt64 n hn30 N (by rw [zcp, if_neg (by decide)]; exact hN) h6 (fun d hd => by rw [zcp, if_neg (by omega)]; exact hK d hd) hr1 hr2 E n 0 (by omega))
abbrev mX11_part : zM := (yX11_part, cX11_part, 2, (some .long), { frames := 1, cells := 0, slots := 0, locals := 21 })
set_option maxRecDepth 100000 in
set_option maxHeartbeats 4000000 in
theorem c_X11_part_bad (l : Launch) (B : zB) (s : zS) (t : zL) (w : Int32) (g : wIn w 1 = false) : zD l B mX11_part s t [.ref (B.1 + 0), .int w] (some (.long (((-2) : Int32).toInt64))) (zu s 0 9 (s 0 9 + 1)) t := by
  refine z_met (by decide) (Nat.le_of_ble_eq_true rfl) ?_
  intro X hl C E hnm
  show Zf X B mX11_part s t 0 [(0, .ref (B.1 + 0)), (1, .int w)] []
  refine z_iload_n C dX11_part_0 1 rfl rfl ?_
  refine z_iconst C dX11_part_1 ki_1 ?_
  refine f_callSr C hl (As := [.int w, .int 1]) (rest := []) (c_X11_within l B s t w 1) (zCB (nA := 2) C rfl rfl tw_268 tw_1 tw_266 (by decide +kernel) ⟨Nat.le_of_ble_eq_true rfl, Nat.le_of_ble_eq_true rfl⟩) tw_267 rfl rfl (Nat.le_of_ble_eq_true rfl) dX11_part_2 (Nat.zero_le _) ?_
  refine z_ifb_ne C 16 dX11_part_5 (by decide) (fun hbr => absurd hbr (by rw [g]; decide)) (fun _ => ?_)
  refine z_aload_n C dX11_part_8 0 rfl rfl ?_
  refine z_bipush C dX11_part_9 kb_m2 ?_
  refine f_callVr C hl (As := [.int (-2)]) (rest := []) (c_X11_refuse2 l B s t) zb_0 (zg_11 zk_0) rfl (zCB (nA := 1) C rfl rfl tw_272 tw_1 tw_269 (by decide +kernel) ⟨Nat.le_of_ble_eq_true rfl, Nat.le_of_ble_eq_true rfl⟩) tw_271 tp_0 rfl rfl (Nat.le_of_ble_eq_true rfl) dX11_part_11 (Nat.zero_le _) ?_
  refine z_i2l C dX11_part_14 ?_
  refine z_lret C E rfl dX11_part_15 rfl (Nat.le_refl _) ⟨rfl, rfl⟩
set_option maxRecDepth 100000 in
set_option maxHeartbeats 4000000 in
theorem c_X11_part_0 (l : Launch) (B : zB) (s : zS) (t : zL)  : zD l B mX11_part s t [.ref (B.1 + 0), .int 0] (some (.long (t 0 7))) s t := by
  refine z_met (by decide) (Nat.le_of_ble_eq_true rfl) ?_
  intro X hl C E hnm
  show Zf X B mX11_part s t 0 [(0, .ref (B.1 + 0)), (1, .int 0)] []
  refine z_iload_n C dX11_part_0 1 rfl rfl ?_
  refine z_iconst C dX11_part_1 ki_1 ?_
  refine f_callSr C hl (As := [.int 0, .int 1]) (rest := []) (c_X11_within l B s t 0 1) (zCB (nA := 2) C rfl rfl tw_268 tw_1 tw_266 (by decide +kernel) ⟨Nat.le_of_ble_eq_true rfl, Nat.le_of_ble_eq_true rfl⟩) tw_267 rfl rfl (Nat.le_of_ble_eq_true rfl) dX11_part_2 (Nat.zero_le _) ?_
  refine z_ifb_ne C 16 dX11_part_5 (by decide) (fun _ => ?_) (fun hbr => Bool.noConfusion (show false = true from hbr.symm.trans (by decide)))
  refine z_iload_n C dX11_part_16 1 rfl rfl ?_
  refine z_if_ne C 27 dX11_part_17 (by decide) (fun hbr => absurd (by decide) hbr) (fun _ => ?_)
  refine z_aload_n C dX11_part_20 0 rfl rfl ?_
  refine f_get11 C 7 (v := .long (t 0 7)) (by decide) tw_232 rfl zk_0 zb_0 rfl dX11_part_21 ?_
  refine z_goto C 31 dX11_part_24 (by decide) ?_
  refine z_lret C E rfl dX11_part_31 rfl (Nat.le_refl _) ⟨rfl, rfl⟩
set_option maxRecDepth 100000 in
set_option maxHeartbeats 4000000 in
theorem c_X11_part_1 (l : Launch) (B : zB) (s : zS) (t : zL)  : zD l B mX11_part s t [.ref (B.1 + 0), .int 1] (some (.long (t 0 8))) s t := by
  refine z_met (by decide) (Nat.le_of_ble_eq_true rfl) ?_
  intro X hl C E hnm
  show Zf X B mX11_part s t 0 [(0, .ref (B.1 + 0)), (1, .int 1)] []
  refine z_iload_n C dX11_part_0 1 rfl rfl ?_
  refine z_iconst C dX11_part_1 ki_1 ?_
  refine f_callSr C hl (As := [.int 1, .int 1]) (rest := []) (c_X11_within l B s t 1 1) (zCB (nA := 2) C rfl rfl tw_268 tw_1 tw_266 (by decide +kernel) ⟨Nat.le_of_ble_eq_true rfl, Nat.le_of_ble_eq_true rfl⟩) tw_267 rfl rfl (Nat.le_of_ble_eq_true rfl) dX11_part_2 (Nat.zero_le _) ?_
  refine z_ifb_ne C 16 dX11_part_5 (by decide) (fun _ => ?_) (fun hbr => Bool.noConfusion (show false = true from hbr.symm.trans (by decide)))
  refine z_iload_n C dX11_part_16 1 rfl rfl ?_
  refine z_if_ne C 27 dX11_part_17 (by decide) (fun _ => ?_) (fun hbr => absurd hbr (by decide))
  refine z_aload_n C dX11_part_27 0 rfl rfl ?_
  refine f_get11 C 8 (v := .long (t 0 8)) (by decide) tw_233 rfl zk_0 zb_0 rfl dX11_part_28 ?_
  refine z_lret C E rfl dX11_part_31 rfl (Nat.le_refl _) ⟨rfl, rfl⟩
abbrev mX11_image : zM := (yX11_image, cX11_image, 2, (some .int), { frames := 2, cells := 0, slots := 0, locals := 43 })
set_option maxRecDepth 100000 in
set_option maxHeartbeats 4000000 in
theorem c_X11_image_bad (l : Launch) (B : zB) (s : zS) (t : zL) (w : Int32) (g : wIn w 1 = false) : zD l B mX11_image s t [.ref (B.1 + 0), .int w] (some (.int (-2))) (zu s 0 9 (s 0 9 + 1)) t := by
  refine z_met (by decide) (Nat.le_of_ble_eq_true rfl) ?_
  intro X hl C E hnm
  show Zf X B mX11_image s t 0 [(0, .ref (B.1 + 0)), (1, .int w)] []
  refine z_iload_n C dX11_image_0 1 rfl rfl ?_
  refine z_aload_n C dX11_image_1 0 rfl rfl ?_
  refine f_get11 C 3 (v := .ref (B.1 + 58)) (by decide) tw_228 rfl zk_0 zb_0 rfl dX11_image_2 ?_
  refine f_alen24 C (v := 2) zk_58 zb_58 rfl dX11_image_5 ?_
  refine z_iconst C dX11_image_6 ki_1 ?_
  refine z_isub C dX11_image_7 ?_
  refine f_topi (y := 1) (by decide) ?_
  refine f_callSr C hl (As := [.int w, .int 1]) (rest := []) (c_X11_within l B s t w 1) (zCB (nA := 2) C rfl rfl tw_268 tw_1 tw_266 (by decide +kernel) ⟨Nat.le_of_ble_eq_true rfl, Nat.le_of_ble_eq_true rfl⟩) tw_267 rfl rfl (Nat.le_of_ble_eq_true rfl) dX11_image_8 (Nat.zero_le _) ?_
  refine z_ifb_ne C 21 dX11_image_11 (by decide) (fun hbr => absurd hbr (by rw [g]; decide)) (fun _ => ?_)
  refine z_aload_n C dX11_image_14 0 rfl rfl ?_
  refine z_bipush C dX11_image_15 kb_m2 ?_
  refine f_callVr C hl (As := [.int (-2)]) (rest := []) (c_X11_refuse2 l B s t) zb_0 (zg_11 zk_0) rfl (zCB (nA := 1) C rfl rfl tw_272 tw_1 tw_269 (by decide +kernel) ⟨Nat.le_of_ble_eq_true rfl, Nat.le_of_ble_eq_true rfl⟩) tw_271 tp_0 rfl rfl (Nat.le_of_ble_eq_true rfl) dX11_image_17 (Nat.zero_le _) ?_
  refine z_iret C E rfl dX11_image_20 rfl (Nat.le_refl _) ⟨rfl, rfl⟩
set_option maxRecDepth 100000 in
set_option maxHeartbeats 4000000 in
theorem c_X11_image_0 (l : Launch) (B : zB) (s : zS) (t : zL)  : zD l B mX11_image s t [.ref (B.1 + 0), .int 0] (some (.int 1)) (zu (wCopy59_8 s) 109 0 1) t := by
  refine z_met (by decide) (Nat.le_of_ble_eq_true rfl) ?_
  intro X hl C E hnm
  show Zf X B mX11_image s t 0 [(0, .ref (B.1 + 0)), (1, .int 0)] []
  refine z_iload_n C dX11_image_0 1 rfl rfl ?_
  refine z_aload_n C dX11_image_1 0 rfl rfl ?_
  refine f_get11 C 3 (v := .ref (B.1 + 58)) (by decide) tw_228 rfl zk_0 zb_0 rfl dX11_image_2 ?_
  refine f_alen24 C (v := 2) zk_58 zb_58 rfl dX11_image_5 ?_
  refine z_iconst C dX11_image_6 ki_1 ?_
  refine z_isub C dX11_image_7 ?_
  refine f_topi (y := 1) (by decide) ?_
  refine f_callSr C hl (As := [.int 0, .int 1]) (rest := []) (c_X11_within l B s t 0 1) (zCB (nA := 2) C rfl rfl tw_268 tw_1 tw_266 (by decide +kernel) ⟨Nat.le_of_ble_eq_true rfl, Nat.le_of_ble_eq_true rfl⟩) tw_267 rfl rfl (Nat.le_of_ble_eq_true rfl) dX11_image_8 (Nat.zero_le _) ?_
  refine z_ifb_ne C 21 dX11_image_11 (by decide) (fun _ => ?_) (fun hbr => Bool.noConfusion (show false = true from hbr.symm.trans (by decide)))
  refine z_aload_n C dX11_image_21 0 rfl rfl ?_
  refine f_get11 C 3 (v := .ref (B.1 + 58)) (by decide) tw_228 rfl zk_0 zb_0 rfl dX11_image_22 ?_
  refine z_iload_n C dX11_image_25 1 rfl rfl ?_
  refine f_aaldL24 C zk_58 zb_58 (by unfold vp_in; decide) (r := 59) (by decide) dX11_image_26 ?_
  refine z_aload_n C dX11_image_27 0 rfl rfl ?_
  refine f_get11 C 1 (v := .ref (B.1 + 8)) (by decide) tw_226 rfl zk_0 zb_0 rfl dX11_image_28 ?_
  refine f_callVv C hl (As := [.ref (B.1 + 8)]) (rest := []) (c_X1_copyFrom59_8 l B s t) zb_59 (zg_1 zk_59) rfl (zCB (nA := 1) C rfl rfl tw_441 tw_8 tw_438 (by decide +kernel) ⟨Nat.le_of_ble_eq_true rfl, Nat.le_of_ble_eq_true rfl⟩) tw_439 tw_440 rfl rfl (Nat.le_of_ble_eq_true rfl) dX11_image_31 (Nat.zero_le _) ?_
  refine z_aload_n C dX11_image_34 0 rfl rfl ?_
  refine f_get11 C 4 (v := .ref (B.1 + 109)) (by decide) tw_229 rfl zk_0 zb_0 rfl dX11_image_35 ?_
  refine z_iload_n C dX11_image_38 1 rfl rfl ?_
  refine z_iconst C dX11_image_39 ki_1 ?_
  refine f_zastL C zk_109 zb_109 (by unfold vp_in; decide) (j := 0) (by decide) dX11_image_40 ?_
  refine z_iconst C dX11_image_41 ki_1 ?_
  refine z_iret C E rfl dX11_image_42 rfl (Nat.le_refl _) ⟨rfl, rfl⟩
set_option maxRecDepth 100000 in
set_option maxHeartbeats 4000000 in
theorem c_X11_image_1 (l : Launch) (B : zB) (s : zS) (t : zL)  : zD l B mX11_image s t [.ref (B.1 + 0), .int 1] (some (.int 1)) (zu (wCopy84_8 s) 109 1 1) t := by
  refine z_met (by decide) (Nat.le_of_ble_eq_true rfl) ?_
  intro X hl C E hnm
  show Zf X B mX11_image s t 0 [(0, .ref (B.1 + 0)), (1, .int 1)] []
  refine z_iload_n C dX11_image_0 1 rfl rfl ?_
  refine z_aload_n C dX11_image_1 0 rfl rfl ?_
  refine f_get11 C 3 (v := .ref (B.1 + 58)) (by decide) tw_228 rfl zk_0 zb_0 rfl dX11_image_2 ?_
  refine f_alen24 C (v := 2) zk_58 zb_58 rfl dX11_image_5 ?_
  refine z_iconst C dX11_image_6 ki_1 ?_
  refine z_isub C dX11_image_7 ?_
  refine f_topi (y := 1) (by decide) ?_
  refine f_callSr C hl (As := [.int 1, .int 1]) (rest := []) (c_X11_within l B s t 1 1) (zCB (nA := 2) C rfl rfl tw_268 tw_1 tw_266 (by decide +kernel) ⟨Nat.le_of_ble_eq_true rfl, Nat.le_of_ble_eq_true rfl⟩) tw_267 rfl rfl (Nat.le_of_ble_eq_true rfl) dX11_image_8 (Nat.zero_le _) ?_
  refine z_ifb_ne C 21 dX11_image_11 (by decide) (fun _ => ?_) (fun hbr => Bool.noConfusion (show false = true from hbr.symm.trans (by decide)))
  refine z_aload_n C dX11_image_21 0 rfl rfl ?_
  refine f_get11 C 3 (v := .ref (B.1 + 58)) (by decide) tw_228 rfl zk_0 zb_0 rfl dX11_image_22 ?_
  refine z_iload_n C dX11_image_25 1 rfl rfl ?_
  refine f_aaldL24 C zk_58 zb_58 (by unfold vp_in; decide) (r := 84) (by decide) dX11_image_26 ?_
  refine z_aload_n C dX11_image_27 0 rfl rfl ?_
  refine f_get11 C 1 (v := .ref (B.1 + 8)) (by decide) tw_226 rfl zk_0 zb_0 rfl dX11_image_28 ?_
  refine f_callVv C hl (As := [.ref (B.1 + 8)]) (rest := []) (c_X1_copyFrom84_8 l B s t) zb_84 (zg_1 zk_84) rfl (zCB (nA := 1) C rfl rfl tw_441 tw_8 tw_438 (by decide +kernel) ⟨Nat.le_of_ble_eq_true rfl, Nat.le_of_ble_eq_true rfl⟩) tw_439 tw_440 rfl rfl (Nat.le_of_ble_eq_true rfl) dX11_image_31 (Nat.zero_le _) ?_
  refine z_aload_n C dX11_image_34 0 rfl rfl ?_
  refine f_get11 C 4 (v := .ref (B.1 + 109)) (by decide) tw_229 rfl zk_0 zb_0 rfl dX11_image_35 ?_
  refine z_iload_n C dX11_image_38 1 rfl rfl ?_
  refine z_iconst C dX11_image_39 ki_1 ?_
  refine f_zastL C zk_109 zb_109 (by unfold vp_in; decide) (j := 1) (by decide) dX11_image_40 ?_
  refine z_iconst C dX11_image_41 ki_1 ?_
  refine z_iret C E rfl dX11_image_42 rfl (Nat.le_refl _) ⟨rfl, rfl⟩
abbrev mX11_from : zM := (yX11_from, cX11_from, 2, (some .int), { frames := 2, cells := 0, slots := 0, locals := 43 })
set_option maxRecDepth 100000 in
set_option maxHeartbeats 4000000 in
theorem c_X11_from_bad (l : Launch) (B : zB) (s : zS) (t : zL) (w : Int32) (g : wIn w 1 = false) : zD l B mX11_from s t [.ref (B.1 + 0), .int w] (some (.int (-2))) (zu s 0 9 (s 0 9 + 1)) t := by
  refine z_met (by decide) (Nat.le_of_ble_eq_true rfl) ?_
  intro X hl C E hnm
  show Zf X B mX11_from s t 0 [(0, .ref (B.1 + 0)), (1, .int w)] []
  refine z_iload_n C dX11_from_0 1 rfl rfl ?_
  refine z_aload_n C dX11_from_1 0 rfl rfl ?_
  refine f_get11 C 3 (v := .ref (B.1 + 58)) (by decide) tw_228 rfl zk_0 zb_0 rfl dX11_from_2 ?_
  refine f_alen24 C (v := 2) zk_58 zb_58 rfl dX11_from_5 ?_
  refine z_iconst C dX11_from_6 ki_1 ?_
  refine z_isub C dX11_from_7 ?_
  refine f_topi (y := 1) (by decide) ?_
  refine f_callSr C hl (As := [.int w, .int 1]) (rest := []) (c_X11_within l B s t w 1) (zCB (nA := 2) C rfl rfl tw_268 tw_1 tw_266 (by decide +kernel) ⟨Nat.le_of_ble_eq_true rfl, Nat.le_of_ble_eq_true rfl⟩) tw_267 rfl rfl (Nat.le_of_ble_eq_true rfl) dX11_from_8 (Nat.zero_le _) ?_
  refine z_ifb_ne C 21 dX11_from_11 (by decide) (fun hbr => absurd hbr (by rw [g]; decide)) (fun _ => ?_)
  refine z_aload_n C dX11_from_14 0 rfl rfl ?_
  refine z_bipush C dX11_from_15 kb_m2 ?_
  refine f_callVr C hl (As := [.int (-2)]) (rest := []) (c_X11_refuse2 l B s t) zb_0 (zg_11 zk_0) rfl (zCB (nA := 1) C rfl rfl tw_272 tw_1 tw_269 (by decide +kernel) ⟨Nat.le_of_ble_eq_true rfl, Nat.le_of_ble_eq_true rfl⟩) tw_271 tp_0 rfl rfl (Nat.le_of_ble_eq_true rfl) dX11_from_17 (Nat.zero_le _) ?_
  refine z_iret C E rfl dX11_from_20 rfl (Nat.le_refl _) ⟨rfl, rfl⟩
set_option maxRecDepth 100000 in
set_option maxHeartbeats 4000000 in
theorem c_X11_from_no0 (l : Launch) (B : zB) (s : zS) (t : zL) (g : s 109 0 = 0) : zD l B mX11_from s t [.ref (B.1 + 0), .int 0] (some (.int (-3))) (zu s 0 10 (s 0 10 + 1)) t := by
  refine z_met (by decide) (Nat.le_of_ble_eq_true rfl) ?_
  intro X hl C E hnm
  show Zf X B mX11_from s t 0 [(0, .ref (B.1 + 0)), (1, .int 0)] []
  refine z_iload_n C dX11_from_0 1 rfl rfl ?_
  refine z_aload_n C dX11_from_1 0 rfl rfl ?_
  refine f_get11 C 3 (v := .ref (B.1 + 58)) (by decide) tw_228 rfl zk_0 zb_0 rfl dX11_from_2 ?_
  refine f_alen24 C (v := 2) zk_58 zb_58 rfl dX11_from_5 ?_
  refine z_iconst C dX11_from_6 ki_1 ?_
  refine z_isub C dX11_from_7 ?_
  refine f_topi (y := 1) (by decide) ?_
  refine f_callSr C hl (As := [.int 0, .int 1]) (rest := []) (c_X11_within l B s t 0 1) (zCB (nA := 2) C rfl rfl tw_268 tw_1 tw_266 (by decide +kernel) ⟨Nat.le_of_ble_eq_true rfl, Nat.le_of_ble_eq_true rfl⟩) tw_267 rfl rfl (Nat.le_of_ble_eq_true rfl) dX11_from_8 (Nat.zero_le _) ?_
  refine z_ifb_ne C 21 dX11_from_11 (by decide) (fun _ => ?_) (fun hbr => Bool.noConfusion (show false = true from hbr.symm.trans (by decide)))
  refine z_aload_n C dX11_from_21 0 rfl rfl ?_
  refine f_get11 C 4 (v := .ref (B.1 + 109)) (by decide) tw_229 rfl zk_0 zb_0 rfl dX11_from_22 ?_
  refine z_iload_n C dX11_from_25 1 rfl rfl ?_
  refine f_zaldL C zk_109 zb_109 (by unfold vp_in; decide) (j := 0) (by decide) dX11_from_26 ?_
  refine z_if_ne C 37 dX11_from_27 (by decide) (fun hbr => absurd g hbr) (fun _ => ?_)
  refine z_aload_n C dX11_from_30 0 rfl rfl ?_
  refine z_bipush C dX11_from_31 kb_m3 ?_
  refine f_callVr C hl (As := [.int (-3)]) (rest := []) (c_X11_refuse3 l B s t) zb_0 (zg_11 zk_0) rfl (zCB (nA := 1) C rfl rfl tw_272 tw_1 tw_269 (by decide +kernel) ⟨Nat.le_of_ble_eq_true rfl, Nat.le_of_ble_eq_true rfl⟩) tw_271 tp_0 rfl rfl (Nat.le_of_ble_eq_true rfl) dX11_from_33 (Nat.zero_le _) ?_
  refine z_iret C E rfl dX11_from_36 rfl (Nat.le_refl _) ⟨rfl, rfl⟩
set_option maxRecDepth 100000 in
set_option maxHeartbeats 4000000 in
theorem c_X11_from_0 (l : Launch) (B : zB) (s : zS) (t : zL) (g : ¬ s 109 0 = 0) : zD l B mX11_from s t [.ref (B.1 + 0), .int 0] (some (.int 1)) (wCopy8_59 s) t := by
  refine z_met (by decide) (Nat.le_of_ble_eq_true rfl) ?_
  intro X hl C E hnm
  show Zf X B mX11_from s t 0 [(0, .ref (B.1 + 0)), (1, .int 0)] []
  refine z_iload_n C dX11_from_0 1 rfl rfl ?_
  refine z_aload_n C dX11_from_1 0 rfl rfl ?_
  refine f_get11 C 3 (v := .ref (B.1 + 58)) (by decide) tw_228 rfl zk_0 zb_0 rfl dX11_from_2 ?_
  refine f_alen24 C (v := 2) zk_58 zb_58 rfl dX11_from_5 ?_
  refine z_iconst C dX11_from_6 ki_1 ?_
  refine z_isub C dX11_from_7 ?_
  refine f_topi (y := 1) (by decide) ?_
  refine f_callSr C hl (As := [.int 0, .int 1]) (rest := []) (c_X11_within l B s t 0 1) (zCB (nA := 2) C rfl rfl tw_268 tw_1 tw_266 (by decide +kernel) ⟨Nat.le_of_ble_eq_true rfl, Nat.le_of_ble_eq_true rfl⟩) tw_267 rfl rfl (Nat.le_of_ble_eq_true rfl) dX11_from_8 (Nat.zero_le _) ?_
  refine z_ifb_ne C 21 dX11_from_11 (by decide) (fun _ => ?_) (fun hbr => Bool.noConfusion (show false = true from hbr.symm.trans (by decide)))
  refine z_aload_n C dX11_from_21 0 rfl rfl ?_
  refine f_get11 C 4 (v := .ref (B.1 + 109)) (by decide) tw_229 rfl zk_0 zb_0 rfl dX11_from_22 ?_
  refine z_iload_n C dX11_from_25 1 rfl rfl ?_
  refine f_zaldL C zk_109 zb_109 (by unfold vp_in; decide) (j := 0) (by decide) dX11_from_26 ?_
  refine z_if_ne C 37 dX11_from_27 (by decide) (fun _ => ?_) (fun hbr => absurd hbr g)
  refine z_aload_n C dX11_from_37 0 rfl rfl ?_
  refine f_get11 C 1 (v := .ref (B.1 + 8)) (by decide) tw_226 rfl zk_0 zb_0 rfl dX11_from_38 ?_
  refine z_aload_n C dX11_from_41 0 rfl rfl ?_
  refine f_get11 C 3 (v := .ref (B.1 + 58)) (by decide) tw_228 rfl zk_0 zb_0 rfl dX11_from_42 ?_
  refine z_iload_n C dX11_from_45 1 rfl rfl ?_
  refine f_aaldL24 C zk_58 zb_58 (by unfold vp_in; decide) (r := 59) (by decide) dX11_from_46 ?_
  refine f_callVv C hl (As := [.ref (B.1 + 59)]) (rest := []) (c_X1_copyFrom8_59 l B s t) zb_8 (zg_1 zk_8) rfl (zCB (nA := 1) C rfl rfl tw_441 tw_8 tw_438 (by decide +kernel) ⟨Nat.le_of_ble_eq_true rfl, Nat.le_of_ble_eq_true rfl⟩) tw_439 tw_440 rfl rfl (Nat.le_of_ble_eq_true rfl) dX11_from_47 (Nat.zero_le _) ?_
  refine z_iconst C dX11_from_50 ki_1 ?_
  refine z_iret C E rfl dX11_from_51 rfl (Nat.le_refl _) ⟨rfl, rfl⟩
set_option maxRecDepth 100000 in
set_option maxHeartbeats 4000000 in
theorem c_X11_from_no1 (l : Launch) (B : zB) (s : zS) (t : zL) (g : s 109 1 = 0) : zD l B mX11_from s t [.ref (B.1 + 0), .int 1] (some (.int (-3))) (zu s 0 10 (s 0 10 + 1)) t := by
  refine z_met (by decide) (Nat.le_of_ble_eq_true rfl) ?_
  intro X hl C E hnm
  show Zf X B mX11_from s t 0 [(0, .ref (B.1 + 0)), (1, .int 1)] []
  refine z_iload_n C dX11_from_0 1 rfl rfl ?_
  refine z_aload_n C dX11_from_1 0 rfl rfl ?_
  refine f_get11 C 3 (v := .ref (B.1 + 58)) (by decide) tw_228 rfl zk_0 zb_0 rfl dX11_from_2 ?_
  refine f_alen24 C (v := 2) zk_58 zb_58 rfl dX11_from_5 ?_
  refine z_iconst C dX11_from_6 ki_1 ?_
  refine z_isub C dX11_from_7 ?_
  refine f_topi (y := 1) (by decide) ?_
  refine f_callSr C hl (As := [.int 1, .int 1]) (rest := []) (c_X11_within l B s t 1 1) (zCB (nA := 2) C rfl rfl tw_268 tw_1 tw_266 (by decide +kernel) ⟨Nat.le_of_ble_eq_true rfl, Nat.le_of_ble_eq_true rfl⟩) tw_267 rfl rfl (Nat.le_of_ble_eq_true rfl) dX11_from_8 (Nat.zero_le _) ?_
  refine z_ifb_ne C 21 dX11_from_11 (by decide) (fun _ => ?_) (fun hbr => Bool.noConfusion (show false = true from hbr.symm.trans (by decide)))
  refine z_aload_n C dX11_from_21 0 rfl rfl ?_
  refine f_get11 C 4 (v := .ref (B.1 + 109)) (by decide) tw_229 rfl zk_0 zb_0 rfl dX11_from_22 ?_
  refine z_iload_n C dX11_from_25 1 rfl rfl ?_
  refine f_zaldL C zk_109 zb_109 (by unfold vp_in; decide) (j := 1) (by decide) dX11_from_26 ?_
  refine z_if_ne C 37 dX11_from_27 (by decide) (fun hbr => absurd g hbr) (fun _ => ?_)
  refine z_aload_n C dX11_from_30 0 rfl rfl ?_
  refine z_bipush C dX11_from_31 kb_m3 ?_
  refine f_callVr C hl (As := [.int (-3)]) (rest := []) (c_X11_refuse3 l B s t) zb_0 (zg_11 zk_0) rfl (zCB (nA := 1) C rfl rfl tw_272 tw_1 tw_269 (by decide +kernel) ⟨Nat.le_of_ble_eq_true rfl, Nat.le_of_ble_eq_true rfl⟩) tw_271 tp_0 rfl rfl (Nat.le_of_ble_eq_true rfl) dX11_from_33 (Nat.zero_le _) ?_
  refine z_iret C E rfl dX11_from_36 rfl (Nat.le_refl _) ⟨rfl, rfl⟩
set_option maxRecDepth 100000 in
set_option maxHeartbeats 4000000 in
theorem c_X11_from_1 (l : Launch) (B : zB) (s : zS) (t : zL) (g : ¬ s 109 1 = 0) : zD l B mX11_from s t [.ref (B.1 + 0), .int 1] (some (.int 1)) (wCopy8_84 s) t := by
  refine z_met (by decide) (Nat.le_of_ble_eq_true rfl) ?_
  intro X hl C E hnm
  show Zf X B mX11_from s t 0 [(0, .ref (B.1 + 0)), (1, .int 1)] []
  refine z_iload_n C dX11_from_0 1 rfl rfl ?_
  refine z_aload_n C dX11_from_1 0 rfl rfl ?_
  refine f_get11 C 3 (v := .ref (B.1 + 58)) (by decide) tw_228 rfl zk_0 zb_0 rfl dX11_from_2 ?_
  refine f_alen24 C (v := 2) zk_58 zb_58 rfl dX11_from_5 ?_
  refine z_iconst C dX11_from_6 ki_1 ?_
  refine z_isub C dX11_from_7 ?_
  refine f_topi (y := 1) (by decide) ?_
  refine f_callSr C hl (As := [.int 1, .int 1]) (rest := []) (c_X11_within l B s t 1 1) (zCB (nA := 2) C rfl rfl tw_268 tw_1 tw_266 (by decide +kernel) ⟨Nat.le_of_ble_eq_true rfl, Nat.le_of_ble_eq_true rfl⟩) tw_267 rfl rfl (Nat.le_of_ble_eq_true rfl) dX11_from_8 (Nat.zero_le _) ?_
  refine z_ifb_ne C 21 dX11_from_11 (by decide) (fun _ => ?_) (fun hbr => Bool.noConfusion (show false = true from hbr.symm.trans (by decide)))
  refine z_aload_n C dX11_from_21 0 rfl rfl ?_
  refine f_get11 C 4 (v := .ref (B.1 + 109)) (by decide) tw_229 rfl zk_0 zb_0 rfl dX11_from_22 ?_
  refine z_iload_n C dX11_from_25 1 rfl rfl ?_
  refine f_zaldL C zk_109 zb_109 (by unfold vp_in; decide) (j := 1) (by decide) dX11_from_26 ?_
  refine z_if_ne C 37 dX11_from_27 (by decide) (fun _ => ?_) (fun hbr => absurd hbr g)
  refine z_aload_n C dX11_from_37 0 rfl rfl ?_
  refine f_get11 C 1 (v := .ref (B.1 + 8)) (by decide) tw_226 rfl zk_0 zb_0 rfl dX11_from_38 ?_
  refine z_aload_n C dX11_from_41 0 rfl rfl ?_
  refine f_get11 C 3 (v := .ref (B.1 + 58)) (by decide) tw_228 rfl zk_0 zb_0 rfl dX11_from_42 ?_
  refine z_iload_n C dX11_from_45 1 rfl rfl ?_
  refine f_aaldL24 C zk_58 zb_58 (by unfold vp_in; decide) (r := 84) (by decide) dX11_from_46 ?_
  refine f_callVv C hl (As := [.ref (B.1 + 84)]) (rest := []) (c_X1_copyFrom8_84 l B s t) zb_8 (zg_1 zk_8) rfl (zCB (nA := 1) C rfl rfl tw_441 tw_8 tw_438 (by decide +kernel) ⟨Nat.le_of_ble_eq_true rfl, Nat.le_of_ble_eq_true rfl⟩) tw_439 tw_440 rfl rfl (Nat.le_of_ble_eq_true rfl) dX11_from_47 (Nat.zero_le _) ?_
  refine z_iconst C dX11_from_50 ki_1 ?_
  refine z_iret C E rfl dX11_from_51 rfl (Nat.le_refl _) ⟨rfl, rfl⟩
abbrev mX11_status : zM := (yX11_status, cX11_status, 2, (some .int), { frames := 1, cells := 0, slots := 0, locals := 21 })
set_option maxRecDepth 100000 in
set_option maxHeartbeats 4000000 in
theorem c_X11_status_0 (l : Launch) (B : zB) (s : zS) (t : zL)  : zD l B mX11_status s t [.ref (B.1 + 0), .int 0] (some (.int (s 0 9))) s t := by
  refine z_met (by decide) (Nat.le_of_ble_eq_true rfl) ?_
  intro X hl C E hnm
  show Zf X B mX11_status s t 0 [(0, .ref (B.1 + 0)), (1, .int 0)] []
  refine z_iload_n C dX11_status_0 1 rfl rfl ?_
  refine z_tableIn C (off := 27) 28 dX11_status_1 (by decide) (by decide) (by decide) (by decide) ?_
  refine z_aload_n C dX11_status_28 0 rfl rfl ?_
  refine f_get11 C 9 (v := .int (s 0 9)) (by decide) tw_234 rfl zk_0 zb_0 rfl dX11_status_29 ?_
  refine z_iret C E rfl dX11_status_32 rfl (Nat.le_refl _) ⟨rfl, rfl⟩
set_option maxRecDepth 100000 in
set_option maxHeartbeats 4000000 in
theorem c_X11_status_1 (l : Launch) (B : zB) (s : zS) (t : zL)  : zD l B mX11_status s t [.ref (B.1 + 0), .int 1] (some (.int (s 0 10))) s t := by
  refine z_met (by decide) (Nat.le_of_ble_eq_true rfl) ?_
  intro X hl C E hnm
  show Zf X B mX11_status s t 0 [(0, .ref (B.1 + 0)), (1, .int 1)] []
  refine z_iload_n C dX11_status_0 1 rfl rfl ?_
  refine z_tableIn C (off := 32) 33 dX11_status_1 (by decide) (by decide) (by decide) (by decide) ?_
  refine z_aload_n C dX11_status_33 0 rfl rfl ?_
  refine f_get11 C 10 (v := .int (s 0 10)) (by decide) tw_235 rfl zk_0 zb_0 rfl dX11_status_34 ?_
  refine z_iret C E rfl dX11_status_37 rfl (Nat.le_refl _) ⟨rfl, rfl⟩
set_option maxRecDepth 100000 in
set_option maxHeartbeats 4000000 in
theorem c_X11_status_2 (l : Launch) (B : zB) (s : zS) (t : zL)  : zD l B mX11_status s t [.ref (B.1 + 0), .int 2] (some (.int (s 0 11))) s t := by
  refine z_met (by decide) (Nat.le_of_ble_eq_true rfl) ?_
  intro X hl C E hnm
  show Zf X B mX11_status s t 0 [(0, .ref (B.1 + 0)), (1, .int 2)] []
  refine z_iload_n C dX11_status_0 1 rfl rfl ?_
  refine z_tableIn C (off := 37) 38 dX11_status_1 (by decide) (by decide) (by decide) (by decide) ?_
  refine z_aload_n C dX11_status_38 0 rfl rfl ?_
  refine f_get11 C 11 (v := .int (s 0 11)) (by decide) tw_236 rfl zk_0 zb_0 rfl dX11_status_39 ?_
  refine z_iret C E rfl dX11_status_42 rfl (Nat.le_refl _) ⟨rfl, rfl⟩
set_option maxRecDepth 100000 in
set_option maxHeartbeats 4000000 in
theorem c_X11_status_bad (l : Launch) (B : zB) (s : zS) (t : zL) (w : Int32) (hsw : w.toInt < 0 ∨ 2 < w.toInt) : zD l B mX11_status s t [.ref (B.1 + 0), .int w] (some (.int (-1))) (zu s 0 9 (s 0 9 + 1)) t := by
  refine z_met (by decide) (Nat.le_of_ble_eq_true rfl) ?_
  intro X hl C E hnm
  show Zf X B mX11_status s t 0 [(0, .ref (B.1 + 0)), (1, .int w)] []
  refine z_iload_n C dX11_status_0 1 rfl rfl ?_
  refine z_tableOut C 43 dX11_status_1 hsw (by decide) ?_
  refine z_aload_n C dX11_status_43 0 rfl rfl ?_
  refine z_bipush C dX11_status_44 kb_m2 ?_
  refine f_callVr C hl (As := [.int (-2)]) (rest := []) (c_X11_refuse2 l B s t) zb_0 (zg_11 zk_0) rfl (zCB (nA := 1) C rfl rfl tw_272 tw_1 tw_269 (by decide +kernel) ⟨Nat.le_of_ble_eq_true rfl, Nat.le_of_ble_eq_true rfl⟩) tw_271 tp_0 rfl rfl (Nat.le_of_ble_eq_true rfl) dX11_status_46 (Nat.zero_le _) ?_
  refine z_pop C dX11_status_49 rfl ?_
  refine z_iconst C dX11_status_50 ki_m1 ?_
  refine z_iret C E rfl dX11_status_51 rfl (Nat.le_refl _) ⟨rfl, rfl⟩
abbrev mX11_count : zM := (yX11_count, cX11_count, 2, (some .int), { frames := 2, cells := 0, slots := 0, locals := 41 })
set_option maxRecDepth 100000 in
set_option maxHeartbeats 4000000 in
theorem c_X11_count_bad (l : Launch) (B : zB) (s : zS) (t : zL) (w : Int32) (g : wIn w 7 = false) : zD l B mX11_count s t [.ref (B.1 + 0), .int w] (some (.int (-2))) (zu s 0 9 (s 0 9 + 1)) t := by
  refine z_met (by decide) (Nat.le_of_ble_eq_true rfl) ?_
  intro X hl C E hnm
  show Zf X B mX11_count s t 0 [(0, .ref (B.1 + 0)), (1, .int w)] []
  refine z_iload_n C dX11_count_0 1 rfl rfl ?_
  refine z_bipush C dX11_count_1 kb_7 ?_
  refine f_callSr C hl (As := [.int w, .int 7]) (rest := []) (c_X11_within l B s t w 7) (zCB (nA := 2) C rfl rfl tw_268 tw_1 tw_266 (by decide +kernel) ⟨Nat.le_of_ble_eq_true rfl, Nat.le_of_ble_eq_true rfl⟩) tw_267 rfl rfl (Nat.le_of_ble_eq_true rfl) dX11_count_3 (Nat.zero_le _) ?_
  refine z_ifb_eq C 17 dX11_count_6 (by decide) (fun _ => ?_) (fun hbr => Bool.noConfusion (show true = false from hbr.symm.trans g))
  refine z_aload_n C dX11_count_17 0 rfl rfl ?_
  refine z_bipush C dX11_count_18 kb_m2 ?_
  refine f_callVr C hl (As := [.int (-2)]) (rest := []) (c_X11_refuse2 l B s t) zb_0 (zg_11 zk_0) rfl (zCB (nA := 1) C rfl rfl tw_272 tw_1 tw_269 (by decide +kernel) ⟨Nat.le_of_ble_eq_true rfl, Nat.le_of_ble_eq_true rfl⟩) tw_271 tp_0 rfl rfl (Nat.le_of_ble_eq_true rfl) dX11_count_20 (Nat.zero_le _) ?_
  refine z_iret C E rfl dX11_count_23 rfl (Nat.le_refl _) ⟨rfl, rfl⟩
set_option maxRecDepth 100000 in
set_option maxHeartbeats 4000000 in
theorem c_X11_count_ok (l : Launch) (B : zB) (s : zS) (t : zL) (h1 : r8 (s 9 1)) (h2 : r8 (s 9 2)) (w : Nat) (hw : w < 8) : zD l B mX11_count s t [.ref (B.1 + 0), .int (nI w)] (some (.int (wHow s w))) s t := by
  refine z_met (by decide) (Nat.le_of_ble_eq_true rfl) ?_
  intro X hl C E hnm
  show Zf X B mX11_count s t 0 [(0, .ref (B.1 + 0)), (1, .int (nI w))] []
  refine z_iload_n C dX11_count_0 1 rfl rfl ?_
  refine z_bipush C dX11_count_1 kb_7 ?_
  refine f_callSr C hl (As := [.int (nI w), .int 7]) (rest := []) (c_X11_within l B s t (nI w) 7) (zCB (nA := 2) C rfl rfl tw_268 tw_1 tw_266 (by decide +kernel) ⟨Nat.le_of_ble_eq_true rfl, Nat.le_of_ble_eq_true rfl⟩) tw_267 rfl rfl (Nat.le_of_ble_eq_true rfl) dX11_count_3 (Nat.zero_le _) ?_
  refine z_ifb_eq C 17 dX11_count_6 (by decide) (fun hbr => absurd hbr (by rw [show wIn (nI w) 7 = true from wIn_nI (n := 7) (by omega) (by decide)]; decide)) (fun _ => ?_)
  refine z_aload_n C dX11_count_9 0 rfl rfl ?_
  refine z_iload_n C dX11_count_10 1 rfl rfl ?_
  refine f_callVr C hl (As := [.int (nI w)]) (rest := []) (c_X11_howMany l B s t h1 h2 w hw) zb_0 (zg_11 zk_0) rfl (zCB (nA := 1) C rfl rfl tw_720 tw_1 tw_717 (by decide +kernel) ⟨Nat.le_of_ble_eq_true rfl, Nat.le_of_ble_eq_true rfl⟩) tw_719 tp_23 rfl rfl (Nat.le_of_ble_eq_true rfl) dX11_count_11 (Nat.zero_le _) ?_
  refine z_goto C 23 dX11_count_14 (by decide) ?_
  refine z_iret C E rfl dX11_count_23 rfl (Nat.le_refl _) ⟨rfl, rfl⟩
def wG1 (s : zS) : Nat → Int64
  | 0 => 1187
  | n + 1 => d31 (wG1 s n) (wHow s n)
def wG2 (s : zS) (N : Nat) (h : Int64) : Nat → Int64
  | 0 => h
  | n + 1 => if n < N then wDD s (wG2 s N h n) n else wG2 s N h n
def wG3 (s : zS) (M : Nat) (h : Int64) : Nat → Int64
  | 0 => h
  | n + 1 => if n < M then wDN s (wG3 s M h n) n else wG3 s M h n
def wG (s : zS) (t : zL) (N M : Nat) : Int64 := 31 * (31 * wG3 s M (wG2 s N (d31 (d31 (wG1 s 8) (s 9 1)) (s 9 2)) 6) 6 + t 0 7) + t 0 8
theorem ite_D {l : Launch} {B : zB} {κ : zM} {s : zS} {t : zL} {as : List Value} {a b : Int64} {p : Prop} [Decidable p] (h1 : p → zD l B κ s t as (some (.long a)) s t) (h2 : ¬ p → zD l B κ s t as (some (.long b)) s t) : zD l B κ s t as (some (.long (if p then a else b))) s t := by
  split
  · next q => exact h1 q
  · next q => exact h2 q
abbrev mX11_digest : zM := (yX11_digest, cX11_digest, 4, (some .long), { frames := 2, cells := 0, slots := 0, locals := 47 })
set_option maxRecDepth 100000 in
set_option maxHeartbeats 4000000 in
theorem l_X11_digest3 {l : Launch} {B : zB} {s : zS} {t : zL} {X : zX} (hl : X.2.1 = l) (C : zC X B mX11_digest) (N M : Nat) (hN : s 8 4 = nI N) (h6 : N ≤ 6) (hM : s 8 5 = nI M) (hM6 : M ≤ 6) (h1 : r8 (s 9 1)) (h2 : r8 (s 9 2)) (E : zE X B mX11_digest 124 0 0 (zR B (some (.long (wG s t N M))) s t)) : ∀ (m : Nat) (i : Nat) (h : Int64), i + m = 6 → h = wG3 s M (wG2 s N (d31 (d31 (wG1 s 8) (s 9 1)) (s 9 2)) 6) i → Zf X B mX11_digest s t 90 [(3, .int (nI i)), (1, .long h), (0, .ref (B.1 + 0))] [] := by
  intro m
  induction m with
  | zero =>
    intro i h hi ha
    obtain rfl : i = 6 := by omega
    refine z_iload_n C dX11_digest_90 0 rfl rfl ?_
    refine z_bipush C dX11_digest_91 kb_6 ?_
    refine z_icmp_ge C 109 dX11_digest_93 (by decide) (fun _ => ?_) (fun hbr => absurd (by decide) hbr)
    refine z_ldc2 C dX11_digest_109 tw_726 ?_
    refine z_lload_n C dX11_digest_112 1 rfl rfl ?_
    refine z_lmul C dX11_digest_113 ?_
    refine z_aload_n C dX11_digest_114 2 rfl rfl ?_
    refine f_get11 C 7 (v := .long (t 0 7)) (by decide) tw_232 rfl zk_0 zb_0 rfl dX11_digest_115 ?_
    refine z_ladd C dX11_digest_118 ?_
    refine z_lstore_n C [(1, .long ((31 * h) + (t 0 7))), (3, .int (nI 6)), (0, .ref (B.1 + 0))] dX11_digest_119 rfl (by decide) rfl ?_
    refine z_ldc2 C dX11_digest_120 tw_726 ?_
    refine z_lload_n C dX11_digest_123 0 rfl rfl ?_
    refine z_lmul C dX11_digest_124 ?_
    refine z_aload_n C dX11_digest_125 2 rfl rfl ?_
    refine f_get11 C 8 (v := .long (t 0 8)) (by decide) tw_233 rfl zk_0 zb_0 rfl dX11_digest_126 ?_
    refine z_ladd C dX11_digest_129 ?_
    refine z_lret C E rfl dX11_digest_130 rfl (Nat.le_refl _) ⟨by rw [wG, ← ha], rfl⟩
  | succ m ih =>
    intro i h hi0 ha
    have hi : i < 6 := by omega
    refine z_iload_n C dX11_digest_90 0 rfl rfl ?_
    refine z_bipush C dX11_digest_91 kb_6 ?_
    refine z_icmp_ge C 109 dX11_digest_93 (by decide) (fun hbr => absurd hbr (show ¬ nI 6 ≤ nI i from nI_ge hi (by decide))) (fun _ => ?_)
    refine z_aload_n C dX11_digest_96 2 rfl rfl ?_
    refine z_lload_n C dX11_digest_97 1 rfl rfl ?_
    refine z_iload_n C dX11_digest_98 0 rfl rfl ?_
    refine f_callVr C hl (As := [.long h, .int (nI i)]) (rest := []) (ite_D (fun q => c_X11_noteIntoDigests l B s t h i (by omega) (by rw [hM]; exact nI_lt q (by omega))) (fun q => c_X11_noteIntoDigestn l B s t h (nI i) (Or.inr (by rw [hM]; exact nI_le (by omega) (by omega)))) : zD l B mX11_noteIntoDigest s t [.ref (B.1 + 0), .long h, .int (nI i)] (some (.long (if i < M then wDN s h i else h))) s t) zb_0 (zg_11 zk_0) rfl (zCB (nA := 2) C rfl rfl tw_734 tw_1 tw_731 (by decide +kernel) ⟨Nat.le_of_ble_eq_true rfl, Nat.le_of_ble_eq_true rfl⟩) tw_733 tp_25 rfl rfl (Nat.le_of_ble_eq_true rfl) dX11_digest_99 (Nat.zero_le _) ?_
    refine z_lstore_n C [(1, .long (if i < M then wDN s h i else h)), (3, .int (nI i)), (0, .ref (B.1 + 0))] dX11_digest_102 rfl (by decide) rfl ?_
    refine z_iinc C [(3, .int (nI (i + 1))), (1, .long (if i < M then wDN s h i else h)), (0, .ref (B.1 + 0))] dX11_digest_103 1 rfl (nI_inc i) (by decide) rfl ?_
    refine z_goto C 90 dX11_digest_106 (by decide) ?_
    exact z_lv [0, 1, 2] rfl (ih (i + 1) _ (by omega) (by rw [wG3, ← ha]))
set_option maxRecDepth 100000 in
set_option maxHeartbeats 4000000 in
theorem l_X11_digest2 {l : Launch} {B : zB} {s : zS} {t : zL} {X : zX} (hl : X.2.1 = l) (C : zC X B mX11_digest) (N M : Nat) (hN : s 8 4 = nI N) (h6 : N ≤ 6) (hM : s 8 5 = nI M) (hM6 : M ≤ 6) (h1 : r8 (s 9 1)) (h2 : r8 (s 9 2)) (E : zE X B mX11_digest 124 0 0 (zR B (some (.long (wG s t N M))) s t)) : ∀ (m : Nat) (i : Nat) (h : Int64), i + m = 6 → h = wG2 s N (d31 (d31 (wG1 s 8) (s 9 1)) (s 9 2)) i → Zf X B mX11_digest s t 69 [(3, .int (nI i)), (1, .long h), (0, .ref (B.1 + 0))] [] := by
  intro m
  induction m with
  | zero =>
    intro i h hi ha
    obtain rfl : i = 6 := by omega
    refine z_iload_n C dX11_digest_69 0 rfl rfl ?_
    refine z_bipush C dX11_digest_70 kb_6 ?_
    refine z_icmp_ge C 88 dX11_digest_72 (by decide) (fun _ => ?_) (fun hbr => absurd (by decide) hbr)
    refine z_iconst C dX11_digest_88 ki_0 ?_
    refine z_istore_n C [(3, .int 0), (1, .long h), (0, .ref (B.1 + 0))] dX11_digest_89 rfl (by decide) rfl ?_
    exact z_lv [0, 1, 2] rfl (l_X11_digest3 hl C N M hN h6 hM hM6 h1 h2 E 6 0 h (by omega) (by rw [ha, wG3]))
  | succ m ih =>
    intro i h hi0 ha
    have hi : i < 6 := by omega
    refine z_iload_n C dX11_digest_69 0 rfl rfl ?_
    refine z_bipush C dX11_digest_70 kb_6 ?_
    refine z_icmp_ge C 88 dX11_digest_72 (by decide) (fun hbr => absurd hbr (show ¬ nI 6 ≤ nI i from nI_ge hi (by decide))) (fun _ => ?_)
    refine z_aload_n C dX11_digest_75 2 rfl rfl ?_
    refine z_lload_n C dX11_digest_76 1 rfl rfl ?_
    refine z_iload_n C dX11_digest_77 0 rfl rfl ?_
    refine f_callVr C hl (As := [.long h, .int (nI i)]) (rest := []) (ite_D (fun q => c_X11_deputyIntoDigests l B s t h i (by omega) (by rw [hN]; exact nI_lt q (by omega))) (fun q => c_X11_deputyIntoDigestn l B s t h (nI i) (Or.inr (by rw [hN]; exact nI_le (by omega) (by omega)))) : zD l B mX11_deputyIntoDigest s t [.ref (B.1 + 0), .long h, .int (nI i)] (some (.long (if i < N then wDD s h i else h))) s t) zb_0 (zg_11 zk_0) rfl (zCB (nA := 2) C rfl rfl tw_730 tw_1 tw_727 (by decide +kernel) ⟨Nat.le_of_ble_eq_true rfl, Nat.le_of_ble_eq_true rfl⟩) tw_729 tp_24 rfl rfl (Nat.le_of_ble_eq_true rfl) dX11_digest_78 (Nat.zero_le _) ?_
    refine z_lstore_n C [(1, .long (if i < N then wDD s h i else h)), (3, .int (nI i)), (0, .ref (B.1 + 0))] dX11_digest_81 rfl (by decide) rfl ?_
    refine z_iinc C [(3, .int (nI (i + 1))), (1, .long (if i < N then wDD s h i else h)), (0, .ref (B.1 + 0))] dX11_digest_82 1 rfl (nI_inc i) (by decide) rfl ?_
    refine z_goto C 69 dX11_digest_85 (by decide) ?_
    exact z_lv [0, 1, 2] rfl (ih (i + 1) _ (by omega) (by rw [wG2, ← ha]))
set_option maxRecDepth 100000 in
set_option maxHeartbeats 4000000 in
theorem l_X11_digest1 {l : Launch} {B : zB} {s : zS} {t : zL} {X : zX} (hl : X.2.1 = l) (C : zC X B mX11_digest) (N M : Nat) (hN : s 8 4 = nI N) (h6 : N ≤ 6) (hM : s 8 5 = nI M) (hM6 : M ≤ 6) (h1 : r8 (s 9 1)) (h2 : r8 (s 9 2)) (E : zE X B mX11_digest 124 0 0 (zR B (some (.long (wG s t N M))) s t)) : ∀ (m : Nat) (i : Nat) (h : Int64), i + m = 8 → h = wG1 s i → Zf X B mX11_digest s t 6 [(3, .int (nI i)), (1, .long h), (0, .ref (B.1 + 0))] [] := by
  intro m
  induction m with
  | zero =>
    intro i h hi ha
    obtain rfl : i = 8 := by omega
    refine z_iload_n C dX11_digest_6 0 rfl rfl ?_
    refine z_bipush C dX11_digest_7 kb_8 ?_
    refine z_icmp_ge C 31 dX11_digest_9 (by decide) (fun _ => ?_) (fun hbr => absurd (by decide) hbr)
    refine z_ldc2 C dX11_digest_31 tw_726 ?_
    refine z_lload_n C dX11_digest_34 1 rfl rfl ?_
    refine z_lmul C dX11_digest_35 ?_
    refine z_aload_n C dX11_digest_36 2 rfl rfl ?_
    refine f_get11 C 1 (v := .ref (B.1 + 8)) (by decide) tw_226 rfl zk_0 zb_0 rfl dX11_digest_37 ?_
    refine f_get1 C 0 (v := .ref (B.1 + 9)) (by decide) tw_168 rfl zk_8 zb_8 rfl dX11_digest_40 ?_
    refine f_get8 C 1 (v := .int (s 9 1)) (by decide) tw_87 rfl zk_9 zb_9 rfl dX11_digest_43 ?_
    refine z_i2l C dX11_digest_46 ?_
    refine z_ladd C dX11_digest_47 ?_
    refine z_lstore_n C [(1, .long ((31 * h) + ((s 9 1 : Int32).toInt64))), (3, .int (nI 8)), (0, .ref (B.1 + 0))] dX11_digest_48 rfl (by decide) rfl ?_
    refine z_ldc2 C dX11_digest_49 tw_726 ?_
    refine z_lload_n C dX11_digest_52 0 rfl rfl ?_
    refine z_lmul C dX11_digest_53 ?_
    refine z_aload_n C dX11_digest_54 2 rfl rfl ?_
    refine f_get11 C 1 (v := .ref (B.1 + 8)) (by decide) tw_226 rfl zk_0 zb_0 rfl dX11_digest_55 ?_
    refine f_get1 C 0 (v := .ref (B.1 + 9)) (by decide) tw_168 rfl zk_8 zb_8 rfl dX11_digest_58 ?_
    refine f_get8 C 2 (v := .int (s 9 2)) (by decide) tw_89 rfl zk_9 zb_9 rfl dX11_digest_61 ?_
    refine z_i2l C dX11_digest_64 ?_
    refine z_ladd C dX11_digest_65 ?_
    refine z_lstore_n C [(1, .long ((31 * ((31 * h) + ((s 9 1 : Int32).toInt64))) + ((s 9 2 : Int32).toInt64))), (3, .int (nI 8)), (0, .ref (B.1 + 0))] dX11_digest_66 rfl (by decide) rfl ?_
    refine z_iconst C dX11_digest_67 ki_0 ?_
    refine z_istore_n C [(3, .int 0), (1, .long ((31 * ((31 * h) + ((s 9 1 : Int32).toInt64))) + ((s 9 2 : Int32).toInt64))), (0, .ref (B.1 + 0))] dX11_digest_68 rfl (by decide) rfl ?_
    exact z_lv [0, 1, 2] rfl (l_X11_digest2 hl C N M hN h6 hM hM6 h1 h2 E 6 0 _ (by omega) (by rw [ha]; rfl))
  | succ m ih =>
    intro i h hi0 ha
    have hi : i < 8 := by omega
    refine z_iload_n C dX11_digest_6 0 rfl rfl ?_
    refine z_bipush C dX11_digest_7 kb_8 ?_
    refine z_icmp_ge C 31 dX11_digest_9 (by decide) (fun hbr => absurd hbr (show ¬ nI 8 ≤ nI i from nI_ge hi (by decide))) (fun _ => ?_)
    refine z_ldc2 C dX11_digest_12 tw_726 ?_
    refine z_lload_n C dX11_digest_15 1 rfl rfl ?_
    refine z_lmul C dX11_digest_16 ?_
    refine z_aload_n C dX11_digest_17 2 rfl rfl ?_
    refine z_iload_n C dX11_digest_18 0 rfl rfl ?_
    refine f_callVr C hl (As := [.int (nI i)]) (rest := [.long (31 * h)]) (c_X11_howMany l B s t h1 h2 i hi) zb_0 (zg_11 zk_0) rfl (zCB (nA := 1) C rfl rfl tw_720 tw_1 tw_717 (by decide +kernel) ⟨Nat.le_of_ble_eq_true rfl, Nat.le_of_ble_eq_true rfl⟩) tw_719 tp_23 rfl rfl (Nat.le_of_ble_eq_true rfl) dX11_digest_19 (Nat.zero_le _) ?_
    refine z_i2l C dX11_digest_22 ?_
    refine z_ladd C dX11_digest_23 ?_
    refine z_lstore_n C [(1, .long ((31 * h) + ((wHow s i : Int32).toInt64))), (3, .int (nI i)), (0, .ref (B.1 + 0))] dX11_digest_24 rfl (by decide) rfl ?_
    refine z_iinc C [(3, .int (nI (i + 1))), (1, .long ((31 * h) + ((wHow s i : Int32).toInt64))), (0, .ref (B.1 + 0))] dX11_digest_25 1 rfl (nI_inc i) (by decide) rfl ?_
    refine z_goto C 6 dX11_digest_28 (by decide) ?_
    exact z_lv [0, 1, 2] rfl (ih (i + 1) _ (by omega) (by rw [wG1, ← ha]; rfl))
set_option maxRecDepth 100000 in
set_option maxHeartbeats 4000000 in
theorem c_X11_digest (l : Launch) (B : zB) (s : zS) (t : zL) (N M : Nat) (hN : s 8 4 = nI N) (h6 : N ≤ 6) (hM : s 8 5 = nI M) (hM6 : M ≤ 6) (h1 : r8 (s 9 1)) (h2 : r8 (s 9 2)) : zD l B mX11_digest s t [.ref (B.1 + 0)] (some (.long (wG s t N M))) s t := by
  refine z_met (by decide) (Nat.le_of_ble_eq_true rfl) ?_
  intro X hl C E hnm
  show Zf X B mX11_digest s t 0 [(0, .ref (B.1 + 0))] []
  refine z_ldc2 C dX11_digest_0 tw_725 ?_
  refine z_lstore_n C [(1, .long 1187), (0, .ref (B.1 + 0))] dX11_digest_3 rfl (by decide) rfl ?_
  refine z_iconst C dX11_digest_4 ki_0 ?_
  refine z_istore_n C [(3, .int 0), (1, .long 1187), (0, .ref (B.1 + 0))] dX11_digest_5 rfl (by decide) rfl ?_
  exact z_lv [0, 1, 2] rfl (l_X11_digest1 hl C N M hN h6 hM hM6 h1 h2 E 8 0 _ (by omega) rfl)
