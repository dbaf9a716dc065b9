theorem zk_dep : ∀ d, d < 6 → zk (11 + d) = 0 := by decide
theorem zk_not : ∀ d, d < 6 → zk (18 + d) = 4 := by decide
theorem zk_pst : ∀ d, d < 8 → zk (25 + d) = 8 := by decide
theorem zk_dep2 : ∀ d, d < 6 → zk (36 + d) = 0 := by decide
theorem ix_at {x : Int32} {d n k r : Nat} (hx : x = nI d) (hd : d < n) (hn : n < 2 ^ 31) (hr : k + 1 + d = r) : k + 1 + x.toNatClampNeg = r := by rw [hx, nI_clamp (by omega)]; exact hr
theorem ix_in {x : Int32} {d n : Nat} (hx : x = nI d) (hd : d < n) (hn : n < 2 ^ 31) : vp_in x n := by rw [hx]; exact vp_in_nI hd hn
abbrev mX1_deputyAt : zM := (yX1_deputyAt, cX1_deputyAt, 2, (some (.object "VetoHouse$Deputy")), { frames := 0, cells := 0, slots := 0, locals := 0 })
set_option maxRecDepth 100000 in
set_option maxHeartbeats 4000000 in
theorem c_X1_deputyAt8s (l : Launch) (B : zB) (s : zS) (t : zL) (d : Nat) (hd : d < 6) (x : Int32) (hx : x = nI d) (hc : x < s 8 4) : zD l B mX1_deputyAt s t [.ref (B.1 + 8), .int x] (some (.ref (B.1 + (11 + d)))) s t := by
  refine z_met (by decide) (Nat.le_of_ble_eq_true rfl) ?_
  intro X hl C E hnm
  show Zf X B mX1_deputyAt s t 0 [(0, .ref (B.1 + 8)), (1, .int x)] []
  refine z_iload_n C dX1_deputyAt_0 1 rfl rfl ?_
  refine z_if_lt C 30 dX1_deputyAt_1 (by decide) (fun hbr => absurd hbr (by rw [hx]; exact nI_pos (by omega))) (fun _ => ?_)
  refine z_iload_n C dX1_deputyAt_4 1 rfl rfl ?_
  refine z_aload_n C dX1_deputyAt_5 0 rfl rfl ?_
  refine f_get1 C 4 (v := .int (s 8 4)) (by decide) tw_172 rfl zk_8 zb_8 rfl dX1_deputyAt_6 ?_
  refine z_icmp_ge C 30 dX1_deputyAt_9 (by decide) (fun hbr => absurd hbr (Int32.not_le.mpr hc)) (fun _ => ?_)
  refine z_iload_n C dX1_deputyAt_12 1 rfl rfl ?_
  refine z_aload_n C dX1_deputyAt_13 0 rfl rfl ?_
  refine f_get1 C 1 (v := .ref (B.1 + 10)) (by decide) tw_169 rfl zk_8 zb_8 rfl dX1_deputyAt_14 ?_
  refine f_alen23 C (v := 6) zk_10 zb_10 rfl dX1_deputyAt_17 ?_
  refine z_icmp_ge C 30 dX1_deputyAt_18 (by decide) (fun hbr => absurd hbr (by rw [hx]; exact fun q => nI_ge hd (by decide) q)) (fun _ => ?_)
  refine z_aload_n C dX1_deputyAt_21 0 rfl rfl ?_
  refine f_get1 C 1 (v := .ref (B.1 + 10)) (by decide) tw_169 rfl zk_8 zb_8 rfl dX1_deputyAt_22 ?_
  refine z_iload_n C dX1_deputyAt_25 1 rfl rfl ?_
  refine f_aaldL23 C zk_10 zb_10 (ix_in hx hd (by decide)) (r := (11 + d)) (ix_at hx hd (by decide) (by omega)) dX1_deputyAt_26 ?_
  refine z_goto C 31 dX1_deputyAt_27 (by decide) ?_
  refine z_aret C E rfl dX1_deputyAt_31 (Or.inr ⟨_, rfl⟩) rfl (Nat.le_refl _) ⟨rfl, rfl⟩
set_option maxRecDepth 100000 in
set_option maxHeartbeats 4000000 in
theorem c_X1_deputyAt8n (l : Launch) (B : zB) (s : zS) (t : zL) (x : Int32) (hx : x < 0 ∨ s 8 4 ≤ x) : zD l B mX1_deputyAt s t [.ref (B.1 + 8), .int x] (some (.null)) s t := by
  refine z_met (by decide) (Nat.le_of_ble_eq_true rfl) ?_
  intro X hl C E hnm
  show Zf X B mX1_deputyAt s t 0 [(0, .ref (B.1 + 8)), (1, .int x)] []
  refine z_iload_n C dX1_deputyAt_0 1 rfl rfl ?_
  refine z_if_lt C 30 dX1_deputyAt_1 (by decide) (fun h1 => ?_) (fun h1 => ?_)
  · refine z_null C dX1_deputyAt_30 ?_
    refine z_aret C E rfl dX1_deputyAt_31 (Or.inl rfl) rfl (Nat.le_refl _) ⟨rfl, rfl⟩
  · refine z_iload_n C dX1_deputyAt_4 1 rfl rfl ?_
    refine z_aload_n C dX1_deputyAt_5 0 rfl rfl ?_
    refine f_get1 C 4 (v := .int (s 8 4)) (by decide) tw_172 rfl zk_8 zb_8 rfl dX1_deputyAt_6 ?_
    refine z_icmp_ge C 30 dX1_deputyAt_9 (by decide) (fun _ => ?_) (fun hbr => absurd (hx.resolve_left h1) hbr)
    refine z_null C dX1_deputyAt_30 ?_
    refine z_aret C E rfl dX1_deputyAt_31 (Or.inl rfl) rfl (Nat.le_refl _) ⟨rfl, rfl⟩
set_option maxRecDepth 100000 in
set_option maxHeartbeats 4000000 in
theorem c_X1_deputyAt33s (l : Launch) (B : zB) (s : zS) (t : zL) (d : Nat) (hd : d < 6) (x : Int32) (hx : x = nI d) (hc : x < s 33 4) : zD l B mX1_deputyAt s t [.ref (B.1 + 33), .int x] (some (.ref (B.1 + (36 + d)))) s t := by
  refine z_met (by decide) (Nat.le_of_ble_eq_true rfl) ?_
  intro X hl C E hnm
  show Zf X B mX1_deputyAt s t 0 [(0, .ref (B.1 + 33)), (1, .int x)] []
  refine z_iload_n C dX1_deputyAt_0 1 rfl rfl ?_
  refine z_if_lt C 30 dX1_deputyAt_1 (by decide) (fun hbr => absurd hbr (by rw [hx]; exact nI_pos (by omega))) (fun _ => ?_)
  refine z_iload_n C dX1_deputyAt_4 1 rfl rfl ?_
  refine z_aload_n C dX1_deputyAt_5 0 rfl rfl ?_
  refine f_get1 C 4 (v := .int (s 33 4)) (by decide) tw_172 rfl zk_33 zb_33 rfl dX1_deputyAt_6 ?_
  refine z_icmp_ge C 30 dX1_deputyAt_9 (by decide) (fun hbr => absurd hbr (Int32.not_le.mpr hc)) (fun _ => ?_)
  refine z_iload_n C dX1_deputyAt_12 1 rfl rfl ?_
  refine z_aload_n C dX1_deputyAt_13 0 rfl rfl ?_
  refine f_get1 C 1 (v := .ref (B.1 + 35)) (by decide) tw_169 rfl zk_33 zb_33 rfl dX1_deputyAt_14 ?_
  refine f_alen23 C (v := 6) zk_35 zb_35 rfl dX1_deputyAt_17 ?_
  refine z_icmp_ge C 30 dX1_deputyAt_18 (by decide) (fun hbr => absurd hbr (by rw [hx]; exact fun q => nI_ge hd (by decide) q)) (fun _ => ?_)
  refine z_aload_n C dX1_deputyAt_21 0 rfl rfl ?_
  refine f_get1 C 1 (v := .ref (B.1 + 35)) (by decide) tw_169 rfl zk_33 zb_33 rfl dX1_deputyAt_22 ?_
  refine z_iload_n C dX1_deputyAt_25 1 rfl rfl ?_
  refine f_aaldL23 C zk_35 zb_35 (ix_in hx hd (by decide)) (r := (36 + d)) (ix_at hx hd (by decide) (by omega)) dX1_deputyAt_26 ?_
  refine z_goto C 31 dX1_deputyAt_27 (by decide) ?_
  refine z_aret C E rfl dX1_deputyAt_31 (Or.inr ⟨_, rfl⟩) rfl (Nat.le_refl _) ⟨rfl, rfl⟩
set_option maxRecDepth 100000 in
set_option maxHeartbeats 4000000 in
theorem c_X1_deputyAt33n (l : Launch) (B : zB) (s : zS) (t : zL) (x : Int32) (hx : x < 0 ∨ s 33 4 ≤ x) : zD l B mX1_deputyAt s t [.ref (B.1 + 33), .int x] (some (.null)) s t := by
  refine z_met (by decide) (Nat.le_of_ble_eq_true rfl) ?_
  intro X hl C E hnm
  show Zf X B mX1_deputyAt s t 0 [(0, .ref (B.1 + 33)), (1, .int x)] []
  refine z_iload_n C dX1_deputyAt_0 1 rfl rfl ?_
  refine z_if_lt C 30 dX1_deputyAt_1 (by decide) (fun h1 => ?_) (fun h1 => ?_)
  · refine z_null C dX1_deputyAt_30 ?_
    refine z_aret C E rfl dX1_deputyAt_31 (Or.inl rfl) rfl (Nat.le_refl _) ⟨rfl, rfl⟩
  · refine z_iload_n C dX1_deputyAt_4 1 rfl rfl ?_
    refine z_aload_n C dX1_deputyAt_5 0 rfl rfl ?_
    refine f_get1 C 4 (v := .int (s 33 4)) (by decide) tw_172 rfl zk_33 zb_33 rfl dX1_deputyAt_6 ?_
    refine z_icmp_ge C 30 dX1_deputyAt_9 (by decide) (fun _ => ?_) (fun hbr => absurd (hx.resolve_left h1) hbr)
    refine z_null C dX1_deputyAt_30 ?_
    refine z_aret C E rfl dX1_deputyAt_31 (Or.inl rfl) rfl (Nat.le_refl _) ⟨rfl, rfl⟩
abbrev mX1_noteAt : zM := (yX1_noteAt, cX1_noteAt, 2, (some (.object "VetoHouse$Note")), { frames := 0, cells := 0, slots := 0, locals := 0 })
set_option maxRecDepth 100000 in
set_option maxHeartbeats 4000000 in
theorem c_X1_noteAt8s (l : Launch) (B : zB) (s : zS) (t : zL) (d : Nat) (hd : d < 6) (x : Int32) (hx : x = nI d) (hc : x < s 8 5) : zD l B mX1_noteAt s t [.ref (B.1 + 8), .int x] (some (.ref (B.1 + (18 + d)))) s t := by
  refine z_met (by decide) (Nat.le_of_ble_eq_true rfl) ?_
  intro X hl C E hnm
  show Zf X B mX1_noteAt s t 0 [(0, .ref (B.1 + 8)), (1, .int x)] []
  refine z_iload_n C dX1_noteAt_0 1 rfl rfl ?_
  refine z_if_lt C 30 dX1_noteAt_1 (by decide) (fun hbr => absurd hbr (by rw [hx]; exact nI_pos (by omega))) (fun _ => ?_)
  refine z_iload_n C dX1_noteAt_4 1 rfl rfl ?_
  refine z_aload_n C dX1_noteAt_5 0 rfl rfl ?_
  refine f_get1 C 5 (v := .int (s 8 5)) (by decide) tw_174 rfl zk_8 zb_8 rfl dX1_noteAt_6 ?_
  refine z_icmp_ge C 30 dX1_noteAt_9 (by decide) (fun hbr => absurd hbr (Int32.not_le.mpr hc)) (fun _ => ?_)
  refine z_iload_n C dX1_noteAt_12 1 rfl rfl ?_
  refine z_aload_n C dX1_noteAt_13 0 rfl rfl ?_
  refine f_get1 C 2 (v := .ref (B.1 + 17)) (by decide) tw_170 rfl zk_8 zb_8 rfl dX1_noteAt_14 ?_
  refine f_alen25 C (v := 6) zk_17 zb_17 rfl dX1_noteAt_17 ?_
  refine z_icmp_ge C 30 dX1_noteAt_18 (by decide) (fun hbr => absurd hbr (by rw [hx]; exact fun q => nI_ge hd (by decide) q)) (fun _ => ?_)
  refine z_aload_n C dX1_noteAt_21 0 rfl rfl ?_
  refine f_get1 C 2 (v := .ref (B.1 + 17)) (by decide) tw_170 rfl zk_8 zb_8 rfl dX1_noteAt_22 ?_
  refine z_iload_n C dX1_noteAt_25 1 rfl rfl ?_
  refine f_aaldL25 C zk_17 zb_17 (ix_in hx hd (by decide)) (r := (18 + d)) (ix_at hx hd (by decide) (by omega)) dX1_noteAt_26 ?_
  refine z_goto C 31 dX1_noteAt_27 (by decide) ?_
  refine z_aret C E rfl dX1_noteAt_31 (Or.inr ⟨_, rfl⟩) rfl (Nat.le_refl _) ⟨rfl, rfl⟩
set_option maxRecDepth 100000 in
set_option maxHeartbeats 4000000 in
theorem c_X1_noteAt8n (l : Launch) (B : zB) (s : zS) (t : zL) (x : Int32) (hx : x < 0 ∨ s 8 5 ≤ x) : zD l B mX1_noteAt s t [.ref (B.1 + 8), .int x] (some (.null)) s t := by
  refine z_met (by decide) (Nat.le_of_ble_eq_true rfl) ?_
  intro X hl C E hnm
  show Zf X B mX1_noteAt s t 0 [(0, .ref (B.1 + 8)), (1, .int x)] []
  refine z_iload_n C dX1_noteAt_0 1 rfl rfl ?_
  refine z_if_lt C 30 dX1_noteAt_1 (by decide) (fun h1 => ?_) (fun h1 => ?_)
  · refine z_null C dX1_noteAt_30 ?_
    refine z_aret C E rfl dX1_noteAt_31 (Or.inl rfl) rfl (Nat.le_refl _) ⟨rfl, rfl⟩
  · refine z_iload_n C dX1_noteAt_4 1 rfl rfl ?_
    refine z_aload_n C dX1_noteAt_5 0 rfl rfl ?_
    refine f_get1 C 5 (v := .int (s 8 5)) (by decide) tw_174 rfl zk_8 zb_8 rfl dX1_noteAt_6 ?_
    refine z_icmp_ge C 30 dX1_noteAt_9 (by decide) (fun _ => ?_) (fun hbr => absurd (hx.resolve_left h1) hbr)
    refine z_null C dX1_noteAt_30 ?_
    refine z_aret C E rfl dX1_noteAt_31 (Or.inl rfl) rfl (Nat.le_refl _) ⟨rfl, rfl⟩
abbrev mX11_kindAt : zM := (yX11_kindAt, cX11_kindAt, 2, (some (.object "VetoHouse$Plain")), { frames := 1, cells := 0, slots := 0, locals := 21 })
set_option maxRecDepth 100000 in
set_option maxHeartbeats 4000000 in
theorem c_X11_kindAt0 (l : Launch) (B : zB) (s : zS) (t : zL)  : zD l B mX11_kindAt s t [.ref (B.1 + 0), .int 0] (some (.ref (B.1 + 2))) s t := by
  refine z_met (by decide) (Nat.le_of_ble_eq_true rfl) ?_
  intro X hl C E hnm
  show Zf X B mX11_kindAt s t 0 [(0, .ref (B.1 + 0)), (1, .int 0)] []
  refine z_aload_n C dX11_kindAt_0 0 rfl rfl ?_
  refine f_get11 C 0 (v := .ref (B.1 + 1)) (by decide) tw_225 rfl zk_0 zb_0 rfl dX11_kindAt_1 ?_
  refine z_iload_n C dX11_kindAt_4 1 rfl rfl ?_
  refine z_aload_n C dX11_kindAt_5 0 rfl rfl ?_
  refine f_get11 C 0 (v := .ref (B.1 + 1)) (by decide) tw_225 rfl zk_0 zb_0 rfl dX11_kindAt_6 ?_
  refine f_alen26 C (v := 6) zk_1 zb_1 rfl dX11_kindAt_9 ?_
  refine z_iconst C dX11_kindAt_10 ki_1 ?_
  refine z_isub C dX11_kindAt_11 ?_
  refine f_callSr C hl (As := [.int 0, .int (6 - 1)]) (rest := [.ref (B.1 + 1)]) (c_X11_within l B s t 0 (6 - 1)) (zCB (nA := 2) C rfl rfl tw_268 tw_1 tw_266 (by decide +kernel) ⟨Nat.le_of_ble_eq_true rfl, Nat.le_of_ble_eq_true rfl⟩) tw_267 rfl rfl (Nat.le_of_ble_eq_true rfl) dX11_kindAt_12 (Nat.zero_le _) ?_
  refine z_ifb_eq C 22 dX11_kindAt_15 (by decide) (fun hbr => absurd hbr (by decide)) (fun _ => ?_)
  refine z_iload_n C dX11_kindAt_18 1 rfl rfl ?_
  refine z_goto C 23 dX11_kindAt_19 (by decide) ?_
  refine f_aaldL26 C zk_1 zb_1 (by unfold vp_in; decide) (r := 2) (by decide) dX11_kindAt_23 ?_
  refine z_aret C E rfl dX11_kindAt_24 (Or.inr ⟨_, rfl⟩) rfl (Nat.le_refl _) ⟨rfl, rfl⟩
set_option maxRecDepth 100000 in
set_option maxHeartbeats 4000000 in
theorem c_X11_kindAt1 (l : Launch) (B : zB) (s : zS) (t : zL)  : zD l B mX11_kindAt s t [.ref (B.1 + 0), .int 1] (some (.ref (B.1 + 3))) s t := by
  refine z_met (by decide) (Nat.le_of_ble_eq_true rfl) ?_
  intro X hl C E hnm
  show Zf X B mX11_kindAt s t 0 [(0, .ref (B.1 + 0)), (1, .int 1)] []
  refine z_aload_n C dX11_kindAt_0 0 rfl rfl ?_
  refine f_get11 C 0 (v := .ref (B.1 + 1)) (by decide) tw_225 rfl zk_0 zb_0 rfl dX11_kindAt_1 ?_
  refine z_iload_n C dX11_kindAt_4 1 rfl rfl ?_
  refine z_aload_n C dX11_kindAt_5 0 rfl rfl ?_
  refine f_get11 C 0 (v := .ref (B.1 + 1)) (by decide) tw_225 rfl zk_0 zb_0 rfl dX11_kindAt_6 ?_
  refine f_alen26 C (v := 6) zk_1 zb_1 rfl dX11_kindAt_9 ?_
  refine z_iconst C dX11_kindAt_10 ki_1 ?_
  refine z_isub C dX11_kindAt_11 ?_
  refine f_callSr C hl (As := [.int 1, .int (6 - 1)]) (rest := [.ref (B.1 + 1)]) (c_X11_within l B s t 1 (6 - 1)) (zCB (nA := 2) C rfl rfl tw_268 tw_1 tw_266 (by decide +kernel) ⟨Nat.le_of_ble_eq_true rfl, Nat.le_of_ble_eq_true rfl⟩) tw_267 rfl rfl (Nat.le_of_ble_eq_true rfl) dX11_kindAt_12 (Nat.zero_le _) ?_
  refine z_ifb_eq C 22 dX11_kindAt_15 (by decide) (fun hbr => absurd hbr (by decide)) (fun _ => ?_)
  refine z_iload_n C dX11_kindAt_18 1 rfl rfl ?_
  refine z_goto C 23 dX11_kindAt_19 (by decide) ?_
  refine f_aaldL26 C zk_1 zb_1 (by unfold vp_in; decide) (r := 3) (by decide) dX11_kindAt_23 ?_
  refine z_aret C E rfl dX11_kindAt_24 (Or.inr ⟨_, rfl⟩) rfl (Nat.le_refl _) ⟨rfl, rfl⟩
set_option maxRecDepth 100000 in
set_option maxHeartbeats 4000000 in
theorem c_X11_kindAt2 (l : Launch) (B : zB) (s : zS) (t : zL)  : zD l B mX11_kindAt s t [.ref (B.1 + 0), .int 2] (some (.ref (B.1 + 4))) s t := by
  refine z_met (by decide) (Nat.le_of_ble_eq_true rfl) ?_
  intro X hl C E hnm
  show Zf X B mX11_kindAt s t 0 [(0, .ref (B.1 + 0)), (1, .int 2)] []
  refine z_aload_n C dX11_kindAt_0 0 rfl rfl ?_
  refine f_get11 C 0 (v := .ref (B.1 + 1)) (by decide) tw_225 rfl zk_0 zb_0 rfl dX11_kindAt_1 ?_
  refine z_iload_n C dX11_kindAt_4 1 rfl rfl ?_
  refine z_aload_n C dX11_kindAt_5 0 rfl rfl ?_
  refine f_get11 C 0 (v := .ref (B.1 + 1)) (by decide) tw_225 rfl zk_0 zb_0 rfl dX11_kindAt_6 ?_
  refine f_alen26 C (v := 6) zk_1 zb_1 rfl dX11_kindAt_9 ?_
  refine z_iconst C dX11_kindAt_10 ki_1 ?_
  refine z_isub C dX11_kindAt_11 ?_
  refine f_callSr C hl (As := [.int 2, .int (6 - 1)]) (rest := [.ref (B.1 + 1)]) (c_X11_within l B s t 2 (6 - 1)) (zCB (nA := 2) C rfl rfl tw_268 tw_1 tw_266 (by decide +kernel) ⟨Nat.le_of_ble_eq_true rfl, Nat.le_of_ble_eq_true rfl⟩) tw_267 rfl rfl (Nat.le_of_ble_eq_true rfl) dX11_kindAt_12 (Nat.zero_le _) ?_
  refine z_ifb_eq C 22 dX11_kindAt_15 (by decide) (fun hbr => absurd hbr (by decide)) (fun _ => ?_)
  refine z_iload_n C dX11_kindAt_18 1 rfl rfl ?_
  refine z_goto C 23 dX11_kindAt_19 (by decide) ?_
  refine f_aaldL26 C zk_1 zb_1 (by unfold vp_in; decide) (r := 4) (by decide) dX11_kindAt_23 ?_
  refine z_aret C E rfl dX11_kindAt_24 (Or.inr ⟨_, rfl⟩) rfl (Nat.le_refl _) ⟨rfl, rfl⟩
set_option maxRecDepth 100000 in
set_option maxHeartbeats 4000000 in
theorem c_X11_kindAt3 (l : Launch) (B : zB) (s : zS) (t : zL)  : zD l B mX11_kindAt s t [.ref (B.1 + 0), .int 3] (some (.ref (B.1 + 5))) s t := by
  refine z_met (by decide) (Nat.le_of_ble_eq_true rfl) ?_
  intro X hl C E hnm
  show Zf X B mX11_kindAt s t 0 [(0, .ref (B.1 + 0)), (1, .int 3)] []
  refine z_aload_n C dX11_kindAt_0 0 rfl rfl ?_
  refine f_get11 C 0 (v := .ref (B.1 + 1)) (by decide) tw_225 rfl zk_0 zb_0 rfl dX11_kindAt_1 ?_
  refine z_iload_n C dX11_kindAt_4 1 rfl rfl ?_
  refine z_aload_n C dX11_kindAt_5 0 rfl rfl ?_
  refine f_get11 C 0 (v := .ref (B.1 + 1)) (by decide) tw_225 rfl zk_0 zb_0 rfl dX11_kindAt_6 ?_
  refine f_alen26 C (v := 6) zk_1 zb_1 rfl dX11_kindAt_9 ?_
  refine z_iconst C dX11_kindAt_10 ki_1 ?_
  refine z_isub C dX11_kindAt_11 ?_
  refine f_callSr C hl (As := [.int 3, .int (6 - 1)]) (rest := [.ref (B.1 + 1)]) (c_X11_within l B s t 3 (6 - 1)) (zCB (nA := 2) C rfl rfl tw_268 tw_1 tw_266 (by decide +kernel) ⟨Nat.le_of_ble_eq_true rfl, Nat.le_of_ble_eq_true rfl⟩) tw_267 rfl rfl (Nat.le_of_ble_eq_true rfl) dX11_kindAt_12 (Nat.zero_le _) ?_
  refine z_ifb_eq C 22 dX11_kindAt_15 (by decide) (fun hbr => absurd hbr (by decide)) (fun _ => ?_)
  refine z_iload_n C dX11_kindAt_18 1 rfl rfl ?_
  refine z_goto C 23 dX11_kindAt_19 (by decide) ?_
  refine f_aaldL26 C zk_1 zb_1 (by unfold vp_in; decide) (r := 5) (by decide) dX11_kindAt_23 ?_
  refine z_aret C E rfl dX11_kindAt_24 (Or.inr ⟨_, rfl⟩) rfl (Nat.le_refl _) ⟨rfl, rfl⟩
set_option maxRecDepth 100000 in
set_option maxHeartbeats 4000000 in
theorem c_X11_kindAt4 (l : Launch) (B : zB) (s : zS) (t : zL)  : zD l B mX11_kindAt s t [.ref (B.1 + 0), .int 4] (some (.ref (B.1 + 6))) s t := by
  refine z_met (by decide) (Nat.le_of_ble_eq_true rfl) ?_
  intro X hl C E hnm
  show Zf X B mX11_kindAt s t 0 [(0, .ref (B.1 + 0)), (1, .int 4)] []
  refine z_aload_n C dX11_kindAt_0 0 rfl rfl ?_
  refine f_get11 C 0 (v := .ref (B.1 + 1)) (by decide) tw_225 rfl zk_0 zb_0 rfl dX11_kindAt_1 ?_
  refine z_iload_n C dX11_kindAt_4 1 rfl rfl ?_
  refine z_aload_n C dX11_kindAt_5 0 rfl rfl ?_
  refine f_get11 C 0 (v := .ref (B.1 + 1)) (by decide) tw_225 rfl zk_0 zb_0 rfl dX11_kindAt_6 ?_
  refine f_alen26 C (v := 6) zk_1 zb_1 rfl dX11_kindAt_9 ?_
  refine z_iconst C dX11_kindAt_10 ki_1 ?_
  refine z_isub C dX11_kindAt_11 ?_
  refine f_callSr C hl (As := [.int 4, .int (6 - 1)]) (rest := [.ref (B.1 + 1)]) (c_X11_within l B s t 4 (6 - 1)) (zCB (nA := 2) C rfl rfl tw_268 tw_1 tw_266 (by decide +kernel) ⟨Nat.le_of_ble_eq_true rfl, Nat.le_of_ble_eq_true rfl⟩) tw_267 rfl rfl (Nat.le_of_ble_eq_true rfl) dX11_kindAt_12 (Nat.zero_le _) ?_
  refine z_ifb_eq C 22 dX11_kindAt_15 (by decide) (fun hbr => absurd hbr (by decide)) (fun _ => ?_)
  refine z_iload_n C dX11_kindAt_18 1 rfl rfl ?_
  refine z_goto C 23 dX11_kindAt_19 (by decide) ?_
  refine f_aaldL26 C zk_1 zb_1 (by unfold vp_in; decide) (r := 6) (by decide) dX11_kindAt_23 ?_
  refine z_aret C E rfl dX11_kindAt_24 (Or.inr ⟨_, rfl⟩) rfl (Nat.le_refl _) ⟨rfl, rfl⟩
set_option maxRecDepth 100000 in
set_option maxHeartbeats 4000000 in
theorem c_X11_kindAt5 (l : Launch) (B : zB) (s : zS) (t : zL)  : zD l B mX11_kindAt s t [.ref (B.1 + 0), .int 5] (some (.ref (B.1 + 7))) s t := by
  refine z_met (by decide) (Nat.le_of_ble_eq_true rfl) ?_
  intro X hl C E hnm
  show Zf X B mX11_kindAt s t 0 [(0, .ref (B.1 + 0)), (1, .int 5)] []
  refine z_aload_n C dX11_kindAt_0 0 rfl rfl ?_
  refine f_get11 C 0 (v := .ref (B.1 + 1)) (by decide) tw_225 rfl zk_0 zb_0 rfl dX11_kindAt_1 ?_
  refine z_iload_n C dX11_kindAt_4 1 rfl rfl ?_
  refine z_aload_n C dX11_kindAt_5 0 rfl rfl ?_
  refine f_get11 C 0 (v := .ref (B.1 + 1)) (by decide) tw_225 rfl zk_0 zb_0 rfl dX11_kindAt_6 ?_
  refine f_alen26 C (v := 6) zk_1 zb_1 rfl dX11_kindAt_9 ?_
  refine z_iconst C dX11_kindAt_10 ki_1 ?_
  refine z_isub C dX11_kindAt_11 ?_
  refine f_callSr C hl (As := [.int 5, .int (6 - 1)]) (rest := [.ref (B.1 + 1)]) (c_X11_within l B s t 5 (6 - 1)) (zCB (nA := 2) C rfl rfl tw_268 tw_1 tw_266 (by decide +kernel) ⟨Nat.le_of_ble_eq_true rfl, Nat.le_of_ble_eq_true rfl⟩) tw_267 rfl rfl (Nat.le_of_ble_eq_true rfl) dX11_kindAt_12 (Nat.zero_le _) ?_
  refine z_ifb_eq C 22 dX11_kindAt_15 (by decide) (fun hbr => absurd hbr (by decide)) (fun _ => ?_)
  refine z_iload_n C dX11_kindAt_18 1 rfl rfl ?_
  refine z_goto C 23 dX11_kindAt_19 (by decide) ?_
  refine f_aaldL26 C zk_1 zb_1 (by unfold vp_in; decide) (r := 7) (by decide) dX11_kindAt_23 ?_
  refine z_aret C E rfl dX11_kindAt_24 (Or.inr ⟨_, rfl⟩) rfl (Nat.le_refl _) ⟨rfl, rfl⟩
abbrev mX11_wouldStop : zM := (yX11_wouldStop, cX11_wouldStop, 8, (some .boolean), { frames := 3, cells := 0, slots := 0, locals := 69 })
set_option maxRecDepth 100000 in
set_option maxHeartbeats 4000000 in
theorem c_X11_wouldStop0 (l : Launch) (B : zB) (s : zS) (t : zL) (lo ha bu d : Int32) (hb : r8 bu) : zD l B mX11_wouldStop s t [.ref (B.1 + 0), .int 0, .int lo, .int ha, .int bu, .int d] (some (.int (zi (wStop 0 lo ha bu d)))) s t := by
  refine z_met (by decide) (Nat.le_of_ble_eq_true rfl) ?_
  intro X hl C E hnm
  show Zf X B mX11_wouldStop s t 0 [(0, .ref (B.1 + 0)), (1, .int 0), (2, .int lo), (3, .int ha), (4, .int bu), (5, .int d)] []
  refine z_iload C dX11_wouldStop_0 4 rfl ?_
  refine z_if_ne C 7 dX11_wouldStop_2 (by decide) (fun h2 => ?_) (fun h2 => ?_)
  · refine z_aload_n C dX11_wouldStop_7 0 rfl rfl ?_
    refine z_iload_n C dX11_wouldStop_8 1 rfl rfl ?_
    refine f_callVr C hl (As := [.int 0]) (rest := []) (c_X11_kindAt0 l B s t) zb_0 (zg_11 zk_0) rfl (zCB (nA := 1) C rfl rfl tw_483 tw_1 tw_480 (by decide +kernel) ⟨Nat.le_of_ble_eq_true rfl, Nat.le_of_ble_eq_true rfl⟩) tw_482 tp_12 rfl rfl (Nat.le_of_ble_eq_true rfl) dX11_wouldStop_9 (Nat.zero_le _) ?_
    refine z_astore C [(6, .ref (B.1 + 2)), (0, .ref (B.1 + 0)), (1, .int 0), (2, .int lo), (3, .int ha), (4, .int bu), (5, .int d)] dX11_wouldStop_12 (by decide) rfl ?_
    refine z_iload_n C dX11_wouldStop_14 4 rfl rfl ?_
    refine z_iload C dX11_wouldStop_15 5 rfl ?_
    refine z_iand C dX11_wouldStop_17 ?_
    refine f_callSr C hl (As := [.int (ha &&& bu)]) (rest := []) (c_J6_bitCount_0f7a4 l B s t (ha &&& bu) (r8_and' hb)) (zCB (nA := 1) C rfl rfl tw_486 tw_19 tw_484 (by decide +kernel) ⟨Nat.le_of_ble_eq_true rfl, Nat.le_of_ble_eq_true rfl⟩) tw_485 rfl rfl (Nat.le_of_ble_eq_true rfl) dX11_wouldStop_18 (Nat.zero_le _) ?_
    refine z_istore C [(7, .int (wPop (ha &&& bu))), (6, .ref (B.1 + 2)), (0, .ref (B.1 + 0)), (1, .int 0), (2, .int lo), (3, .int ha), (4, .int bu), (5, .int d)] dX11_wouldStop_21 (by decide) rfl ?_
    refine z_aload C dX11_wouldStop_23 1 rfl ?_
    refine z_aload C dX11_wouldStop_25 1 rfl ?_
    refine z_iload_n C dX11_wouldStop_27 4 rfl rfl ?_
    refine z_iload C dX11_wouldStop_28 6 rfl ?_
    refine z_iand C dX11_wouldStop_30 ?_
    refine f_callSr C hl (As := [.int (lo &&& bu)]) (rest := [.ref (B.1 + 2), .ref (B.1 + 2)]) (c_J6_bitCount_0f7a4 l B s t (lo &&& bu) (r8_and' hb)) (zCB (nA := 1) C rfl rfl tw_486 tw_19 tw_484 (by decide +kernel) ⟨Nat.le_of_ble_eq_true rfl, Nat.le_of_ble_eq_true rfl⟩) tw_485 rfl rfl (Nat.le_of_ble_eq_true rfl) dX11_wouldStop_31 (Nat.zero_le _) ?_
    refine z_iload C dX11_wouldStop_34 0 rfl ?_
    refine f_callVr C hl (As := [.int (wPop (lo &&& bu)), .int (wPop (ha &&& bu))]) (rest := [.ref (B.1 + 2)]) (c_X5_joyBy l B s t 2 0 (wPop (lo &&& bu)) (wPop (ha &&& bu))) zb_2 (zg_5 zk_2) rfl (zCB (nA := 2) C rfl rfl tw_502 tw_2 tw_490 (by decide +kernel) ⟨Nat.le_of_ble_eq_true rfl, Nat.le_of_ble_eq_true rfl⟩) tw_491 tw_492 rfl rfl (Nat.le_of_ble_eq_true rfl) dX11_wouldStop_36 (Nat.zero_le _) ?_
    refine z_iload C dX11_wouldStop_39 0 rfl ?_
    refine z_iload C dX11_wouldStop_41 7 rfl ?_
    refine f_callVr C hl (As := [.int (2 * (wPop (lo &&& bu)) - 3 * (wPop (ha &&& bu))), .int (wPop (ha &&& bu)), .int d]) (rest := []) (c_X5_refuses l B s t 2 0 (2 * (wPop (lo &&& bu)) - 3 * (wPop (ha &&& bu))) (wPop (ha &&& bu)) d) zb_2 (zg_5 zk_2) rfl (zCB (nA := 3) C rfl rfl tw_523 tw_2 tw_503 (by decide +kernel) ⟨Nat.le_of_ble_eq_true rfl, Nat.le_of_ble_eq_true rfl⟩) tw_504 tw_505 rfl rfl (Nat.le_of_ble_eq_true rfl) dX11_wouldStop_43 (Nat.zero_le _) ?_
    refine z_zret C E rfl dX11_wouldStop_46 (zi_nar _) rfl (Nat.le_refl _) ⟨by simp [wStop, wRef, wJoy, h2, zi], rfl⟩
  · refine z_iconst C dX11_wouldStop_5 ki_0 ?_
    refine z_zret C E rfl dX11_wouldStop_6 rfl rfl (Nat.le_refl _) ⟨by simp [wStop, wRef, wJoy, h2, zi], rfl⟩
set_option maxRecDepth 100000 in
set_option maxHeartbeats 4000000 in
theorem c_X11_wouldStop1 (l : Launch) (B : zB) (s : zS) (t : zL) (lo ha bu d : Int32) (hb : r8 bu) : zD l B mX11_wouldStop s t [.ref (B.1 + 0), .int 1, .int lo, .int ha, .int bu, .int d] (some (.int (zi (wStop 1 lo ha bu d)))) s t := by
  refine z_met (by decide) (Nat.le_of_ble_eq_true rfl) ?_
  intro X hl C E hnm
  show Zf X B mX11_wouldStop s t 0 [(0, .ref (B.1 + 0)), (1, .int 1), (2, .int lo), (3, .int ha), (4, .int bu), (5, .int d)] []
  refine z_iload C dX11_wouldStop_0 4 rfl ?_
  refine z_if_ne C 7 dX11_wouldStop_2 (by decide) (fun h2 => ?_) (fun h2 => ?_)
  · refine z_aload_n C dX11_wouldStop_7 0 rfl rfl ?_
    refine z_iload_n C dX11_wouldStop_8 1 rfl rfl ?_
    refine f_callVr C hl (As := [.int 1]) (rest := []) (c_X11_kindAt1 l B s t) zb_0 (zg_11 zk_0) rfl (zCB (nA := 1) C rfl rfl tw_483 tw_1 tw_480 (by decide +kernel) ⟨Nat.le_of_ble_eq_true rfl, Nat.le_of_ble_eq_true rfl⟩) tw_482 tp_12 rfl rfl (Nat.le_of_ble_eq_true rfl) dX11_wouldStop_9 (Nat.zero_le _) ?_
    refine z_astore C [(6, .ref (B.1 + 3)), (0, .ref (B.1 + 0)), (1, .int 1), (2, .int lo), (3, .int ha), (4, .int bu), (5, .int d)] dX11_wouldStop_12 (by decide) rfl ?_
    refine z_iload_n C dX11_wouldStop_14 4 rfl rfl ?_
    refine z_iload C dX11_wouldStop_15 5 rfl ?_
    refine z_iand C dX11_wouldStop_17 ?_
    refine f_callSr C hl (As := [.int (ha &&& bu)]) (rest := []) (c_J6_bitCount_0f7a4 l B s t (ha &&& bu) (r8_and' hb)) (zCB (nA := 1) C rfl rfl tw_486 tw_19 tw_484 (by decide +kernel) ⟨Nat.le_of_ble_eq_true rfl, Nat.le_of_ble_eq_true rfl⟩) tw_485 rfl rfl (Nat.le_of_ble_eq_true rfl) dX11_wouldStop_18 (Nat.zero_le _) ?_
    refine z_istore C [(7, .int (wPop (ha &&& bu))), (6, .ref (B.1 + 3)), (0, .ref (B.1 + 0)), (1, .int 1), (2, .int lo), (3, .int ha), (4, .int bu), (5, .int d)] dX11_wouldStop_21 (by decide) rfl ?_
    refine z_aload C dX11_wouldStop_23 1 rfl ?_
    refine z_aload C dX11_wouldStop_25 1 rfl ?_
    refine z_iload_n C dX11_wouldStop_27 4 rfl rfl ?_
    refine z_iload C dX11_wouldStop_28 6 rfl ?_
    refine z_iand C dX11_wouldStop_30 ?_
    refine f_callSr C hl (As := [.int (lo &&& bu)]) (rest := [.ref (B.1 + 3), .ref (B.1 + 3)]) (c_J6_bitCount_0f7a4 l B s t (lo &&& bu) (r8_and' hb)) (zCB (nA := 1) C rfl rfl tw_486 tw_19 tw_484 (by decide +kernel) ⟨Nat.le_of_ble_eq_true rfl, Nat.le_of_ble_eq_true rfl⟩) tw_485 rfl rfl (Nat.le_of_ble_eq_true rfl) dX11_wouldStop_31 (Nat.zero_le _) ?_
    refine z_iload C dX11_wouldStop_34 0 rfl ?_
    refine f_callUr C hl (As := [.int (wPop (lo &&& bu)), .int (wPop (ha &&& bu))]) (rest := [.ref (B.1 + 3)]) (c_X5_joyBy l B s t 3 0 (wPop (lo &&& bu)) (wPop (ha &&& bu))) zb_3 (zg_7 zk_3) rfl (zCU (nA := 2) C rfl rfl tw_502 tw_2 tw_490 tw_493 tw_500 tw_491 tw_491 tw_502 (by decide +kernel) ⟨Nat.le_of_ble_eq_true rfl, Nat.le_of_ble_eq_true rfl⟩) rfl rfl (Nat.le_of_ble_eq_true rfl) dX11_wouldStop_36 (Nat.zero_le _) ?_
    refine z_iload C dX11_wouldStop_39 0 rfl ?_
    refine z_iload C dX11_wouldStop_41 7 rfl ?_
    refine f_callUr C hl (As := [.int (2 * (wPop (lo &&& bu)) - 3 * (wPop (ha &&& bu))), .int (wPop (ha &&& bu)), .int d]) (rest := []) (c_X7_refuses l B s t 3 (2 * (wPop (lo &&& bu)) - 3 * (wPop (ha &&& bu))) (wPop (ha &&& bu)) d zk_3 zb_3) zb_3 (zg_7 zk_3) rfl (zCU (nA := 3) C rfl rfl tw_512 tw_3 tw_503 tw_506 tw_521 tw_511 tw_504 tw_523 (by decide +kernel) ⟨Nat.le_of_ble_eq_true rfl, Nat.le_of_ble_eq_true rfl⟩) rfl rfl (Nat.le_of_ble_eq_true rfl) dX11_wouldStop_43 (Nat.zero_le _) ?_
    refine z_zret C E rfl dX11_wouldStop_46 (zi_nar _) rfl (Nat.le_refl _) ⟨by simp [wStop, wRef, wJoy, h2, zi], rfl⟩
  · refine z_iconst C dX11_wouldStop_5 ki_0 ?_
    refine z_zret C E rfl dX11_wouldStop_6 rfl rfl (Nat.le_refl _) ⟨by simp [wStop, wRef, wJoy, h2, zi], rfl⟩
set_option maxRecDepth 100000 in
set_option maxHeartbeats 4000000 in
theorem c_X11_wouldStop2 (l : Launch) (B : zB) (s : zS) (t : zL) (lo ha bu d : Int32) (hb : r8 bu) : zD l B mX11_wouldStop s t [.ref (B.1 + 0), .int 2, .int lo, .int ha, .int bu, .int d] (some (.int (zi (wStop 2 lo ha bu d)))) s t := by
  refine z_met (by decide) (Nat.le_of_ble_eq_true rfl) ?_
  intro X hl C E hnm
  show Zf X B mX11_wouldStop s t 0 [(0, .ref (B.1 + 0)), (1, .int 2), (2, .int lo), (3, .int ha), (4, .int bu), (5, .int d)] []
  refine z_iload C dX11_wouldStop_0 4 rfl ?_
  refine z_if_ne C 7 dX11_wouldStop_2 (by decide) (fun h2 => ?_) (fun h2 => ?_)
  · refine z_aload_n C dX11_wouldStop_7 0 rfl rfl ?_
    refine z_iload_n C dX11_wouldStop_8 1 rfl rfl ?_
    refine f_callVr C hl (As := [.int 2]) (rest := []) (c_X11_kindAt2 l B s t) zb_0 (zg_11 zk_0) rfl (zCB (nA := 1) C rfl rfl tw_483 tw_1 tw_480 (by decide +kernel) ⟨Nat.le_of_ble_eq_true rfl, Nat.le_of_ble_eq_true rfl⟩) tw_482 tp_12 rfl rfl (Nat.le_of_ble_eq_true rfl) dX11_wouldStop_9 (Nat.zero_le _) ?_
    refine z_astore C [(6, .ref (B.1 + 4)), (0, .ref (B.1 + 0)), (1, .int 2), (2, .int lo), (3, .int ha), (4, .int bu), (5, .int d)] dX11_wouldStop_12 (by decide) rfl ?_
    refine z_iload_n C dX11_wouldStop_14 4 rfl rfl ?_
    refine z_iload C dX11_wouldStop_15 5 rfl ?_
    refine z_iand C dX11_wouldStop_17 ?_
    refine f_callSr C hl (As := [.int (ha &&& bu)]) (rest := []) (c_J6_bitCount_0f7a4 l B s t (ha &&& bu) (r8_and' hb)) (zCB (nA := 1) C rfl rfl tw_486 tw_19 tw_484 (by decide +kernel) ⟨Nat.le_of_ble_eq_true rfl, Nat.le_of_ble_eq_true rfl⟩) tw_485 rfl rfl (Nat.le_of_ble_eq_true rfl) dX11_wouldStop_18 (Nat.zero_le _) ?_
    refine z_istore C [(7, .int (wPop (ha &&& bu))), (6, .ref (B.1 + 4)), (0, .ref (B.1 + 0)), (1, .int 2), (2, .int lo), (3, .int ha), (4, .int bu), (5, .int d)] dX11_wouldStop_21 (by decide) rfl ?_
    refine z_aload C dX11_wouldStop_23 1 rfl ?_
    refine z_aload C dX11_wouldStop_25 1 rfl ?_
    refine z_iload_n C dX11_wouldStop_27 4 rfl rfl ?_
    refine z_iload C dX11_wouldStop_28 6 rfl ?_
    refine z_iand C dX11_wouldStop_30 ?_
    refine f_callSr C hl (As := [.int (lo &&& bu)]) (rest := [.ref (B.1 + 4), .ref (B.1 + 4)]) (c_J6_bitCount_0f7a4 l B s t (lo &&& bu) (r8_and' hb)) (zCB (nA := 1) C rfl rfl tw_486 tw_19 tw_484 (by decide +kernel) ⟨Nat.le_of_ble_eq_true rfl, Nat.le_of_ble_eq_true rfl⟩) tw_485 rfl rfl (Nat.le_of_ble_eq_true rfl) dX11_wouldStop_31 (Nat.zero_le _) ?_
    refine z_iload C dX11_wouldStop_34 0 rfl ?_
    refine f_callUr C hl (As := [.int (wPop (lo &&& bu)), .int (wPop (ha &&& bu))]) (rest := [.ref (B.1 + 4)]) (c_X10_joyBy l B s t 4 (wPop (lo &&& bu)) (wPop (ha &&& bu)) zk_4 zb_4) zb_4 (zg_10 zk_4) rfl (zCU (nA := 2) C rfl rfl tw_497 tw_4 tw_490 tw_493 tw_501 tw_496 tw_491 tw_502 (by decide +kernel) ⟨Nat.le_of_ble_eq_true rfl, Nat.le_of_ble_eq_true rfl⟩) rfl rfl (Nat.le_of_ble_eq_true rfl) dX11_wouldStop_36 (Nat.zero_le _) ?_
    refine z_iload C dX11_wouldStop_39 0 rfl ?_
    refine z_iload C dX11_wouldStop_41 7 rfl ?_
    refine f_callUr C hl (As := [.int (2 * (wPop (lo &&& bu)) - 3 * (wPop (ha &&& bu)) + 2), .int (wPop (ha &&& bu)), .int d]) (rest := []) (c_X5_refuses l B s t 4 0 (2 * (wPop (lo &&& bu)) - 3 * (wPop (ha &&& bu)) + 2) (wPop (ha &&& bu)) d) zb_4 (zg_10 zk_4) rfl (zCU (nA := 3) C rfl rfl tw_523 tw_2 tw_503 tw_506 tw_522 tw_504 tw_504 tw_523 (by decide +kernel) ⟨Nat.le_of_ble_eq_true rfl, Nat.le_of_ble_eq_true rfl⟩) rfl rfl (Nat.le_of_ble_eq_true rfl) dX11_wouldStop_43 (Nat.zero_le _) ?_
    refine z_zret C E rfl dX11_wouldStop_46 (zi_nar _) rfl (Nat.le_refl _) ⟨by simp [wStop, wRef, wJoy, h2, zi], rfl⟩
  · refine z_iconst C dX11_wouldStop_5 ki_0 ?_
    refine z_zret C E rfl dX11_wouldStop_6 rfl rfl (Nat.le_refl _) ⟨by simp [wStop, wRef, wJoy, h2, zi], rfl⟩
set_option maxRecDepth 100000 in
set_option maxHeartbeats 4000000 in
theorem c_X11_wouldStop3 (l : Launch) (B : zB) (s : zS) (t : zL) (lo ha bu d : Int32) (hb : r8 bu) : zD l B mX11_wouldStop s t [.ref (B.1 + 0), .int 3, .int lo, .int ha, .int bu, .int d] (some (.int (zi (wStop 3 lo ha bu d)))) s t := by
  refine z_met (by decide) (Nat.le_of_ble_eq_true rfl) ?_
  intro X hl C E hnm
  show Zf X B mX11_wouldStop s t 0 [(0, .ref (B.1 + 0)), (1, .int 3), (2, .int lo), (3, .int ha), (4, .int bu), (5, .int d)] []
  refine z_iload C dX11_wouldStop_0 4 rfl ?_
  refine z_if_ne C 7 dX11_wouldStop_2 (by decide) (fun h2 => ?_) (fun h2 => ?_)
  · refine z_aload_n C dX11_wouldStop_7 0 rfl rfl ?_
    refine z_iload_n C dX11_wouldStop_8 1 rfl rfl ?_
    refine f_callVr C hl (As := [.int 3]) (rest := []) (c_X11_kindAt3 l B s t) zb_0 (zg_11 zk_0) rfl (zCB (nA := 1) C rfl rfl tw_483 tw_1 tw_480 (by decide +kernel) ⟨Nat.le_of_ble_eq_true rfl, Nat.le_of_ble_eq_true rfl⟩) tw_482 tp_12 rfl rfl (Nat.le_of_ble_eq_true rfl) dX11_wouldStop_9 (Nat.zero_le _) ?_
    refine z_astore C [(6, .ref (B.1 + 5)), (0, .ref (B.1 + 0)), (1, .int 3), (2, .int lo), (3, .int ha), (4, .int bu), (5, .int d)] dX11_wouldStop_12 (by decide) rfl ?_
    refine z_iload_n C dX11_wouldStop_14 4 rfl rfl ?_
    refine z_iload C dX11_wouldStop_15 5 rfl ?_
    refine z_iand C dX11_wouldStop_17 ?_
    refine f_callSr C hl (As := [.int (ha &&& bu)]) (rest := []) (c_J6_bitCount_0f7a4 l B s t (ha &&& bu) (r8_and' hb)) (zCB (nA := 1) C rfl rfl tw_486 tw_19 tw_484 (by decide +kernel) ⟨Nat.le_of_ble_eq_true rfl, Nat.le_of_ble_eq_true rfl⟩) tw_485 rfl rfl (Nat.le_of_ble_eq_true rfl) dX11_wouldStop_18 (Nat.zero_le _) ?_
    refine z_istore C [(7, .int (wPop (ha &&& bu))), (6, .ref (B.1 + 5)), (0, .ref (B.1 + 0)), (1, .int 3), (2, .int lo), (3, .int ha), (4, .int bu), (5, .int d)] dX11_wouldStop_21 (by decide) rfl ?_
    refine z_aload C dX11_wouldStop_23 1 rfl ?_
    refine z_aload C dX11_wouldStop_25 1 rfl ?_
    refine z_iload_n C dX11_wouldStop_27 4 rfl rfl ?_
    refine z_iload C dX11_wouldStop_28 6 rfl ?_
    refine z_iand C dX11_wouldStop_30 ?_
    refine f_callSr C hl (As := [.int (lo &&& bu)]) (rest := [.ref (B.1 + 5), .ref (B.1 + 5)]) (c_J6_bitCount_0f7a4 l B s t (lo &&& bu) (r8_and' hb)) (zCB (nA := 1) C rfl rfl tw_486 tw_19 tw_484 (by decide +kernel) ⟨Nat.le_of_ble_eq_true rfl, Nat.le_of_ble_eq_true rfl⟩) tw_485 rfl rfl (Nat.le_of_ble_eq_true rfl) dX11_wouldStop_31 (Nat.zero_le _) ?_
    refine z_iload C dX11_wouldStop_34 0 rfl ?_
    refine f_callUr C hl (As := [.int (wPop (lo &&& bu)), .int (wPop (ha &&& bu))]) (rest := [.ref (B.1 + 5)]) (c_X5_joyBy l B s t 5 0 (wPop (lo &&& bu)) (wPop (ha &&& bu))) zb_5 (zg_6 zk_5) rfl (zCU (nA := 2) C rfl rfl tw_502 tw_2 tw_490 tw_493 tw_499 tw_491 tw_491 tw_502 (by decide +kernel) ⟨Nat.le_of_ble_eq_true rfl, Nat.le_of_ble_eq_true rfl⟩) rfl rfl (Nat.le_of_ble_eq_true rfl) dX11_wouldStop_36 (Nat.zero_le _) ?_
    refine z_iload C dX11_wouldStop_39 0 rfl ?_
    refine z_iload C dX11_wouldStop_41 7 rfl ?_
    refine f_callUr C hl (As := [.int (2 * (wPop (lo &&& bu)) - 3 * (wPop (ha &&& bu))), .int (wPop (ha &&& bu)), .int d]) (rest := []) (c_X5_refuses l B s t 5 0 (2 * (wPop (lo &&& bu)) - 3 * (wPop (ha &&& bu))) (wPop (ha &&& bu)) d) zb_5 (zg_6 zk_5) rfl (zCU (nA := 3) C rfl rfl tw_523 tw_2 tw_503 tw_506 tw_520 tw_504 tw_504 tw_523 (by decide +kernel) ⟨Nat.le_of_ble_eq_true rfl, Nat.le_of_ble_eq_true rfl⟩) rfl rfl (Nat.le_of_ble_eq_true rfl) dX11_wouldStop_43 (Nat.zero_le _) ?_
    refine z_zret C E rfl dX11_wouldStop_46 (zi_nar _) rfl (Nat.le_refl _) ⟨by simp [wStop, wRef, wJoy, h2, zi], rfl⟩
  · refine z_iconst C dX11_wouldStop_5 ki_0 ?_
    refine z_zret C E rfl dX11_wouldStop_6 rfl rfl (Nat.le_refl _) ⟨by simp [wStop, wRef, wJoy, h2, zi], rfl⟩
set_option maxRecDepth 100000 in
set_option maxHeartbeats 4000000 in
theorem c_X11_wouldStop4 (l : Launch) (B : zB) (s : zS) (t : zL) (lo ha bu d : Int32) (hb : r8 bu) : zD l B mX11_wouldStop s t [.ref (B.1 + 0), .int 4, .int lo, .int ha, .int bu, .int d] (some (.int (zi (wStop 4 lo ha bu d)))) s t := by
  refine z_met (by decide) (Nat.le_of_ble_eq_true rfl) ?_
  intro X hl C E hnm
  show Zf X B mX11_wouldStop s t 0 [(0, .ref (B.1 + 0)), (1, .int 4), (2, .int lo), (3, .int ha), (4, .int bu), (5, .int d)] []
  refine z_iload C dX11_wouldStop_0 4 rfl ?_
  refine z_if_ne C 7 dX11_wouldStop_2 (by decide) (fun h2 => ?_) (fun h2 => ?_)
  · refine z_aload_n C dX11_wouldStop_7 0 rfl rfl ?_
    refine z_iload_n C dX11_wouldStop_8 1 rfl rfl ?_
    refine f_callVr C hl (As := [.int 4]) (rest := []) (c_X11_kindAt4 l B s t) zb_0 (zg_11 zk_0) rfl (zCB (nA := 1) C rfl rfl tw_483 tw_1 tw_480 (by decide +kernel) ⟨Nat.le_of_ble_eq_true rfl, Nat.le_of_ble_eq_true rfl⟩) tw_482 tp_12 rfl rfl (Nat.le_of_ble_eq_true rfl) dX11_wouldStop_9 (Nat.zero_le _) ?_
    refine z_astore C [(6, .ref (B.1 + 6)), (0, .ref (B.1 + 0)), (1, .int 4), (2, .int lo), (3, .int ha), (4, .int bu), (5, .int d)] dX11_wouldStop_12 (by decide) rfl ?_
    refine z_iload_n C dX11_wouldStop_14 4 rfl rfl ?_
    refine z_iload C dX11_wouldStop_15 5 rfl ?_
    refine z_iand C dX11_wouldStop_17 ?_
    refine f_callSr C hl (As := [.int (ha &&& bu)]) (rest := []) (c_J6_bitCount_0f7a4 l B s t (ha &&& bu) (r8_and' hb)) (zCB (nA := 1) C rfl rfl tw_486 tw_19 tw_484 (by decide +kernel) ⟨Nat.le_of_ble_eq_true rfl, Nat.le_of_ble_eq_true rfl⟩) tw_485 rfl rfl (Nat.le_of_ble_eq_true rfl) dX11_wouldStop_18 (Nat.zero_le _) ?_
    refine z_istore C [(7, .int (wPop (ha &&& bu))), (6, .ref (B.1 + 6)), (0, .ref (B.1 + 0)), (1, .int 4), (2, .int lo), (3, .int ha), (4, .int bu), (5, .int d)] dX11_wouldStop_21 (by decide) rfl ?_
    refine z_aload C dX11_wouldStop_23 1 rfl ?_
    refine z_aload C dX11_wouldStop_25 1 rfl ?_
    refine z_iload_n C dX11_wouldStop_27 4 rfl rfl ?_
    refine z_iload C dX11_wouldStop_28 6 rfl ?_
    refine z_iand C dX11_wouldStop_30 ?_
    refine f_callSr C hl (As := [.int (lo &&& bu)]) (rest := [.ref (B.1 + 6), .ref (B.1 + 6)]) (c_J6_bitCount_0f7a4 l B s t (lo &&& bu) (r8_and' hb)) (zCB (nA := 1) C rfl rfl tw_486 tw_19 tw_484 (by decide +kernel) ⟨Nat.le_of_ble_eq_true rfl, Nat.le_of_ble_eq_true rfl⟩) tw_485 rfl rfl (Nat.le_of_ble_eq_true rfl) dX11_wouldStop_31 (Nat.zero_le _) ?_
    refine z_iload C dX11_wouldStop_34 0 rfl ?_
    refine f_callUr C hl (As := [.int (wPop (lo &&& bu)), .int (wPop (ha &&& bu))]) (rest := [.ref (B.1 + 6)]) (c_X10_joyBy3 l B s t 6 (wPop (lo &&& bu)) (wPop (ha &&& bu)) zk_6 zb_6) zb_6 (zg_3 zk_6) rfl (zCU (nA := 2) C rfl rfl tw_497 tw_4 tw_490 tw_493 tw_495 tw_496 tw_491 tw_502 (by decide +kernel) ⟨Nat.le_of_ble_eq_true rfl, Nat.le_of_ble_eq_true rfl⟩) rfl rfl (Nat.le_of_ble_eq_true rfl) dX11_wouldStop_36 (Nat.zero_le _) ?_
    refine z_iload C dX11_wouldStop_39 0 rfl ?_
    refine z_iload C dX11_wouldStop_41 7 rfl ?_
    refine f_callUr C hl (As := [.int (2 * (wPop (lo &&& bu)) - 3 * (wPop (ha &&& bu)) + 2), .int (wPop (ha &&& bu)), .int d]) (rest := []) (c_X3_refuses l B s t 6 (2 * (wPop (lo &&& bu)) - 3 * (wPop (ha &&& bu)) + 2) (wPop (ha &&& bu)) d zk_6 zb_6) zb_6 (zg_3 zk_6) rfl (zCU (nA := 3) C rfl rfl tw_516 tw_6 tw_503 tw_506 tw_514 tw_515 tw_504 tw_523 (by decide +kernel) ⟨Nat.le_of_ble_eq_true rfl, Nat.le_of_ble_eq_true rfl⟩) rfl rfl (Nat.le_of_ble_eq_true rfl) dX11_wouldStop_43 (Nat.zero_le _) ?_
    refine z_zret C E rfl dX11_wouldStop_46 (zi_nar _) rfl (Nat.le_refl _) ⟨by simp [wStop, wRef, wJoy, h2, zi], rfl⟩
  · refine z_iconst C dX11_wouldStop_5 ki_0 ?_
    refine z_zret C E rfl dX11_wouldStop_6 rfl rfl (Nat.le_refl _) ⟨by simp [wStop, wRef, wJoy, h2, zi], rfl⟩
set_option maxRecDepth 100000 in
set_option maxHeartbeats 4000000 in
theorem c_X11_wouldStop5 (l : Launch) (B : zB) (s : zS) (t : zL) (lo ha bu d : Int32) (hb : r8 bu) : zD l B mX11_wouldStop s t [.ref (B.1 + 0), .int 5, .int lo, .int ha, .int bu, .int d] (some (.int (zi (wStop 5 lo ha bu d)))) s t := by
  refine z_met (by decide) (Nat.le_of_ble_eq_true rfl) ?_
  intro X hl C E hnm
  show Zf X B mX11_wouldStop s t 0 [(0, .ref (B.1 + 0)), (1, .int 5), (2, .int lo), (3, .int ha), (4, .int bu), (5, .int d)] []
  refine z_iload C dX11_wouldStop_0 4 rfl ?_
  refine z_if_ne C 7 dX11_wouldStop_2 (by decide) (fun h2 => ?_) (fun h2 => ?_)
  · refine z_aload_n C dX11_wouldStop_7 0 rfl rfl ?_
    refine z_iload_n C dX11_wouldStop_8 1 rfl rfl ?_
    refine f_callVr C hl (As := [.int 5]) (rest := []) (c_X11_kindAt5 l B s t) zb_0 (zg_11 zk_0) rfl (zCB (nA := 1) C rfl rfl tw_483 tw_1 tw_480 (by decide +kernel) ⟨Nat.le_of_ble_eq_true rfl, Nat.le_of_ble_eq_true rfl⟩) tw_482 tp_12 rfl rfl (Nat.le_of_ble_eq_true rfl) dX11_wouldStop_9 (Nat.zero_le _) ?_
    refine z_astore C [(6, .ref (B.1 + 7)), (0, .ref (B.1 + 0)), (1, .int 5), (2, .int lo), (3, .int ha), (4, .int bu), (5, .int d)] dX11_wouldStop_12 (by decide) rfl ?_
    refine z_iload_n C dX11_wouldStop_14 4 rfl rfl ?_
    refine z_iload C dX11_wouldStop_15 5 rfl ?_
    refine z_iand C dX11_wouldStop_17 ?_
    refine f_callSr C hl (As := [.int (ha &&& bu)]) (rest := []) (c_J6_bitCount_0f7a4 l B s t (ha &&& bu) (r8_and' hb)) (zCB (nA := 1) C rfl rfl tw_486 tw_19 tw_484 (by decide +kernel) ⟨Nat.le_of_ble_eq_true rfl, Nat.le_of_ble_eq_true rfl⟩) tw_485 rfl rfl (Nat.le_of_ble_eq_true rfl) dX11_wouldStop_18 (Nat.zero_le _) ?_
    refine z_istore C [(7, .int (wPop (ha &&& bu))), (6, .ref (B.1 + 7)), (0, .ref (B.1 + 0)), (1, .int 5), (2, .int lo), (3, .int ha), (4, .int bu), (5, .int d)] dX11_wouldStop_21 (by decide) rfl ?_
    refine z_aload C dX11_wouldStop_23 1 rfl ?_
    refine z_aload C dX11_wouldStop_25 1 rfl ?_
    refine z_iload_n C dX11_wouldStop_27 4 rfl rfl ?_
    refine z_iload C dX11_wouldStop_28 6 rfl ?_
    refine z_iand C dX11_wouldStop_30 ?_
    refine f_callSr C hl (As := [.int (lo &&& bu)]) (rest := [.ref (B.1 + 7), .ref (B.1 + 7)]) (c_J6_bitCount_0f7a4 l B s t (lo &&& bu) (r8_and' hb)) (zCB (nA := 1) C rfl rfl tw_486 tw_19 tw_484 (by decide +kernel) ⟨Nat.le_of_ble_eq_true rfl, Nat.le_of_ble_eq_true rfl⟩) tw_485 rfl rfl (Nat.le_of_ble_eq_true rfl) dX11_wouldStop_31 (Nat.zero_le _) ?_
    refine z_iload C dX11_wouldStop_34 0 rfl ?_
    refine f_callUr C hl (As := [.int (wPop (lo &&& bu)), .int (wPop (ha &&& bu))]) (rest := [.ref (B.1 + 7)]) (c_X5_joyBy l B s t 7 0 (wPop (lo &&& bu)) (wPop (ha &&& bu))) zb_7 (zg_2 zk_7) rfl (zCU (nA := 2) C rfl rfl tw_502 tw_2 tw_490 tw_493 tw_494 tw_491 tw_491 tw_502 (by decide +kernel) ⟨Nat.le_of_ble_eq_true rfl, Nat.le_of_ble_eq_true rfl⟩) rfl rfl (Nat.le_of_ble_eq_true rfl) dX11_wouldStop_36 (Nat.zero_le _) ?_
    refine z_iload C dX11_wouldStop_39 0 rfl ?_
    refine z_iload C dX11_wouldStop_41 7 rfl ?_
    refine f_callUr C hl (As := [.int (2 * (wPop (lo &&& bu)) - 3 * (wPop (ha &&& bu))), .int (wPop (ha &&& bu)), .int d]) (rest := []) (c_X2_refuses l B s t 7 (2 * (wPop (lo &&& bu)) - 3 * (wPop (ha &&& bu))) (wPop (ha &&& bu)) d zk_7 zb_7) zb_7 (zg_2 zk_7) rfl (zCU (nA := 3) C rfl rfl tw_509 tw_7 tw_503 tw_506 tw_507 tw_508 tw_504 tw_523 (by decide +kernel) ⟨Nat.le_of_ble_eq_true rfl, Nat.le_of_ble_eq_true rfl⟩) rfl rfl (Nat.le_of_ble_eq_true rfl) dX11_wouldStop_43 (Nat.zero_le _) ?_
    refine z_zret C E rfl dX11_wouldStop_46 (zi_nar _) rfl (Nat.le_refl _) ⟨by simp [wStop, wRef, wJoy, h2, zi], rfl⟩
  · refine z_iconst C dX11_wouldStop_5 ki_0 ?_
    refine z_zret C E rfl dX11_wouldStop_6 rfl rfl (Nat.le_refl _) ⟨by simp [wStop, wRef, wJoy, h2, zi], rfl⟩
theorem c_X11_wouldStop (l : Launch) (B : zB) (s : zS) (t : zL) (k lo ha bu d : Int32) (hk : ∃ c, c < 6 ∧ k = nI c) (hb : r8 bu) : zD l B mX11_wouldStop s t [.ref (B.1 + 0), .int k, .int lo, .int ha, .int bu, .int d] (some (.int (zi (wStop k lo ha bu d)))) s t := by
  obtain ⟨c, hc, rfl⟩ := hk
  rcases (show c = 0 ∨ c = 1 ∨ c = 2 ∨ c = 3 ∨ c = 4 ∨ c = 5 by omega) with rfl | rfl | rfl | rfl | rfl | rfl
  · exact c_X11_wouldStop0 l B s t lo ha bu d hb
  · exact c_X11_wouldStop1 l B s t lo ha bu d hb
  · exact c_X11_wouldStop2 l B s t lo ha bu d hb
  · exact c_X11_wouldStop3 l B s t lo ha bu d hb
  · exact c_X11_wouldStop4 l B s t lo ha bu d hb
  · exact c_X11_wouldStop5 l B s t lo ha bu d hb
abbrev mX11_costOf : zM := (yX11_costOf, cX11_costOf, 2, (some .int), { frames := 2, cells := 0, slots := 0, locals := 42 })
set_option maxRecDepth 100000 in
set_option maxHeartbeats 4000000 in
theorem c_X11_costOf0 (l : Launch) (B : zB) (s : zS) (t : zL) (o : Nat) (ho : zk o = 0) (lo : o < 124) (hk : s o 0 = 0) : zD l B mX11_costOf s t [.ref (B.1 + 0), .ref (B.1 + o)] (some (.int (wCost (s o 0) (s o 3)))) s t := by
  refine z_met (by decide) (Nat.le_of_ble_eq_true rfl) ?_
  intro X hl C E hnm
  show Zf X B mX11_costOf s t 0 [(0, .ref (B.1 + 0)), (1, .ref (B.1 + o))] []
  refine z_aload_n C dX11_costOf_0 0 rfl rfl ?_
  refine z_aload_n C dX11_costOf_1 1 rfl rfl ?_
  refine f_get0 C 0 (v := .int (s o 0)) (by decide) tw_119 rfl ho lo rfl dX11_costOf_2 ?_
  refine f_topi hk ?_
  refine f_callVr C hl (As := [.int 0]) (rest := []) (c_X11_kindAt0 l B s t) zb_0 (zg_11 zk_0) rfl (zCB (nA := 1) C rfl rfl tw_483 tw_1 tw_480 (by decide +kernel) ⟨Nat.le_of_ble_eq_true rfl, Nat.le_of_ble_eq_true rfl⟩) tw_482 tp_12 rfl rfl (Nat.le_of_ble_eq_true rfl) dX11_costOf_5 (Nat.zero_le _) ?_
  refine z_aload_n C dX11_costOf_8 1 rfl rfl ?_
  refine f_get0 C 3 (v := .int (s o 3)) (by decide) tw_128 rfl ho lo rfl dX11_costOf_9 ?_
  refine f_callVr C hl (As := [.int (s o 3)]) (rest := []) (c_X5_costAt l B s t 2 (s o 3)) zb_2 (zg_5 zk_2) rfl (zCB (nA := 1) C rfl rfl tw_557 tw_2 tw_540 (by decide +kernel) ⟨Nat.le_of_ble_eq_true rfl, Nat.le_of_ble_eq_true rfl⟩) tw_541 tw_542 rfl rfl (Nat.le_of_ble_eq_true rfl) dX11_costOf_12 (Nat.zero_le _) ?_
  refine z_iret C E rfl dX11_costOf_15 rfl (Nat.le_refl _) ⟨by simp [wCost, hk], rfl⟩
abbrev mX11_joyFor : zM := (yX11_joyFor, cX11_joyFor, 3, (some .int), { frames := 2, cells := 0, slots := 0, locals := 44 })
set_option maxRecDepth 100000 in
set_option maxHeartbeats 4000000 in
theorem c_X11_joyFor0 (l : Launch) (B : zB) (s : zS) (t : zL) (o : Nat) (ho : zk o = 0) (lo : o < 124) (hk : s o 0 = 0) (bu : Int32) (hb : r8 bu) : zD l B mX11_joyFor s t [.ref (B.1 + 0), .ref (B.1 + o), .int bu] (some (.int (wJoy (s o 0) (wPop (s o 1 &&& bu)) (wPop (s o 2 &&& bu))))) s t := by
  refine z_met (by decide) (Nat.le_of_ble_eq_true rfl) ?_
  intro X hl C E hnm
  show Zf X B mX11_joyFor s t 0 [(0, .ref (B.1 + 0)), (1, .ref (B.1 + o)), (2, .int bu)] []
  refine z_aload_n C dX11_joyFor_0 0 rfl rfl ?_
  refine z_aload_n C dX11_joyFor_1 1 rfl rfl ?_
  refine f_get0 C 0 (v := .int (s o 0)) (by decide) tw_119 rfl ho lo rfl dX11_joyFor_2 ?_
  refine f_topi hk ?_
  refine f_callVr C hl (As := [.int 0]) (rest := []) (c_X11_kindAt0 l B s t) zb_0 (zg_11 zk_0) rfl (zCB (nA := 1) C rfl rfl tw_483 tw_1 tw_480 (by decide +kernel) ⟨Nat.le_of_ble_eq_true rfl, Nat.le_of_ble_eq_true rfl⟩) tw_482 tp_12 rfl rfl (Nat.le_of_ble_eq_true rfl) dX11_joyFor_5 (Nat.zero_le _) ?_
  refine z_aload_n C dX11_joyFor_8 1 rfl rfl ?_
  refine f_get0 C 1 (v := .int (s o 1)) (by decide) tw_122 rfl ho lo rfl dX11_joyFor_9 ?_
  refine z_iload_n C dX11_joyFor_12 2 rfl rfl ?_
  refine z_iand C dX11_joyFor_13 ?_
  refine f_callSr C hl (As := [.int ((s o 1) &&& bu)]) (rest := [.ref (B.1 + 2)]) (c_J6_bitCount_0f7a4 l B s t ((s o 1) &&& bu) (r8_and' hb)) (zCB (nA := 1) C rfl rfl tw_486 tw_19 tw_484 (by decide +kernel) ⟨Nat.le_of_ble_eq_true rfl, Nat.le_of_ble_eq_true rfl⟩) tw_485 rfl rfl (Nat.le_of_ble_eq_true rfl) dX11_joyFor_14 (Nat.zero_le _) ?_
  refine z_aload_n C dX11_joyFor_17 1 rfl rfl ?_
  refine f_get0 C 2 (v := .int (s o 2)) (by decide) tw_125 rfl ho lo rfl dX11_joyFor_18 ?_
  refine z_iload_n C dX11_joyFor_21 2 rfl rfl ?_
  refine z_iand C dX11_joyFor_22 ?_
  refine f_callSr C hl (As := [.int ((s o 2) &&& bu)]) (rest := [.int (wPop ((s o 1) &&& bu)), .ref (B.1 + 2)]) (c_J6_bitCount_0f7a4 l B s t ((s o 2) &&& bu) (r8_and' hb)) (zCB (nA := 1) C rfl rfl tw_486 tw_19 tw_484 (by decide +kernel) ⟨Nat.le_of_ble_eq_true rfl, Nat.le_of_ble_eq_true rfl⟩) tw_485 rfl rfl (Nat.le_of_ble_eq_true rfl) dX11_joyFor_23 (Nat.zero_le _) ?_
  refine f_callVr C hl (As := [.int (wPop ((s o 1) &&& bu)), .int (wPop ((s o 2) &&& bu))]) (rest := []) (c_X5_joyBy l B s t 2 0 (wPop ((s o 1) &&& bu)) (wPop ((s o 2) &&& bu))) zb_2 (zg_5 zk_2) rfl (zCB (nA := 2) C rfl rfl tw_502 tw_2 tw_490 (by decide +kernel) ⟨Nat.le_of_ble_eq_true rfl, Nat.le_of_ble_eq_true rfl⟩) tw_491 tw_492 rfl rfl (Nat.le_of_ble_eq_true rfl) dX11_joyFor_26 (Nat.zero_le _) ?_
  refine z_iret C E rfl dX11_joyFor_29 rfl (Nat.le_refl _) ⟨by simp [wJoy, hk], rfl⟩
set_option maxRecDepth 100000 in
set_option maxHeartbeats 4000000 in
theorem c_X11_costOf1 (l : Launch) (B : zB) (s : zS) (t : zL) (o : Nat) (ho : zk o = 0) (lo : o < 124) (hk : s o 0 = 1) : zD l B mX11_costOf s t [.ref (B.1 + 0), .ref (B.1 + o)] (some (.int (wCost (s o 0) (s o 3)))) s t := by
  refine z_met (by decide) (Nat.le_of_ble_eq_true rfl) ?_
  intro X hl C E hnm
  show Zf X B mX11_costOf s t 0 [(0, .ref (B.1 + 0)), (1, .ref (B.1 + o))] []
  refine z_aload_n C dX11_costOf_0 0 rfl rfl ?_
  refine z_aload_n C dX11_costOf_1 1 rfl rfl ?_
  refine f_get0 C 0 (v := .int (s o 0)) (by decide) tw_119 rfl ho lo rfl dX11_costOf_2 ?_
  refine f_topi hk ?_
  refine f_callVr C hl (As := [.int 1]) (rest := []) (c_X11_kindAt1 l B s t) zb_0 (zg_11 zk_0) rfl (zCB (nA := 1) C rfl rfl tw_483 tw_1 tw_480 (by decide +kernel) ⟨Nat.le_of_ble_eq_true rfl, Nat.le_of_ble_eq_true rfl⟩) tw_482 tp_12 rfl rfl (Nat.le_of_ble_eq_true rfl) dX11_costOf_5 (Nat.zero_le _) ?_
  refine z_aload_n C dX11_costOf_8 1 rfl rfl ?_
  refine f_get0 C 3 (v := .int (s o 3)) (by decide) tw_128 rfl ho lo rfl dX11_costOf_9 ?_
  refine f_callUr C hl (As := [.int (s o 3)]) (rest := []) (c_X5_costAt l B s t 3 (s o 3)) zb_3 (zg_7 zk_3) rfl (zCU (nA := 1) C rfl rfl tw_557 tw_2 tw_540 tw_543 tw_555 tw_541 tw_541 tw_557 (by decide +kernel) ⟨Nat.le_of_ble_eq_true rfl, Nat.le_of_ble_eq_true rfl⟩) rfl rfl (Nat.le_of_ble_eq_true rfl) dX11_costOf_12 (Nat.zero_le _) ?_
  refine z_iret C E rfl dX11_costOf_15 rfl (Nat.le_refl _) ⟨by simp [wCost, hk], rfl⟩
set_option maxRecDepth 100000 in
set_option maxHeartbeats 4000000 in
theorem c_X11_joyFor1 (l : Launch) (B : zB) (s : zS) (t : zL) (o : Nat) (ho : zk o = 0) (lo : o < 124) (hk : s o 0 = 1) (bu : Int32) (hb : r8 bu) : zD l B mX11_joyFor s t [.ref (B.1 + 0), .ref (B.1 + o), .int bu] (some (.int (wJoy (s o 0) (wPop (s o 1 &&& bu)) (wPop (s o 2 &&& bu))))) s t := by
  refine z_met (by decide) (Nat.le_of_ble_eq_true rfl) ?_
  intro X hl C E hnm
  show Zf X B mX11_joyFor s t 0 [(0, .ref (B.1 + 0)), (1, .ref (B.1 + o)), (2, .int bu)] []
  refine z_aload_n C dX11_joyFor_0 0 rfl rfl ?_
  refine z_aload_n C dX11_joyFor_1 1 rfl rfl ?_
  refine f_get0 C 0 (v := .int (s o 0)) (by decide) tw_119 rfl ho lo rfl dX11_joyFor_2 ?_
  refine f_topi hk ?_
  refine f_callVr C hl (As := [.int 1]) (rest := []) (c_X11_kindAt1 l B s t) zb_0 (zg_11 zk_0) rfl (zCB (nA := 1) C rfl rfl tw_483 tw_1 tw_480 (by decide +kernel) ⟨Nat.le_of_ble_eq_true rfl, Nat.le_of_ble_eq_true rfl⟩) tw_482 tp_12 rfl rfl (Nat.le_of_ble_eq_true rfl) dX11_joyFor_5 (Nat.zero_le _) ?_
  refine z_aload_n C dX11_joyFor_8 1 rfl rfl ?_
  refine f_get0 C 1 (v := .int (s o 1)) (by decide) tw_122 rfl ho lo rfl dX11_joyFor_9 ?_
  refine z_iload_n C dX11_joyFor_12 2 rfl rfl ?_
  refine z_iand C dX11_joyFor_13 ?_
  refine f_callSr C hl (As := [.int ((s o 1) &&& bu)]) (rest := [.ref (B.1 + 3)]) (c_J6_bitCount_0f7a4 l B s t ((s o 1) &&& bu) (r8_and' hb)) (zCB (nA := 1) C rfl rfl tw_486 tw_19 tw_484 (by decide +kernel) ⟨Nat.le_of_ble_eq_true rfl, Nat.le_of_ble_eq_true rfl⟩) tw_485 rfl rfl (Nat.le_of_ble_eq_true rfl) dX11_joyFor_14 (Nat.zero_le _) ?_
  refine z_aload_n C dX11_joyFor_17 1 rfl rfl ?_
  refine f_get0 C 2 (v := .int (s o 2)) (by decide) tw_125 rfl ho lo rfl dX11_joyFor_18 ?_
  refine z_iload_n C dX11_joyFor_21 2 rfl rfl ?_
  refine z_iand C dX11_joyFor_22 ?_
  refine f_callSr C hl (As := [.int ((s o 2) &&& bu)]) (rest := [.int (wPop ((s o 1) &&& bu)), .ref (B.1 + 3)]) (c_J6_bitCount_0f7a4 l B s t ((s o 2) &&& bu) (r8_and' hb)) (zCB (nA := 1) C rfl rfl tw_486 tw_19 tw_484 (by decide +kernel) ⟨Nat.le_of_ble_eq_true rfl, Nat.le_of_ble_eq_true rfl⟩) tw_485 rfl rfl (Nat.le_of_ble_eq_true rfl) dX11_joyFor_23 (Nat.zero_le _) ?_
  refine f_callUr C hl (As := [.int (wPop ((s o 1) &&& bu)), .int (wPop ((s o 2) &&& bu))]) (rest := []) (c_X5_joyBy l B s t 3 0 (wPop ((s o 1) &&& bu)) (wPop ((s o 2) &&& bu))) zb_3 (zg_7 zk_3) rfl (zCU (nA := 2) C rfl rfl tw_502 tw_2 tw_490 tw_493 tw_500 tw_491 tw_491 tw_502 (by decide +kernel) ⟨Nat.le_of_ble_eq_true rfl, Nat.le_of_ble_eq_true rfl⟩) rfl rfl (Nat.le_of_ble_eq_true rfl) dX11_joyFor_26 (Nat.zero_le _) ?_
  refine z_iret C E rfl dX11_joyFor_29 rfl (Nat.le_refl _) ⟨by simp [wJoy, hk], rfl⟩
set_option maxRecDepth 100000 in
set_option maxHeartbeats 4000000 in
theorem c_X11_costOf2 (l : Launch) (B : zB) (s : zS) (t : zL) (o : Nat) (ho : zk o = 0) (lo : o < 124) (hk : s o 0 = 2) : zD l B mX11_costOf s t [.ref (B.1 + 0), .ref (B.1 + o)] (some (.int (wCost (s o 0) (s o 3)))) s t := by
  refine z_met (by decide) (Nat.le_of_ble_eq_true rfl) ?_
  intro X hl C E hnm
  show Zf X B mX11_costOf s t 0 [(0, .ref (B.1 + 0)), (1, .ref (B.1 + o))] []
  refine z_aload_n C dX11_costOf_0 0 rfl rfl ?_
  refine z_aload_n C dX11_costOf_1 1 rfl rfl ?_
  refine f_get0 C 0 (v := .int (s o 0)) (by decide) tw_119 rfl ho lo rfl dX11_costOf_2 ?_
  refine f_topi hk ?_
  refine f_callVr C hl (As := [.int 2]) (rest := []) (c_X11_kindAt2 l B s t) zb_0 (zg_11 zk_0) rfl (zCB (nA := 1) C rfl rfl tw_483 tw_1 tw_480 (by decide +kernel) ⟨Nat.le_of_ble_eq_true rfl, Nat.le_of_ble_eq_true rfl⟩) tw_482 tp_12 rfl rfl (Nat.le_of_ble_eq_true rfl) dX11_costOf_5 (Nat.zero_le _) ?_
  refine z_aload_n C dX11_costOf_8 1 rfl rfl ?_
  refine f_get0 C 3 (v := .int (s o 3)) (by decide) tw_128 rfl ho lo rfl dX11_costOf_9 ?_
  refine f_callUr C hl (As := [.int (s o 3)]) (rest := []) (c_X5_costAt l B s t 4 (s o 3)) zb_4 (zg_10 zk_4) rfl (zCU (nA := 1) C rfl rfl tw_557 tw_2 tw_540 tw_543 tw_556 tw_541 tw_541 tw_557 (by decide +kernel) ⟨Nat.le_of_ble_eq_true rfl, Nat.le_of_ble_eq_true rfl⟩) rfl rfl (Nat.le_of_ble_eq_true rfl) dX11_costOf_12 (Nat.zero_le _) ?_
  refine z_iret C E rfl dX11_costOf_15 rfl (Nat.le_refl _) ⟨by simp [wCost, hk], rfl⟩
set_option maxRecDepth 100000 in
set_option maxHeartbeats 4000000 in
theorem c_X11_joyFor2 (l : Launch) (B : zB) (s : zS) (t : zL) (o : Nat) (ho : zk o = 0) (lo : o < 124) (hk : s o 0 = 2) (bu : Int32) (hb : r8 bu) : zD l B mX11_joyFor s t [.ref (B.1 + 0), .ref (B.1 + o), .int bu] (some (.int (wJoy (s o 0) (wPop (s o 1 &&& bu)) (wPop (s o 2 &&& bu))))) s t := by
  refine z_met (by decide) (Nat.le_of_ble_eq_true rfl) ?_
  intro X hl C E hnm
  show Zf X B mX11_joyFor s t 0 [(0, .ref (B.1 + 0)), (1, .ref (B.1 + o)), (2, .int bu)] []
  refine z_aload_n C dX11_joyFor_0 0 rfl rfl ?_
  refine z_aload_n C dX11_joyFor_1 1 rfl rfl ?_
  refine f_get0 C 0 (v := .int (s o 0)) (by decide) tw_119 rfl ho lo rfl dX11_joyFor_2 ?_
  refine f_topi hk ?_
  refine f_callVr C hl (As := [.int 2]) (rest := []) (c_X11_kindAt2 l B s t) zb_0 (zg_11 zk_0) rfl (zCB (nA := 1) C rfl rfl tw_483 tw_1 tw_480 (by decide +kernel) ⟨Nat.le_of_ble_eq_true rfl, Nat.le_of_ble_eq_true rfl⟩) tw_482 tp_12 rfl rfl (Nat.le_of_ble_eq_true rfl) dX11_joyFor_5 (Nat.zero_le _) ?_
  refine z_aload_n C dX11_joyFor_8 1 rfl rfl ?_
  refine f_get0 C 1 (v := .int (s o 1)) (by decide) tw_122 rfl ho lo rfl dX11_joyFor_9 ?_
  refine z_iload_n C dX11_joyFor_12 2 rfl rfl ?_
  refine z_iand C dX11_joyFor_13 ?_
  refine f_callSr C hl (As := [.int ((s o 1) &&& bu)]) (rest := [.ref (B.1 + 4)]) (c_J6_bitCount_0f7a4 l B s t ((s o 1) &&& bu) (r8_and' hb)) (zCB (nA := 1) C rfl rfl tw_486 tw_19 tw_484 (by decide +kernel) ⟨Nat.le_of_ble_eq_true rfl, Nat.le_of_ble_eq_true rfl⟩) tw_485 rfl rfl (Nat.le_of_ble_eq_true rfl) dX11_joyFor_14 (Nat.zero_le _) ?_
  refine z_aload_n C dX11_joyFor_17 1 rfl rfl ?_
  refine f_get0 C 2 (v := .int (s o 2)) (by decide) tw_125 rfl ho lo rfl dX11_joyFor_18 ?_
  refine z_iload_n C dX11_joyFor_21 2 rfl rfl ?_
  refine z_iand C dX11_joyFor_22 ?_
  refine f_callSr C hl (As := [.int ((s o 2) &&& bu)]) (rest := [.int (wPop ((s o 1) &&& bu)), .ref (B.1 + 4)]) (c_J6_bitCount_0f7a4 l B s t ((s o 2) &&& bu) (r8_and' hb)) (zCB (nA := 1) C rfl rfl tw_486 tw_19 tw_484 (by decide +kernel) ⟨Nat.le_of_ble_eq_true rfl, Nat.le_of_ble_eq_true rfl⟩) tw_485 rfl rfl (Nat.le_of_ble_eq_true rfl) dX11_joyFor_23 (Nat.zero_le _) ?_
  refine f_callUr C hl (As := [.int (wPop ((s o 1) &&& bu)), .int (wPop ((s o 2) &&& bu))]) (rest := []) (c_X10_joyBy l B s t 4 (wPop ((s o 1) &&& bu)) (wPop ((s o 2) &&& bu)) zk_4 zb_4) zb_4 (zg_10 zk_4) rfl (zCU (nA := 2) C rfl rfl tw_497 tw_4 tw_490 tw_493 tw_501 tw_496 tw_491 tw_502 (by decide +kernel) ⟨Nat.le_of_ble_eq_true rfl, Nat.le_of_ble_eq_true rfl⟩) rfl rfl (Nat.le_of_ble_eq_true rfl) dX11_joyFor_26 (Nat.zero_le _) ?_
  refine z_iret C E rfl dX11_joyFor_29 rfl (Nat.le_refl _) ⟨by simp [wJoy, hk], rfl⟩
set_option maxRecDepth 100000 in
set_option maxHeartbeats 4000000 in
theorem c_X11_costOf3 (l : Launch) (B : zB) (s : zS) (t : zL) (o : Nat) (ho : zk o = 0) (lo : o < 124) (hk : s o 0 = 3) : zD l B mX11_costOf s t [.ref (B.1 + 0), .ref (B.1 + o)] (some (.int (wCost (s o 0) (s o 3)))) s t := by
  refine z_met (by decide) (Nat.le_of_ble_eq_true rfl) ?_
  intro X hl C E hnm
  show Zf X B mX11_costOf s t 0 [(0, .ref (B.1 + 0)), (1, .ref (B.1 + o))] []
  refine z_aload_n C dX11_costOf_0 0 rfl rfl ?_
  refine z_aload_n C dX11_costOf_1 1 rfl rfl ?_
  refine f_get0 C 0 (v := .int (s o 0)) (by decide) tw_119 rfl ho lo rfl dX11_costOf_2 ?_
  refine f_topi hk ?_
  refine f_callVr C hl (As := [.int 3]) (rest := []) (c_X11_kindAt3 l B s t) zb_0 (zg_11 zk_0) rfl (zCB (nA := 1) C rfl rfl tw_483 tw_1 tw_480 (by decide +kernel) ⟨Nat.le_of_ble_eq_true rfl, Nat.le_of_ble_eq_true rfl⟩) tw_482 tp_12 rfl rfl (Nat.le_of_ble_eq_true rfl) dX11_costOf_5 (Nat.zero_le _) ?_
  refine z_aload_n C dX11_costOf_8 1 rfl rfl ?_
  refine f_get0 C 3 (v := .int (s o 3)) (by decide) tw_128 rfl ho lo rfl dX11_costOf_9 ?_
  refine f_callUr C hl (As := [.int (s o 3)]) (rest := []) (c_X6_costAt l B s t 5 (s o 3) zk_5 zb_5) zb_5 (zg_6 zk_5) rfl (zCU (nA := 1) C rfl rfl tw_553 tw_5 tw_540 tw_543 tw_551 tw_552 tw_541 tw_557 (by decide +kernel) ⟨Nat.le_of_ble_eq_true rfl, Nat.le_of_ble_eq_true rfl⟩) rfl rfl (Nat.le_of_ble_eq_true rfl) dX11_costOf_12 (Nat.zero_le _) ?_
  refine z_iret C E rfl dX11_costOf_15 rfl (Nat.le_refl _) ⟨by simp [wCost, hk], rfl⟩
set_option maxRecDepth 100000 in
set_option maxHeartbeats 4000000 in
theorem c_X11_joyFor3 (l : Launch) (B : zB) (s : zS) (t : zL) (o : Nat) (ho : zk o = 0) (lo : o < 124) (hk : s o 0 = 3) (bu : Int32) (hb : r8 bu) : zD l B mX11_joyFor s t [.ref (B.1 + 0), .ref (B.1 + o), .int bu] (some (.int (wJoy (s o 0) (wPop (s o 1 &&& bu)) (wPop (s o 2 &&& bu))))) s t := by
  refine z_met (by decide) (Nat.le_of_ble_eq_true rfl) ?_
  intro X hl C E hnm
  show Zf X B mX11_joyFor s t 0 [(0, .ref (B.1 + 0)), (1, .ref (B.1 + o)), (2, .int bu)] []
  refine z_aload_n C dX11_joyFor_0 0 rfl rfl ?_
  refine z_aload_n C dX11_joyFor_1 1 rfl rfl ?_
  refine f_get0 C 0 (v := .int (s o 0)) (by decide) tw_119 rfl ho lo rfl dX11_joyFor_2 ?_
  refine f_topi hk ?_
  refine f_callVr C hl (As := [.int 3]) (rest := []) (c_X11_kindAt3 l B s t) zb_0 (zg_11 zk_0) rfl (zCB (nA := 1) C rfl rfl tw_483 tw_1 tw_480 (by decide +kernel) ⟨Nat.le_of_ble_eq_true rfl, Nat.le_of_ble_eq_true rfl⟩) tw_482 tp_12 rfl rfl (Nat.le_of_ble_eq_true rfl) dX11_joyFor_5 (Nat.zero_le _) ?_
  refine z_aload_n C dX11_joyFor_8 1 rfl rfl ?_
  refine f_get0 C 1 (v := .int (s o 1)) (by decide) tw_122 rfl ho lo rfl dX11_joyFor_9 ?_
  refine z_iload_n C dX11_joyFor_12 2 rfl rfl ?_
  refine z_iand C dX11_joyFor_13 ?_
  refine f_callSr C hl (As := [.int ((s o 1) &&& bu)]) (rest := [.ref (B.1 + 5)]) (c_J6_bitCount_0f7a4 l B s t ((s o 1) &&& bu) (r8_and' hb)) (zCB (nA := 1) C rfl rfl tw_486 tw_19 tw_484 (by decide +kernel) ⟨Nat.le_of_ble_eq_true rfl, Nat.le_of_ble_eq_true rfl⟩) tw_485 rfl rfl (Nat.le_of_ble_eq_true rfl) dX11_joyFor_14 (Nat.zero_le _) ?_
  refine z_aload_n C dX11_joyFor_17 1 rfl rfl ?_
  refine f_get0 C 2 (v := .int (s o 2)) (by decide) tw_125 rfl ho lo rfl dX11_joyFor_18 ?_
  refine z_iload_n C dX11_joyFor_21 2 rfl rfl ?_
  refine z_iand C dX11_joyFor_22 ?_
  refine f_callSr C hl (As := [.int ((s o 2) &&& bu)]) (rest := [.int (wPop ((s o 1) &&& bu)), .ref (B.1 + 5)]) (c_J6_bitCount_0f7a4 l B s t ((s o 2) &&& bu) (r8_and' hb)) (zCB (nA := 1) C rfl rfl tw_486 tw_19 tw_484 (by decide +kernel) ⟨Nat.le_of_ble_eq_true rfl, Nat.le_of_ble_eq_true rfl⟩) tw_485 rfl rfl (Nat.le_of_ble_eq_true rfl) dX11_joyFor_23 (Nat.zero_le _) ?_
  refine f_callUr C hl (As := [.int (wPop ((s o 1) &&& bu)), .int (wPop ((s o 2) &&& bu))]) (rest := []) (c_X5_joyBy l B s t 5 0 (wPop ((s o 1) &&& bu)) (wPop ((s o 2) &&& bu))) zb_5 (zg_6 zk_5) rfl (zCU (nA := 2) C rfl rfl tw_502 tw_2 tw_490 tw_493 tw_499 tw_491 tw_491 tw_502 (by decide +kernel) ⟨Nat.le_of_ble_eq_true rfl, Nat.le_of_ble_eq_true rfl⟩) rfl rfl (Nat.le_of_ble_eq_true rfl) dX11_joyFor_26 (Nat.zero_le _) ?_
  refine z_iret C E rfl dX11_joyFor_29 rfl (Nat.le_refl _) ⟨by simp [wJoy, hk], rfl⟩
set_option maxRecDepth 100000 in
set_option maxHeartbeats 4000000 in
theorem c_X11_costOf4 (l : Launch) (B : zB) (s : zS) (t : zL) (o : Nat) (ho : zk o = 0) (lo : o < 124) (hk : s o 0 = 4) : zD l B mX11_costOf s t [.ref (B.1 + 0), .ref (B.1 + o)] (some (.int (wCost (s o 0) (s o 3)))) s t := by
  refine z_met (by decide) (Nat.le_of_ble_eq_true rfl) ?_
  intro X hl C E hnm
  show Zf X B mX11_costOf s t 0 [(0, .ref (B.1 + 0)), (1, .ref (B.1 + o))] []
  refine z_aload_n C dX11_costOf_0 0 rfl rfl ?_
  refine z_aload_n C dX11_costOf_1 1 rfl rfl ?_
  refine f_get0 C 0 (v := .int (s o 0)) (by decide) tw_119 rfl ho lo rfl dX11_costOf_2 ?_
  refine f_topi hk ?_
  refine f_callVr C hl (As := [.int 4]) (rest := []) (c_X11_kindAt4 l B s t) zb_0 (zg_11 zk_0) rfl (zCB (nA := 1) C rfl rfl tw_483 tw_1 tw_480 (by decide +kernel) ⟨Nat.le_of_ble_eq_true rfl, Nat.le_of_ble_eq_true rfl⟩) tw_482 tp_12 rfl rfl (Nat.le_of_ble_eq_true rfl) dX11_costOf_5 (Nat.zero_le _) ?_
  refine z_aload_n C dX11_costOf_8 1 rfl rfl ?_
  refine f_get0 C 3 (v := .int (s o 3)) (by decide) tw_128 rfl ho lo rfl dX11_costOf_9 ?_
  refine f_callUr C hl (As := [.int (s o 3)]) (rest := []) (c_X5_costAt l B s t 6 (s o 3)) zb_6 (zg_3 zk_6) rfl (zCU (nA := 1) C rfl rfl tw_557 tw_2 tw_540 tw_543 tw_550 tw_541 tw_541 tw_557 (by decide +kernel) ⟨Nat.le_of_ble_eq_true rfl, Nat.le_of_ble_eq_true rfl⟩) rfl rfl (Nat.le_of_ble_eq_true rfl) dX11_costOf_12 (Nat.zero_le _) ?_
  refine z_iret C E rfl dX11_costOf_15 rfl (Nat.le_refl _) ⟨by simp [wCost, hk], rfl⟩
set_option maxRecDepth 100000 in
set_option maxHeartbeats 4000000 in
theorem c_X11_joyFor4 (l : Launch) (B : zB) (s : zS) (t : zL) (o : Nat) (ho : zk o = 0) (lo : o < 124) (hk : s o 0 = 4) (bu : Int32) (hb : r8 bu) : zD l B mX11_joyFor s t [.ref (B.1 + 0), .ref (B.1 + o), .int bu] (some (.int (wJoy (s o 0) (wPop (s o 1 &&& bu)) (wPop (s o 2 &&& bu))))) s t := by
  refine z_met (by decide) (Nat.le_of_ble_eq_true rfl) ?_
  intro X hl C E hnm
  show Zf X B mX11_joyFor s t 0 [(0, .ref (B.1 + 0)), (1, .ref (B.1 + o)), (2, .int bu)] []
  refine z_aload_n C dX11_joyFor_0 0 rfl rfl ?_
  refine z_aload_n C dX11_joyFor_1 1 rfl rfl ?_
  refine f_get0 C 0 (v := .int (s o 0)) (by decide) tw_119 rfl ho lo rfl dX11_joyFor_2 ?_
  refine f_topi hk ?_
  refine f_callVr C hl (As := [.int 4]) (rest := []) (c_X11_kindAt4 l B s t) zb_0 (zg_11 zk_0) rfl (zCB (nA := 1) C rfl rfl tw_483 tw_1 tw_480 (by decide +kernel) ⟨Nat.le_of_ble_eq_true rfl, Nat.le_of_ble_eq_true rfl⟩) tw_482 tp_12 rfl rfl (Nat.le_of_ble_eq_true rfl) dX11_joyFor_5 (Nat.zero_le _) ?_
  refine z_aload_n C dX11_joyFor_8 1 rfl rfl ?_
  refine f_get0 C 1 (v := .int (s o 1)) (by decide) tw_122 rfl ho lo rfl dX11_joyFor_9 ?_
  refine z_iload_n C dX11_joyFor_12 2 rfl rfl ?_
  refine z_iand C dX11_joyFor_13 ?_
  refine f_callSr C hl (As := [.int ((s o 1) &&& bu)]) (rest := [.ref (B.1 + 6)]) (c_J6_bitCount_0f7a4 l B s t ((s o 1) &&& bu) (r8_and' hb)) (zCB (nA := 1) C rfl rfl tw_486 tw_19 tw_484 (by decide +kernel) ⟨Nat.le_of_ble_eq_true rfl, Nat.le_of_ble_eq_true rfl⟩) tw_485 rfl rfl (Nat.le_of_ble_eq_true rfl) dX11_joyFor_14 (Nat.zero_le _) ?_
  refine z_aload_n C dX11_joyFor_17 1 rfl rfl ?_
  refine f_get0 C 2 (v := .int (s o 2)) (by decide) tw_125 rfl ho lo rfl dX11_joyFor_18 ?_
  refine z_iload_n C dX11_joyFor_21 2 rfl rfl ?_
  refine z_iand C dX11_joyFor_22 ?_
  refine f_callSr C hl (As := [.int ((s o 2) &&& bu)]) (rest := [.int (wPop ((s o 1) &&& bu)), .ref (B.1 + 6)]) (c_J6_bitCount_0f7a4 l B s t ((s o 2) &&& bu) (r8_and' hb)) (zCB (nA := 1) C rfl rfl tw_486 tw_19 tw_484 (by decide +kernel) ⟨Nat.le_of_ble_eq_true rfl, Nat.le_of_ble_eq_true rfl⟩) tw_485 rfl rfl (Nat.le_of_ble_eq_true rfl) dX11_joyFor_23 (Nat.zero_le _) ?_
  refine f_callUr C hl (As := [.int (wPop ((s o 1) &&& bu)), .int (wPop ((s o 2) &&& bu))]) (rest := []) (c_X10_joyBy3 l B s t 6 (wPop ((s o 1) &&& bu)) (wPop ((s o 2) &&& bu)) zk_6 zb_6) zb_6 (zg_3 zk_6) rfl (zCU (nA := 2) C rfl rfl tw_497 tw_4 tw_490 tw_493 tw_495 tw_496 tw_491 tw_502 (by decide +kernel) ⟨Nat.le_of_ble_eq_true rfl, Nat.le_of_ble_eq_true rfl⟩) rfl rfl (Nat.le_of_ble_eq_true rfl) dX11_joyFor_26 (Nat.zero_le _) ?_
  refine z_iret C E rfl dX11_joyFor_29 rfl (Nat.le_refl _) ⟨by simp [wJoy, hk], rfl⟩
set_option maxRecDepth 100000 in
set_option maxHeartbeats 4000000 in
theorem c_X11_costOf5 (l : Launch) (B : zB) (s : zS) (t : zL) (o : Nat) (ho : zk o = 0) (lo : o < 124) (hk : s o 0 = 5) : zD l B mX11_costOf s t [.ref (B.1 + 0), .ref (B.1 + o)] (some (.int (wCost (s o 0) (s o 3)))) s t := by
  refine z_met (by decide) (Nat.le_of_ble_eq_true rfl) ?_
  intro X hl C E hnm
  show Zf X B mX11_costOf s t 0 [(0, .ref (B.1 + 0)), (1, .ref (B.1 + o))] []
  refine z_aload_n C dX11_costOf_0 0 rfl rfl ?_
  refine z_aload_n C dX11_costOf_1 1 rfl rfl ?_
  refine f_get0 C 0 (v := .int (s o 0)) (by decide) tw_119 rfl ho lo rfl dX11_costOf_2 ?_
  refine f_topi hk ?_
  refine f_callVr C hl (As := [.int 5]) (rest := []) (c_X11_kindAt5 l B s t) zb_0 (zg_11 zk_0) rfl (zCB (nA := 1) C rfl rfl tw_483 tw_1 tw_480 (by decide +kernel) ⟨Nat.le_of_ble_eq_true rfl, Nat.le_of_ble_eq_true rfl⟩) tw_482 tp_12 rfl rfl (Nat.le_of_ble_eq_true rfl) dX11_costOf_5 (Nat.zero_le _) ?_
  refine z_aload_n C dX11_costOf_8 1 rfl rfl ?_
  refine f_get0 C 3 (v := .int (s o 3)) (by decide) tw_128 rfl ho lo rfl dX11_costOf_9 ?_
  refine f_callUr C hl (As := [.int (s o 3)]) (rest := []) (c_X2_costAt l B s t 7 (s o 3) zk_7 zb_7) zb_7 (zg_2 zk_7) rfl (zCU (nA := 1) C rfl rfl tw_546 tw_7 tw_540 tw_543 tw_544 tw_545 tw_541 tw_557 (by decide +kernel) ⟨Nat.le_of_ble_eq_true rfl, Nat.le_of_ble_eq_true rfl⟩) rfl rfl (Nat.le_of_ble_eq_true rfl) dX11_costOf_12 (Nat.zero_le _) ?_
  refine z_iret C E rfl dX11_costOf_15 rfl (Nat.le_refl _) ⟨by simp [wCost, hk], rfl⟩
set_option maxRecDepth 100000 in
set_option maxHeartbeats 4000000 in
theorem c_X11_joyFor5 (l : Launch) (B : zB) (s : zS) (t : zL) (o : Nat) (ho : zk o = 0) (lo : o < 124) (hk : s o 0 = 5) (bu : Int32) (hb : r8 bu) : zD l B mX11_joyFor s t [.ref (B.1 + 0), .ref (B.1 + o), .int bu] (some (.int (wJoy (s o 0) (wPop (s o 1 &&& bu)) (wPop (s o 2 &&& bu))))) s t := by
  refine z_met (by decide) (Nat.le_of_ble_eq_true rfl) ?_
  intro X hl C E hnm
  show Zf X B mX11_joyFor s t 0 [(0, .ref (B.1 + 0)), (1, .ref (B.1 + o)), (2, .int bu)] []
  refine z_aload_n C dX11_joyFor_0 0 rfl rfl ?_
  refine z_aload_n C dX11_joyFor_1 1 rfl rfl ?_
  refine f_get0 C 0 (v := .int (s o 0)) (by decide) tw_119 rfl ho lo rfl dX11_joyFor_2 ?_
  refine f_topi hk ?_
  refine f_callVr C hl (As := [.int 5]) (rest := []) (c_X11_kindAt5 l B s t) zb_0 (zg_11 zk_0) rfl (zCB (nA := 1) C rfl rfl tw_483 tw_1 tw_480 (by decide +kernel) ⟨Nat.le_of_ble_eq_true rfl, Nat.le_of_ble_eq_true rfl⟩) tw_482 tp_12 rfl rfl (Nat.le_of_ble_eq_true rfl) dX11_joyFor_5 (Nat.zero_le _) ?_
  refine z_aload_n C dX11_joyFor_8 1 rfl rfl ?_
  refine f_get0 C 1 (v := .int (s o 1)) (by decide) tw_122 rfl ho lo rfl dX11_joyFor_9 ?_
  refine z_iload_n C dX11_joyFor_12 2 rfl rfl ?_
  refine z_iand C dX11_joyFor_13 ?_
  refine f_callSr C hl (As := [.int ((s o 1) &&& bu)]) (rest := [.ref (B.1 + 7)]) (c_J6_bitCount_0f7a4 l B s t ((s o 1) &&& bu) (r8_and' hb)) (zCB (nA := 1) C rfl rfl tw_486 tw_19 tw_484 (by decide +kernel) ⟨Nat.le_of_ble_eq_true rfl, Nat.le_of_ble_eq_true rfl⟩) tw_485 rfl rfl (Nat.le_of_ble_eq_true rfl) dX11_joyFor_14 (Nat.zero_le _) ?_
  refine z_aload_n C dX11_joyFor_17 1 rfl rfl ?_
  refine f_get0 C 2 (v := .int (s o 2)) (by decide) tw_125 rfl ho lo rfl dX11_joyFor_18 ?_
  refine z_iload_n C dX11_joyFor_21 2 rfl rfl ?_
  refine z_iand C dX11_joyFor_22 ?_
  refine f_callSr C hl (As := [.int ((s o 2) &&& bu)]) (rest := [.int (wPop ((s o 1) &&& bu)), .ref (B.1 + 7)]) (c_J6_bitCount_0f7a4 l B s t ((s o 2) &&& bu) (r8_and' hb)) (zCB (nA := 1) C rfl rfl tw_486 tw_19 tw_484 (by decide +kernel) ⟨Nat.le_of_ble_eq_true rfl, Nat.le_of_ble_eq_true rfl⟩) tw_485 rfl rfl (Nat.le_of_ble_eq_true rfl) dX11_joyFor_23 (Nat.zero_le _) ?_
  refine f_callUr C hl (As := [.int (wPop ((s o 1) &&& bu)), .int (wPop ((s o 2) &&& bu))]) (rest := []) (c_X5_joyBy l B s t 7 0 (wPop ((s o 1) &&& bu)) (wPop ((s o 2) &&& bu))) zb_7 (zg_2 zk_7) rfl (zCU (nA := 2) C rfl rfl tw_502 tw_2 tw_490 tw_493 tw_494 tw_491 tw_491 tw_502 (by decide +kernel) ⟨Nat.le_of_ble_eq_true rfl, Nat.le_of_ble_eq_true rfl⟩) rfl rfl (Nat.le_of_ble_eq_true rfl) dX11_joyFor_26 (Nat.zero_le _) ?_
  refine z_iret C E rfl dX11_joyFor_29 rfl (Nat.le_refl _) ⟨by simp [wJoy, hk], rfl⟩
theorem c_X11_costOf (l : Launch) (B : zB) (s : zS) (t : zL) (o : Nat) (ho : zk o = 0) (lo : o < 124) (hk : ∃ c, c < 6 ∧ s o 0 = nI c) : zD l B mX11_costOf s t [.ref (B.1 + 0), .ref (B.1 + o)] (some (.int (wCost (s o 0) (s o 3)))) s t := by
  obtain ⟨c, hc, e⟩ := hk
  rcases (show c = 0 ∨ c = 1 ∨ c = 2 ∨ c = 3 ∨ c = 4 ∨ c = 5 by omega) with rfl | rfl | rfl | rfl | rfl | rfl
  · exact c_X11_costOf0 l B s t o ho lo e
  · exact c_X11_costOf1 l B s t o ho lo e
  · exact c_X11_costOf2 l B s t o ho lo e
  · exact c_X11_costOf3 l B s t o ho lo e
  · exact c_X11_costOf4 l B s t o ho lo e
  · exact c_X11_costOf5 l B s t o ho lo e
theorem c_X11_joyFor (l : Launch) (B : zB) (s : zS) (t : zL) (o : Nat) (ho : zk o = 0) (lo : o < 124) (hk : ∃ c, c < 6 ∧ s o 0 = nI c) (bu : Int32) (hb : r8 bu) : zD l B mX11_joyFor s t [.ref (B.1 + 0), .ref (B.1 + o), .int bu] (some (.int (wJoy (s o 0) (wPop (s o 1 &&& bu)) (wPop (s o 2 &&& bu))))) s t := by
  obtain ⟨c, hc, e⟩ := hk
  rcases (show c = 0 ∨ c = 1 ∨ c = 2 ∨ c = 3 ∨ c = 4 ∨ c = 5 by omega) with rfl | rfl | rfl | rfl | rfl | rfl
  · exact c_X11_joyFor0 l B s t o ho lo e bu hb
  · exact c_X11_joyFor1 l B s t o ho lo e bu hb
  · exact c_X11_joyFor2 l B s t o ho lo e bu hb
  · exact c_X11_joyFor3 l B s t o ho lo e bu hb
  · exact c_X11_joyFor4 l B s t o ho lo e bu hb
  · exact c_X11_joyFor5 l B s t o ho lo e bu hb
abbrev mX11_stoppers : zM := (yX11_stoppers, cX11_stoppers, 7, (some .int), { frames := 4, cells := 0, slots := 0, locals := 96 })
set_option maxRecDepth 100000 in
set_option maxHeartbeats 4000000 in
theorem l_X11_stoppers {l : Launch} {B : zB} {s : zS} {t : zL} {X : zX} (hl : X.2.1 = l) (C : zC X B mX11_stoppers) (o : Nat) (ho : zk o = 8) (lo : o < 124) (bu : Int32) (hb : r8 bu) (N : Nat) (hN : s 8 4 = nI N) (h6 : N ≤ 6) (hK : ∀ d, d < N → ∃ c, c < 6 ∧ s (11 + d) 0 = nI c) (E : zE X B mX11_stoppers 124 0 0 (zR B (some (.int (wWho (fun d => s (11 + d) 0) (fun d => s (11 + d) 1) (fun d => s (11 + d) 2) (s o 3 ||| s o 4) (s o 0) bu N))) s t)) : ∀ (m : Nat) (i : Nat) (a : Int32), i + m = N → a = wWho (fun d => s (11 + d) 0) (fun d => s (11 + d) 1) (fun d => s (11 + d) 2) (s o 3 ||| s o 4) (s o 0) bu i → Zf X B mX11_stoppers s t 16 [(5, .int (nI i)), (4, .int a), (3, .int (s o 3 ||| s o 4)), (0, .ref (B.1 + 0)), (1, .ref (B.1 + o)), (2, .int bu)] [] := by
  intro m
  induction m with
  | zero =>
    intro i a hi ha
    obtain rfl : i = N := by omega
    refine z_iload C dX11_stoppers_16 0 rfl ?_
    refine z_aload_n C dX11_stoppers_18 3 rfl rfl ?_
    refine f_get11 C 1 (v := .ref (B.1 + 8)) (by decide) tw_226 rfl zk_0 zb_0 rfl dX11_stoppers_19 ?_
    refine f_get1 C 4 (v := .int (s 8 4)) (by decide) tw_173 rfl zk_8 zb_8 rfl dX11_stoppers_22 ?_
    refine f_topi hN ?_
    refine z_icmp_ge C 97 dX11_stoppers_25 (by decide) (fun _ => ?_) (fun hbr => absurd (Int32.le_refl _) hbr)
    refine z_iload C dX11_stoppers_97 1 rfl ?_
    refine z_iret C E rfl dX11_stoppers_99 rfl (Nat.le_refl _) ⟨by rw [ha], rfl⟩
  | succ m ih =>
    intro i a hi0 ha
    have hi : i < N := by omega
    refine z_iload C dX11_stoppers_16 0 rfl ?_
    refine z_aload_n C dX11_stoppers_18 3 rfl rfl ?_
    refine f_get11 C 1 (v := .ref (B.1 + 8)) (by decide) tw_226 rfl zk_0 zb_0 rfl dX11_stoppers_19 ?_
    refine f_get1 C 4 (v := .int (s 8 4)) (by decide) tw_173 rfl zk_8 zb_8 rfl dX11_stoppers_22 ?_
    refine f_topi hN ?_
    refine z_icmp_ge C 97 dX11_stoppers_25 (by decide) (fun hbr => absurd hbr (nI_ge hi (by omega))) (fun _ => ?_)
    refine z_aload_n C dX11_stoppers_28 3 rfl rfl ?_
    refine f_get11 C 1 (v := .ref (B.1 + 8)) (by decide) tw_226 rfl zk_0 zb_0 rfl dX11_stoppers_29 ?_
    refine z_iload C dX11_stoppers_32 0 rfl ?_
    refine f_callVr C hl (As := [.int (nI i)]) (rest := []) (c_X1_deputyAt8s l B s t i (by omega) (nI i) rfl (by rw [hN]; exact nI_lt hi (by omega))) zb_8 (zg_1 zk_8) rfl (zCB (nA := 1) C rfl rfl tw_424 tw_8 tw_474 (by decide +kernel) ⟨Nat.le_of_ble_eq_true rfl, Nat.le_of_ble_eq_true rfl⟩) tw_422 tw_423 rfl rfl (Nat.le_of_ble_eq_true rfl) dX11_stoppers_34 (Nat.zero_le _) ?_
    refine z_astore C [(6, .ref (B.1 + (11 + i))), (5, .int (nI i)), (4, .int a), (3, .int (s o 3 ||| s o 4)), (0, .ref (B.1 + 0)), (1, .ref (B.1 + o)), (2, .int bu)] dX11_stoppers_37 (by decide) rfl ?_
    refine z_aload C dX11_stoppers_39 0 rfl ?_
    refine z_ifnull C dX11_stoppers_41 ?_
    refine z_iload_n C dX11_stoppers_44 3 rfl rfl ?_
    refine z_iload C dX11_stoppers_45 1 rfl ?_
    refine f_callSr C hl (As := [.int (nI i)]) (rest := [.int (s o 3 ||| s o 4)]) (c_X11_bitOf l B s t (nI i)) (zCB (nA := 1) C rfl rfl tw_431 tw_1 tw_475 (by decide +kernel) ⟨Nat.le_of_ble_eq_true rfl, Nat.le_of_ble_eq_true rfl⟩) tw_430 rfl rfl (Nat.le_of_ble_eq_true rfl) dX11_stoppers_47 (Nat.zero_le _) ?_
    refine z_iand C dX11_stoppers_50 ?_
    refine z_if_ne C 91 dX11_stoppers_51 (by decide) (fun h51 => ?_) (fun h51 => ?_)
    · refine z_iinc C [(5, .int (nI (i + 1))), (6, .ref (B.1 + (11 + i))), (4, .int a), (3, .int (s o 3 ||| s o 4)), (0, .ref (B.1 + 0)), (1, .ref (B.1 + o)), (2, .int bu)] dX11_stoppers_91 1 rfl (nI_inc i) (by decide) rfl ?_
      refine z_goto C 16 dX11_stoppers_94 (by decide) ?_
      exact z_lv [0, 2, 3, 4, 5, 6] rfl (ih (i + 1) _ (by omega) (by simp [wWho, ha, h51]))
    · refine z_aload_n C dX11_stoppers_54 4 rfl rfl ?_
      refine z_aload C dX11_stoppers_55 0 rfl ?_
      refine f_get0 C 0 (v := .int (s (11 + i) 0)) (by decide) tw_119 rfl (zk_dep i (by omega)) (by omega) rfl dX11_stoppers_57 ?_
      refine z_aload C dX11_stoppers_60 0 rfl ?_
      refine f_get0 C 1 (v := .int (s (11 + i) 1)) (by decide) tw_122 rfl (zk_dep i (by omega)) (by omega) rfl dX11_stoppers_62 ?_
      refine z_aload C dX11_stoppers_65 0 rfl ?_
      refine f_get0 C 2 (v := .int (s (11 + i) 2)) (by decide) tw_125 rfl (zk_dep i (by omega)) (by omega) rfl dX11_stoppers_67 ?_
      refine z_iload_n C dX11_stoppers_70 6 rfl rfl ?_
      refine z_aload_n C dX11_stoppers_71 5 rfl rfl ?_
      refine f_get8 C 0 (v := .int (s o 0)) (by decide) tw_84 rfl ho lo rfl dX11_stoppers_72 ?_
      refine f_callVr C hl (As := [.int (s (11 + i) 0), .int (s (11 + i) 1), .int (s (11 + i) 2), .int bu, .int (s o 0)]) (rest := []) (c_X11_wouldStop l B s t (s (11 + i) 0) (s (11 + i) 1) (s (11 + i) 2) bu (s o 0) (hK i hi) hb) zb_0 (zg_11 zk_0) rfl (zCB (nA := 5) C rfl rfl tw_479 tw_1 tw_476 (by decide +kernel) ⟨Nat.le_of_ble_eq_true rfl, Nat.le_of_ble_eq_true rfl⟩) tw_478 tp_11 rfl rfl (Nat.le_of_ble_eq_true rfl) dX11_stoppers_75 (Nat.zero_le _) ?_
      refine z_ifb_eq C 91 dX11_stoppers_78 (by decide) (fun h78 => ?_) (fun h78 => ?_)
      · refine z_iinc C [(5, .int (nI (i + 1))), (6, .ref (B.1 + (11 + i))), (4, .int a), (3, .int (s o 3 ||| s o 4)), (0, .ref (B.1 + 0)), (1, .ref (B.1 + o)), (2, .int bu)] dX11_stoppers_91 1 rfl (nI_inc i) (by decide) rfl ?_
        refine z_goto C 16 dX11_stoppers_94 (by decide) ?_
        exact z_lv [0, 2, 3, 4, 5, 6] rfl (ih (i + 1) _ (by omega) (by simp [wWho, ha, h51, h78]))
      · refine z_iload C dX11_stoppers_81 2 rfl ?_
        refine z_iload C dX11_stoppers_83 1 rfl ?_
        refine f_callSr C hl (As := [.int (nI i)]) (rest := [.int a]) (c_X11_bitOf l B s t (nI i)) (zCB (nA := 1) C rfl rfl tw_431 tw_1 tw_475 (by decide +kernel) ⟨Nat.le_of_ble_eq_true rfl, Nat.le_of_ble_eq_true rfl⟩) tw_430 rfl rfl (Nat.le_of_ble_eq_true rfl) dX11_stoppers_85 (Nat.zero_le _) ?_
        refine z_ior C dX11_stoppers_88 ?_
        refine z_istore C [(4, .int (a ||| (wBit (nI i)))), (6, .ref (B.1 + (11 + i))), (5, .int (nI i)), (3, .int (s o 3 ||| s o 4)), (0, .ref (B.1 + 0)), (1, .ref (B.1 + o)), (2, .int bu)] dX11_stoppers_89 (by decide) rfl ?_
        refine z_iinc C [(5, .int (nI (i + 1))), (4, .int (a ||| (wBit (nI i)))), (6, .ref (B.1 + (11 + i))), (3, .int (s o 3 ||| s o 4)), (0, .ref (B.1 + 0)), (1, .ref (B.1 + o)), (2, .int bu)] dX11_stoppers_91 2 rfl (nI_inc i) (by decide) rfl ?_
        refine z_goto C 16 dX11_stoppers_94 (by decide) ?_
        exact z_lv [0, 1, 3, 4, 5, 6] rfl (ih (i + 1) _ (by omega) (by simp [wWho, ha, h51, h78]))
set_option maxRecDepth 100000 in
set_option maxHeartbeats 4000000 in
theorem c_X11_stoppers (l : Launch) (B : zB) (s : zS) (t : zL) (o : Nat) (ho : zk o = 8) (lo : o < 124) (bu : Int32) (hb : r8 bu) (N : Nat) (hN : s 8 4 = nI N) (h6 : N ≤ 6) (hK : ∀ d, d < N → ∃ c, c < 6 ∧ s (11 + d) 0 = nI c) : zD l B mX11_stoppers s t [.ref (B.1 + 0), .ref (B.1 + o), .int bu] (some (.int (wWho (fun d => s (11 + d) 0) (fun d => s (11 + d) 1) (fun d => s (11 + d) 2) (s o 3 ||| s o 4) (s o 0) bu N))) s t := by
  refine z_met (by decide) (Nat.le_of_ble_eq_true rfl) ?_
  intro X hl C E hnm
  show Zf X B mX11_stoppers s t 0 [(0, .ref (B.1 + 0)), (1, .ref (B.1 + o)), (2, .int bu)] []
  refine z_aload_n C dX11_stoppers_0 1 rfl rfl ?_
  refine f_get8 C 3 (v := .int (s o 3)) (by decide) tw_92 rfl ho lo rfl dX11_stoppers_1 ?_
  refine z_aload_n C dX11_stoppers_4 1 rfl rfl ?_
  refine f_get8 C 4 (v := .int (s o 4)) (by decide) tw_94 rfl ho lo rfl dX11_stoppers_5 ?_
  refine z_ior C dX11_stoppers_8 ?_
  refine z_istore_n C [(3, .int ((s o 3) ||| (s o 4))), (0, .ref (B.1 + 0)), (1, .ref (B.1 + o)), (2, .int bu)] dX11_stoppers_9 rfl (by decide) rfl ?_
  refine z_iconst C dX11_stoppers_10 ki_0 ?_
  refine z_istore C [(4, .int 0), (3, .int ((s o 3) ||| (s o 4))), (0, .ref (B.1 + 0)), (1, .ref (B.1 + o)), (2, .int bu)] dX11_stoppers_11 (by decide) rfl ?_
  refine z_iconst C dX11_stoppers_13 ki_0 ?_
  refine z_istore C [(5, .int 0), (4, .int 0), (3, .int ((s o 3) ||| (s o 4))), (0, .ref (B.1 + 0)), (1, .ref (B.1 + o)), (2, .int bu)] dX11_stoppers_14 (by decide) rfl ?_
  exact z_lv [0, 1, 2, 3, 4, 5] rfl (l_X11_stoppers hl C o ho lo bu hb N hN h6 hK E N 0 0 (by omega) rfl)
abbrev mX11_costOfAll : zM := (yX11_costOfAll, cX11_costOfAll, 5, (some .int), { frames := 3, cells := 0, slots := 0, locals := 63 })
set_option maxRecDepth 100000 in
set_option maxHeartbeats 4000000 in
theorem l_X11_costOfAll {l : Launch} {B : zB} {s : zS} {t : zL} {X : zX} (hl : X.2.1 = l) (C : zC X B mX11_costOfAll) (who : Int32) (N : Nat) (hN : s 8 4 = nI N) (h6 : N ≤ 6) (hK : ∀ d, d < N → ∃ c, c < 6 ∧ s (11 + d) 0 = nI c) (E : zE X B mX11_costOfAll 124 0 0 (zR B (some (.int (wSum (fun d => s (11 + d) 0) (fun d => s (11 + d) 3) who N))) s t)) : ∀ (m : Nat) (i : Nat) (a : Int32), i + m = N → a = wSum (fun d => s (11 + d) 0) (fun d => s (11 + d) 3) who i → Zf X B mX11_costOfAll s t 4 [(3, .int (nI i)), (2, .int a), (0, .ref (B.1 + 0)), (1, .int who)] [] := by
  intro m
  induction m with
  | zero =>
    intro i a hi ha
    obtain rfl : i = N := by omega
    refine z_iload_n C dX11_costOfAll_4 0 rfl rfl ?_
    refine z_aload_n C dX11_costOfAll_5 2 rfl rfl ?_
    refine f_get11 C 1 (v := .ref (B.1 + 8)) (by decide) tw_226 rfl zk_0 zb_0 rfl dX11_costOfAll_6 ?_
    refine f_get1 C 4 (v := .int (s 8 4)) (by decide) tw_173 rfl zk_8 zb_8 rfl dX11_costOfAll_9 ?_
    refine f_topi hN ?_
    refine z_icmp_ge C 54 dX11_costOfAll_12 (by decide) (fun _ => ?_) (fun hbr => absurd (Int32.le_refl _) hbr)
    refine z_iload_n C dX11_costOfAll_54 1 rfl rfl ?_
    refine z_iret C E rfl dX11_costOfAll_55 rfl (Nat.le_refl _) ⟨by rw [ha], rfl⟩
  | succ m ih =>
    intro i a hi0 ha
    have hi : i < N := by omega
    refine z_iload_n C dX11_costOfAll_4 0 rfl rfl ?_
    refine z_aload_n C dX11_costOfAll_5 2 rfl rfl ?_
    refine f_get11 C 1 (v := .ref (B.1 + 8)) (by decide) tw_226 rfl zk_0 zb_0 rfl dX11_costOfAll_6 ?_
    refine f_get1 C 4 (v := .int (s 8 4)) (by decide) tw_173 rfl zk_8 zb_8 rfl dX11_costOfAll_9 ?_
    refine f_topi hN ?_
    refine z_icmp_ge C 54 dX11_costOfAll_12 (by decide) (fun hbr => absurd hbr (nI_ge hi (by omega))) (fun _ => ?_)
    refine z_aload_n C dX11_costOfAll_15 2 rfl rfl ?_
    refine f_get11 C 1 (v := .ref (B.1 + 8)) (by decide) tw_226 rfl zk_0 zb_0 rfl dX11_costOfAll_16 ?_
    refine z_iload_n C dX11_costOfAll_19 0 rfl rfl ?_
    refine f_callVr C hl (As := [.int (nI i)]) (rest := []) (c_X1_deputyAt8s l B s t i (by omega) (nI i) rfl (by rw [hN]; exact nI_lt hi (by omega))) zb_8 (zg_1 zk_8) rfl (zCB (nA := 1) C rfl rfl tw_424 tw_8 tw_474 (by decide +kernel) ⟨Nat.le_of_ble_eq_true rfl, Nat.le_of_ble_eq_true rfl⟩) tw_422 tw_423 rfl rfl (Nat.le_of_ble_eq_true rfl) dX11_costOfAll_20 (Nat.zero_le _) ?_
    refine z_astore C [(4, .ref (B.1 + (11 + i))), (3, .int (nI i)), (2, .int a), (0, .ref (B.1 + 0)), (1, .int who)] dX11_costOfAll_23 (by decide) rfl ?_
    refine z_aload C dX11_costOfAll_25 0 rfl ?_
    refine z_ifnull C dX11_costOfAll_27 ?_
    refine z_iload_n C dX11_costOfAll_30 4 rfl rfl ?_
    refine z_iload_n C dX11_costOfAll_31 1 rfl rfl ?_
    refine f_callSr C hl (As := [.int (nI i)]) (rest := [.int who]) (c_X11_bitOf l B s t (nI i)) (zCB (nA := 1) C rfl rfl tw_431 tw_1 tw_475 (by decide +kernel) ⟨Nat.le_of_ble_eq_true rfl, Nat.le_of_ble_eq_true rfl⟩) tw_430 rfl rfl (Nat.le_of_ble_eq_true rfl) dX11_costOfAll_32 (Nat.zero_le _) ?_
    refine z_iand C dX11_costOfAll_35 ?_
    refine z_if_eq C 48 dX11_costOfAll_36 (by decide) (fun h36 => ?_) (fun h36 => ?_)
    · refine z_iinc C [(3, .int (nI (i + 1))), (4, .ref (B.1 + (11 + i))), (2, .int a), (0, .ref (B.1 + 0)), (1, .int who)] dX11_costOfAll_48 1 rfl (nI_inc i) (by decide) rfl ?_
      refine z_goto C 4 dX11_costOfAll_51 (by decide) ?_
      exact z_lv [0, 2, 3, 4] rfl (ih (i + 1) _ (by omega) (by simp [wSum, ha, h36]))
    · refine z_iload_n C dX11_costOfAll_39 2 rfl rfl ?_
      refine z_aload_n C dX11_costOfAll_40 3 rfl rfl ?_
      refine z_aload C dX11_costOfAll_41 0 rfl ?_
      refine f_callVr C hl (As := [.ref (B.1 + (11 + i))]) (rest := [.int a]) (c_X11_costOf l B s t (11 + i) (zk_dep i (by omega)) (by omega) (hK i hi)) zb_0 (zg_11 zk_0) rfl (zCB (nA := 1) C rfl rfl tw_539 tw_1 tw_536 (by decide +kernel) ⟨Nat.le_of_ble_eq_true rfl, Nat.le_of_ble_eq_true rfl⟩) tw_538 tp_13 rfl rfl (Nat.le_of_ble_eq_true rfl) dX11_costOfAll_43 (Nat.zero_le _) ?_
      refine z_iadd C dX11_costOfAll_46 ?_
      refine z_istore_n C [(2, .int (a + (wCost (s (11 + i) 0) (s (11 + i) 3)))), (4, .ref (B.1 + (11 + i))), (3, .int (nI i)), (0, .ref (B.1 + 0)), (1, .int who)] dX11_costOfAll_47 rfl (by decide) rfl ?_
      refine z_iinc C [(3, .int (nI (i + 1))), (2, .int (a + (wCost (s (11 + i) 0) (s (11 + i) 3)))), (4, .ref (B.1 + (11 + i))), (0, .ref (B.1 + 0)), (1, .int who)] dX11_costOfAll_48 2 rfl (nI_inc i) (by decide) rfl ?_
      refine z_goto C 4 dX11_costOfAll_51 (by decide) ?_
      exact z_lv [0, 1, 3, 4] rfl (ih (i + 1) _ (by omega) (by simp [wSum, ha, h36]))
set_option maxRecDepth 100000 in
set_option maxHeartbeats 4000000 in
theorem c_X11_costOfAll (l : Launch) (B : zB) (s : zS) (t : zL) (who : Int32) (N : Nat) (hN : s 8 4 = nI N) (h6 : N ≤ 6) (hK : ∀ d, d < N → ∃ c, c < 6 ∧ s (11 + d) 0 = nI c) : zD l B mX11_costOfAll s t [.ref (B.1 + 0), .int who] (some (.int (wSum (fun d => s (11 + d) 0) (fun d => s (11 + d) 3) who N))) s t := by
  refine z_met (by decide) (Nat.le_of_ble_eq_true rfl) ?_
  intro X hl C E hnm
  show Zf X B mX11_costOfAll s t 0 [(0, .ref (B.1 + 0)), (1, .int who)] []
  refine z_iconst C dX11_costOfAll_0 ki_0 ?_
  refine z_istore_n C [(2, .int 0), (0, .ref (B.1 + 0)), (1, .int who)] dX11_costOfAll_1 rfl (by decide) rfl ?_
  refine z_iconst C dX11_costOfAll_2 ki_0 ?_
  refine z_istore_n C [(3, .int 0), (2, .int 0), (0, .ref (B.1 + 0)), (1, .int who)] dX11_costOfAll_3 rfl (by decide) rfl ?_
  exact z_lv [0, 1, 2, 3] rfl (l_X11_costOfAll hl C who N hN h6 hK E N 0 0 (by omega) rfl)
abbrev mX11_gladOf : zM := (yX11_gladOf, cX11_gladOf, 5, (some .int), { frames := 3, cells := 0, slots := 0, locals := 66 })
/-- how many have joy of it, of the first n -/
def wGlad (K L H : Nat → Int32) (bu : Int32) : Nat → Int32
  | 0 => 0
  | n + 1 => wGlad K L H bu n + zi (decide (0 < wJoy (K n) (wPop (L n &&& bu)) (wPop (H n &&& bu))))
set_option maxRecDepth 100000 in
set_option maxHeartbeats 4000000 in
theorem l_X11_gladOf {l : Launch} {B : zB} {s : zS} {t : zL} {X : zX} (hl : X.2.1 = l) (C : zC X B mX11_gladOf) (bu : Int32) (hb : r8 bu) (N : Nat) (hN : s 8 4 = nI N) (h6 : N ≤ 6) (hK : ∀ d, d < N → ∃ c, c < 6 ∧ s (11 + d) 0 = nI c) (E : zE X B mX11_gladOf 124 0 0 (zR B (some (.int (wGlad (fun d => s (11 + d) 0) (fun d => s (11 + d) 1) (fun d => s (11 + d) 2) bu N))) s t)) : ∀ (m : Nat) (i : Nat) (a : Int32), i + m = N → a = wGlad (fun d => s (11 + d) 0) (fun d => s (11 + d) 1) (fun d => s (11 + d) 2) bu i → Zf X B mX11_gladOf s t 4 [(3, .int (nI i)), (2, .int a), (0, .ref (B.1 + 0)), (1, .int bu)] [] := by
  intro m
  induction m with
  | zero =>
    intro i a hi ha
    obtain rfl : i = N := by omega
    refine z_iload_n C dX11_gladOf_4 0 rfl rfl ?_
    refine z_aload_n C dX11_gladOf_5 2 rfl rfl ?_
    refine f_get11 C 1 (v := .ref (B.1 + 8)) (by decide) tw_226 rfl zk_0 zb_0 rfl dX11_gladOf_6 ?_
    refine f_get1 C 4 (v := .int (s 8 4)) (by decide) tw_173 rfl zk_8 zb_8 rfl dX11_gladOf_9 ?_
    refine f_topi hN ?_
    refine z_icmp_ge C 57 dX11_gladOf_12 (by decide) (fun _ => ?_) (fun hbr => absurd (Int32.le_refl _) hbr)
    refine z_iload_n C dX11_gladOf_57 1 rfl rfl ?_
    refine z_iret C E rfl dX11_gladOf_58 rfl (Nat.le_refl _) ⟨by rw [ha], rfl⟩
  | succ m ih =>
    intro i a hi0 ha
    have hi : i < N := by omega
    refine z_iload_n C dX11_gladOf_4 0 rfl rfl ?_
    refine z_aload_n C dX11_gladOf_5 2 rfl rfl ?_
    refine f_get11 C 1 (v := .ref (B.1 + 8)) (by decide) tw_226 rfl zk_0 zb_0 rfl dX11_gladOf_6 ?_
    refine f_get1 C 4 (v := .int (s 8 4)) (by decide) tw_173 rfl zk_8 zb_8 rfl dX11_gladOf_9 ?_
    refine f_topi hN ?_
    refine z_icmp_ge C 57 dX11_gladOf_12 (by decide) (fun hbr => absurd hbr (nI_ge hi (by omega))) (fun _ => ?_)
    refine z_aload_n C dX11_gladOf_15 2 rfl rfl ?_
    refine f_get11 C 1 (v := .ref (B.1 + 8)) (by decide) tw_226 rfl zk_0 zb_0 rfl dX11_gladOf_16 ?_
    refine z_iload_n C dX11_gladOf_19 0 rfl rfl ?_
    refine f_callVr C hl (As := [.int (nI i)]) (rest := []) (c_X1_deputyAt8s l B s t i (by omega) (nI i) rfl (by rw [hN]; exact nI_lt hi (by omega))) zb_8 (zg_1 zk_8) rfl (zCB (nA := 1) C rfl rfl tw_424 tw_8 tw_474 (by decide +kernel) ⟨Nat.le_of_ble_eq_true rfl, Nat.le_of_ble_eq_true rfl⟩) tw_422 tw_423 rfl rfl (Nat.le_of_ble_eq_true rfl) dX11_gladOf_20 (Nat.zero_le _) ?_
    refine z_astore C [(4, .ref (B.1 + (11 + i))), (3, .int (nI i)), (2, .int a), (0, .ref (B.1 + 0)), (1, .int bu)] dX11_gladOf_23 (by decide) rfl ?_
    refine z_iload_n C dX11_gladOf_25 2 rfl rfl ?_
    refine z_aload C dX11_gladOf_26 0 rfl ?_
    refine z_ifnull C dX11_gladOf_28 ?_
    refine z_aload_n C dX11_gladOf_31 3 rfl rfl ?_
    refine z_aload C dX11_gladOf_32 0 rfl ?_
    refine z_iload_n C dX11_gladOf_34 4 rfl rfl ?_
    refine f_callVr C hl (As := [.ref (B.1 + (11 + i)), .int bu]) (rest := [.int a]) (c_X11_joyFor l B s t (11 + i) (zk_dep i (by omega)) (by omega) (hK i hi) bu hb) zb_0 (zg_11 zk_0) rfl (zCB (nA := 2) C rfl rfl tw_584 tw_1 tw_581 (by decide +kernel) ⟨Nat.le_of_ble_eq_true rfl, Nat.le_of_ble_eq_true rfl⟩) tw_583 tp_14 rfl rfl (Nat.le_of_ble_eq_true rfl) dX11_gladOf_35 (Nat.zero_le _) ?_
    refine z_if_le C 45 dX11_gladOf_38 (by decide) (fun h38 => ?_) (fun h38 => ?_)
    · refine z_iconst C dX11_gladOf_45 ki_0 ?_
      refine f_callSr C hl (As := [.int 0]) (rest := [.int a]) (c_X11_oneIf l B s t false) (zCB (nA := 1) C rfl rfl tw_576 tw_1 tw_574 (by decide +kernel) ⟨Nat.le_of_ble_eq_true rfl, Nat.le_of_ble_eq_true rfl⟩) tw_575 rfl rfl (Nat.le_of_ble_eq_true rfl) dX11_gladOf_46 (Nat.zero_le _) ?_
      refine z_iadd C dX11_gladOf_49 ?_
      refine z_istore_n C [(2, .int (a + (zi false))), (4, .ref (B.1 + (11 + i))), (3, .int (nI i)), (0, .ref (B.1 + 0)), (1, .int bu)] dX11_gladOf_50 rfl (by decide) rfl ?_
      refine z_iinc C [(3, .int (nI (i + 1))), (2, .int (a + (zi false))), (4, .ref (B.1 + (11 + i))), (0, .ref (B.1 + 0)), (1, .int bu)] dX11_gladOf_51 2 rfl (nI_inc i) (by decide) rfl ?_
      refine z_goto C 4 dX11_gladOf_54 (by decide) ?_
      exact z_lv [0, 1, 3, 4] rfl (ih (i + 1) _ (by omega) (by simp_all [wGlad, zi]))
    · refine z_iconst C dX11_gladOf_41 ki_1 ?_
      refine z_goto C 46 dX11_gladOf_42 (by decide) ?_
      refine f_callSr C hl (As := [.int 1]) (rest := [.int a]) (c_X11_oneIf l B s t true) (zCB (nA := 1) C rfl rfl tw_576 tw_1 tw_574 (by decide +kernel) ⟨Nat.le_of_ble_eq_true rfl, Nat.le_of_ble_eq_true rfl⟩) tw_575 rfl rfl (Nat.le_of_ble_eq_true rfl) dX11_gladOf_46 (Nat.zero_le _) ?_
      refine z_iadd C dX11_gladOf_49 ?_
      refine z_istore_n C [(2, .int (a + (zi true))), (4, .ref (B.1 + (11 + i))), (3, .int (nI i)), (0, .ref (B.1 + 0)), (1, .int bu)] dX11_gladOf_50 rfl (by decide) rfl ?_
      refine z_iinc C [(3, .int (nI (i + 1))), (2, .int (a + (zi true))), (4, .ref (B.1 + (11 + i))), (0, .ref (B.1 + 0)), (1, .int bu)] dX11_gladOf_51 2 rfl (nI_inc i) (by decide) rfl ?_
      refine z_goto C 4 dX11_gladOf_54 (by decide) ?_
      exact z_lv [0, 1, 3, 4] rfl (ih (i + 1) _ (by omega) (by simp_all [wGlad, zi]))
set_option maxRecDepth 100000 in
set_option maxHeartbeats 4000000 in
theorem c_X11_gladOf (l : Launch) (B : zB) (s : zS) (t : zL) (bu : Int32) (hb : r8 bu) (N : Nat) (hN : s 8 4 = nI N) (h6 : N ≤ 6) (hK : ∀ d, d < N → ∃ c, c < 6 ∧ s (11 + d) 0 = nI c) : zD l B mX11_gladOf s t [.ref (B.1 + 0), .int bu] (some (.int (wGlad (fun d => s (11 + d) 0) (fun d => s (11 + d) 1) (fun d => s (11 + d) 2) bu N))) s t := by
  refine z_met (by decide) (Nat.le_of_ble_eq_true rfl) ?_
  intro X hl C E hnm
  show Zf X B mX11_gladOf s t 0 [(0, .ref (B.1 + 0)), (1, .int bu)] []
  refine z_iconst C dX11_gladOf_0 ki_0 ?_
  refine z_istore_n C [(2, .int 0), (0, .ref (B.1 + 0)), (1, .int bu)] dX11_gladOf_1 rfl (by decide) rfl ?_
  refine z_iconst C dX11_gladOf_2 ki_0 ?_
  refine z_istore_n C [(3, .int 0), (2, .int 0), (0, .ref (B.1 + 0)), (1, .int bu)] dX11_gladOf_3 rfl (by decide) rfl ?_
  exact z_lv [0, 1, 2, 3] rfl (l_X11_gladOf hl C bu hb N hN h6 hK E N 0 0 (by omega) rfl)
