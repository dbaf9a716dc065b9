theorem c_X12_in0 (l : Launch) (B : zB) (s : zS) (t : zL) (x b : Int32) (xa lb : Int64) (hx : xa = x.toInt64) (hb : lb = b.toInt64) : zD l B mX12_in s t [.long xa, .long 0, .long lb] (some (.int (zi (wIn x b)))) s t := c_X12_in l B s t x 0 b xa 0 lb hx (by decide) hb
def mK (s : zS) : Nat → Int32 := fun d => s 114 (9 + 4 * d + 0)
def mL (s : zS) : Nat → Int32 := fun d => s 114 (9 + 4 * d + 1)
def mH (s : zS) : Nat → Int32 := fun d => s 114 (9 + 4 * d + 2)
def mP (s : zS) : Nat → Int32 := fun d => s 114 (9 + 4 * d + 3)
def mS (s : zS) : Int32 := s 114 3 ||| s 114 4
/-- who stops b, as the model's cells say -/
def mW (s : zS) (N : Nat) (b : Int32) : Int32 := wWho (mK s) (mL s) (mH s) (mS s) (s 114 6) b N
def mOk (s : zS) (N : Nat) : Prop := s 114 0 = nI N ∧ N ≤ 6 ∧ (∀ d, d < N → ∃ c, c < 6 ∧ s 114 (9 + 4 * d + 0) = nI c) ∧ r8 (s 114 3) ∧ r8 (s 114 4)
theorem wHand_row (s : zS) {N k : Nat} (h0 : k ≠ 113) (h1 : k ≠ 118) (h2 : k ≠ 119) (h3 : k ≠ 120) : wHand s N k = s k := by
  rw [wHand, zu_row _ _ h0, zu_row _ _ h0, wHand0_row _ h1 h2 h3]
theorem wHand_114 (s : zS) {N : Nat} : wHand s N 114 = s 114 := wHand_row s (by decide) (by decide) (by decide) (by decide)
theorem hd_hand {s : zS} {N : Nat} (h : mOk s N) : wHd (wHand s N) N (mK s) (mL s) (mH s) (mS s) (s 114 6) := by
  obtain ⟨hN, h6, hK, h3, h4⟩ := h
  refine ⟨by rw [wHand_114]; exact hN, h6, fun d hd => ⟨?_, ?_, ?_⟩, hK, ?_, r8_or h3 h4, ?_⟩
  · rw [wHand, zu_row _ _ (by decide), zu_row _ _ (by decide)]; simp [wHand0, hd, mK]
  · rw [wHand, zu_row _ _ (by decide), zu_row _ _ (by decide)]; simp [wHand0, hd, mL]
  · rw [wHand, zu_row _ _ (by decide), zu_row _ _ (by decide)]; simp [wHand0, hd, mH]
  · simp [wHand, zu, mS]
  · simp [wHand, zu]
theorem wKeep_row (s : zS) {p k : Nat} (h : k ≠ 114) : wKeep s p k = s k := by
  funext j
  simp only [wKeep, wKeep1]
  split
  · simp [zu, wCpp, wSh, h]
  · simp [zu, wCpp, h]
theorem wKeep_lo (s : zS) {p j : Nat} (h : j < 57) (h8 : j ≠ 8) : wKeep s p 114 j = s 114 j := by
  simp only [wKeep, wKeep1]
  split
  · simp only [zu, wCpp, wSh]
    rw [if_neg (by omega), if_neg (by omega), if_neg (by omega), if_neg (by omega)]
  · simp only [zu, wCpp]
    rw [if_neg (by omega), if_neg (by omega)]
theorem wHd_of {s s2 : zS} {N : Nat} {K Lo Ha : Nat → Int32} {sl dy : Int32} (h : wHd s N K Lo Ha sl dy) (h0 : s2 114 0 = s 114 0) (h1 : s2 113 = s 113) (h2 : s2 118 = s 118) (h3 : s2 119 = s 119) (h4 : s2 120 = s 120) : wHd s2 N K Lo Ha sl dy := by
  obtain ⟨a, b, c, d, e, f, g⟩ := h
  exact ⟨by rw [h0]; exact a, b, fun i hi => by rw [h2, h3, h4]; exact c i hi, d, by rw [h1]; exact e, f, by rw [h1]; exact g⟩
theorem hd_keep {s : zS} {N p : Nat} {K Lo Ha : Nat → Int32} {sl dy : Int32} (h : wHd s N K Lo Ha sl dy) : wHd (wKeep s p) N K Lo Ha sl dy := wHd_of h (wKeep_lo s (by decide) (by decide)) (wKeep_row s (by decide)) (wKeep_row s (by decide)) (wKeep_row s (by decide)) (wKeep_row s (by decide))
abbrev mX12_house : zM := (yX12_house, cX12_house, 3, (some .int), { frames := 1, cells := 0, slots := 0, locals := 25 })
set_option maxRecDepth 100000 in
set_option maxHeartbeats 4000000 in
theorem c_X12_house_ok (l : Launch) (B : zB) (s : zS) (t : zL) (a : Int32) (g : wIn a 99 = true) : zD l B mX12_house s t [.ref (B.1 + 113), .int a] (some (.int (s 114 0))) (wBeg s 114 a) t := by
  refine z_met (by decide) (Nat.le_of_ble_eq_true rfl) ?_
  intro X hl C E hnm
  show Zf X B mX12_house s t 0 [(0, .ref (B.1 + 113)), (1, .int a)] []
  refine z_iload_n C dX12_house_0 1 rfl rfl ?_
  refine z_i2l C dX12_house_1 ?_
  refine z_lconst C dX12_house_2 kl_0 ?_
  refine z_ldc2 C dX12_house_3 tw_807 ?_
  refine f_callSr C hl (As := [.long ((a : Int32).toInt64), .long 0, .long 99]) (rest := []) (c_X12_in0 l B s t a 99 ((a : Int32).toInt64) 99 rfl (by decide)) (zCB (nA := 3) C rfl rfl tw_810 tw_13 tw_808 (by decide +kernel) ⟨Nat.le_of_ble_eq_true rfl, Nat.le_of_ble_eq_true rfl⟩) tw_809 rfl rfl (Nat.le_of_ble_eq_true rfl) dX12_house_6 (Nat.zero_le _) ?_
  refine z_ifb_ne C 19 dX12_house_9 (by decide) (fun _ => ?_) (fun hbr => Bool.noConfusion (show false = true from hbr.symm.trans g))
  refine z_aload_n C dX12_house_19 0 rfl rfl ?_
  refine f_callVr C hl (As := []) (rest := []) (c_X12_many l B s t) zb_113 (zg_12 zk_113) rfl (zCB (nA := 0) C rfl rfl tw_818 tw_13 tw_815 (by decide +kernel) ⟨Nat.le_of_ble_eq_true rfl, Nat.le_of_ble_eq_true rfl⟩) tw_817 tp_27 rfl rfl (Nat.le_of_ble_eq_true rfl) dX12_house_20 (Nat.zero_le _) ?_
  refine z_istore_n C [(2, .int (s 114 0)), (0, .ref (B.1 + 113)), (1, .int a)] dX12_house_23 rfl (by decide) rfl ?_
  refine z_aload_n C dX12_house_24 1 rfl rfl ?_
  refine f_get12 C 0 (v := .ref (B.1 + 114)) (by decide) tw_744 rfl zk_113 zb_113 rfl dX12_house_25 ?_
  refine z_iload_n C dX12_house_28 2 rfl rfl ?_
  refine f_callSv C hl (As := [.ref (B.1 + 114), .int a]) (rest := []) (c_X12_begin114 l B s t a) (zCB (nA := 2) C rfl rfl tw_743 tw_13 tw_741 (by decide +kernel) ⟨Nat.le_of_ble_eq_true rfl, Nat.le_of_ble_eq_true rfl⟩) tw_742 rfl rfl (Nat.le_of_ble_eq_true rfl) dX12_house_29 (Nat.zero_le _) ?_
  refine z_iload_n C dX12_house_32 0 rfl rfl ?_
  refine z_iret C E rfl dX12_house_33 rfl (Nat.le_refl _) ⟨rfl, rfl⟩
set_option maxRecDepth 100000 in
set_option maxHeartbeats 4000000 in
theorem c_X12_house_bad (l : Launch) (B : zB) (s : zS) (t : zL) (a : Int32) (g : wIn a 99 = false) : zD l B mX12_house s t [.ref (B.1 + 113), .int a] (some (.int (-2))) (zu s 117 0 (s 117 0 + 1)) t := by
  refine z_met (by decide) (Nat.le_of_ble_eq_true rfl) ?_
  intro X hl C E hnm
  show Zf X B mX12_house s t 0 [(0, .ref (B.1 + 113)), (1, .int a)] []
  refine z_iload_n C dX12_house_0 1 rfl rfl ?_
  refine z_i2l C dX12_house_1 ?_
  refine z_lconst C dX12_house_2 kl_0 ?_
  refine z_ldc2 C dX12_house_3 tw_807 ?_
  refine f_callSr C hl (As := [.long ((a : Int32).toInt64), .long 0, .long 99]) (rest := []) (c_X12_in0 l B s t a 99 ((a : Int32).toInt64) 99 rfl (by decide)) (zCB (nA := 3) C rfl rfl tw_810 tw_13 tw_808 (by decide +kernel) ⟨Nat.le_of_ble_eq_true rfl, Nat.le_of_ble_eq_true rfl⟩) tw_809 rfl rfl (Nat.le_of_ble_eq_true rfl) dX12_house_6 (Nat.zero_le _) ?_
  refine z_ifb_ne C 19 dX12_house_9 (by decide) (fun hbr => absurd hbr (by rw [g]; decide)) (fun _ => ?_)
  refine z_aload_n C dX12_house_12 0 rfl rfl ?_
  refine z_bipush C dX12_house_13 kb_m2 ?_
  refine f_callVr C hl (As := [.int (-2)]) (rest := []) (c_X12_bad l B s t (-2)) zb_113 (zg_12 zk_113) rfl (zCB (nA := 1) C rfl rfl tw_814 tw_13 tw_811 (by decide +kernel) ⟨Nat.le_of_ble_eq_true rfl, Nat.le_of_ble_eq_true rfl⟩) tw_813 tp_26 rfl rfl (Nat.le_of_ble_eq_true rfl) dX12_house_15 (Nat.zero_le _) ?_
  refine z_iret C E rfl dX12_house_18 rfl (Nat.le_refl _) ⟨rfl, rfl⟩
theorem gI2 {x : Int32} {n : Nat} (h : x = nI n) : (9 : Int32) + 4 * x = nI (9 + 4 * n) := nA (a := 9) rfl (nM (a := 4) rfl h rfl) rfl
abbrev mX12_layDeputy : zM := (yX12_layDeputy, cX12_layDeputy, 6, none, { frames := 0, cells := 0, slots := 0, locals := 0 })
def wLay114 (s : zS) (n : Nat) (a b c d : Int32) : zS := (zu (zu (zu (zu (zu s 114 (9 + 4 * n + 0) a) 114 (9 + 4 * n + 1) b) 114 (9 + 4 * n + 2) c) 114 (9 + 4 * n + 3) d) 114 0 (nI (n + 1)))
set_option maxRecDepth 100000 in
set_option maxHeartbeats 4000000 in
theorem c_X12_layDeputy114 (l : Launch) (B : zB) (s : zS) (t : zL) (n : Nat) (hn : n < 6) (hc : s 114 0 = nI n) (a b c d : Int32) : zD l B mX12_layDeputy s t [.ref (B.1 + 114), .int a, .int b, .int c, .int d] none (wLay114 s n a b c d) t := by
  refine z_met (by decide) (Nat.le_of_ble_eq_true rfl) ?_
  intro X hl C E hnm
  show Zf X B mX12_layDeputy s t 0 [(0, .ref (B.1 + 114)), (1, .int a), (2, .int b), (3, .int c), (4, .int d)] []
  refine z_bipush C dX12_layDeputy_0 kb_9 ?_
  refine z_iconst C dX12_layDeputy_2 ki_4 ?_
  refine z_aload_n C dX12_layDeputy_3 0 rfl rfl ?_
  refine z_iconst C dX12_layDeputy_4 ki_0 ?_
  refine f_ialdL C zk_114 zb_114 (by unfold vp_in; decide) (j := 0) (by decide) dX12_layDeputy_5 ?_
  refine z_imul C dX12_layDeputy_6 ?_
  refine z_iadd C dX12_layDeputy_7 ?_
  refine f_topi (y := nI (9 + 4 * n)) (gI2 hc) ?_
  refine z_istore C [(5, .int (nI (9 + 4 * n))), (0, .ref (B.1 + 114)), (1, .int a), (2, .int b), (3, .int c), (4, .int d)] dX12_layDeputy_8 (by decide) rfl ?_
  refine z_aload_n C dX12_layDeputy_10 1 rfl rfl ?_
  refine z_iload C dX12_layDeputy_11 0 rfl ?_
  refine z_iconst C dX12_layDeputy_13 ki_0 ?_
  refine z_iadd C dX12_layDeputy_14 ?_
  refine z_iload_n C dX12_layDeputy_15 2 rfl rfl ?_
  refine f_iastL C zk_114 zb_114 (ixN (n := 105) (nA (b := 0) rfl rfl rfl) (by omega) (by decide)).1 (j := (9 + 4 * n + 0)) (ixN (n := 105) (nA (b := 0) rfl rfl rfl) (by omega) (by decide)).2 dX12_layDeputy_16 ?_
  refine z_aload_n C dX12_layDeputy_17 1 rfl rfl ?_
  refine z_iload C dX12_layDeputy_18 0 rfl ?_
  refine z_iconst C dX12_layDeputy_20 ki_1 ?_
  refine z_iadd C dX12_layDeputy_21 ?_
  refine z_iload_n C dX12_layDeputy_22 3 rfl rfl ?_
  refine f_iastL C zk_114 zb_114 (ixN (n := 105) (nA (b := 1) rfl rfl rfl) (by omega) (by decide)).1 (j := (9 + 4 * n + 1)) (ixN (n := 105) (nA (b := 1) rfl rfl rfl) (by omega) (by decide)).2 dX12_layDeputy_23 ?_
  refine z_aload_n C dX12_layDeputy_24 1 rfl rfl ?_
  refine z_iload C dX12_layDeputy_25 0 rfl ?_
  refine z_iconst C dX12_layDeputy_27 ki_2 ?_
  refine z_iadd C dX12_layDeputy_28 ?_
  refine z_iload_n C dX12_layDeputy_29 4 rfl rfl ?_
  refine f_iastL C zk_114 zb_114 (ixN (n := 105) (nA (b := 2) rfl rfl rfl) (by omega) (by decide)).1 (j := (9 + 4 * n + 2)) (ixN (n := 105) (nA (b := 2) rfl rfl rfl) (by omega) (by decide)).2 dX12_layDeputy_30 ?_
  refine z_aload_n C dX12_layDeputy_31 1 rfl rfl ?_
  refine z_iload C dX12_layDeputy_32 0 rfl ?_
  refine z_iconst C dX12_layDeputy_34 ki_3 ?_
  refine z_iadd C dX12_layDeputy_35 ?_
  refine z_iload C dX12_layDeputy_36 5 rfl ?_
  refine f_iastL C zk_114 zb_114 (ixN (n := 105) (nA (b := 3) rfl rfl rfl) (by omega) (by decide)).1 (j := (9 + 4 * n + 3)) (ixN (n := 105) (nA (b := 3) rfl rfl rfl) (by omega) (by decide)).2 dX12_layDeputy_38 ?_
  refine z_aload_n C dX12_layDeputy_39 1 rfl rfl ?_
  refine z_iconst C dX12_layDeputy_40 ki_0 ?_
  refine z_dup2 C dX12_layDeputy_41 rfl rfl ?_
  refine f_ialdL C zk_114 zb_114 (by unfold vp_in; decide) (j := 0) (by decide) dX12_layDeputy_42 ?_
  refine f_topi (y := nI n) (by rw [zu_ne _ _ (by omega), zu_ne _ _ (by omega), zu_ne _ _ (by omega), zu_ne _ _ (by omega)]; exact hc) ?_
  refine z_iconst C dX12_layDeputy_43 ki_1 ?_
  refine z_iadd C dX12_layDeputy_44 ?_
  refine f_topi (y := nI (n + 1)) (nI_1 n) ?_
  refine f_iastL C zk_114 zb_114 (by unfold vp_in; decide) (j := 0) (by decide) dX12_layDeputy_45 ?_
  refine z_vret C E rfl dX12_layDeputy_46 rfl (Nat.le_refl _) ⟨rfl, rfl⟩
def wLay122 (s : zS) (n : Nat) (a b c d : Int32) : zS := (zu (zu (zu (zu (zu s 122 (9 + 4 * n + 0) a) 122 (9 + 4 * n + 1) b) 122 (9 + 4 * n + 2) c) 122 (9 + 4 * n + 3) d) 122 0 (nI (n + 1)))
set_option maxRecDepth 100000 in
set_option maxHeartbeats 4000000 in
theorem c_X12_layDeputy122 (l : Launch) (B : zB) (s : zS) (t : zL) (n : Nat) (hn : n < 6) (hc : s 122 0 = nI n) (a b c d : Int32) : zD l B mX12_layDeputy s t [.ref (B.1 + 122), .int a, .int b, .int c, .int d] none (wLay122 s n a b c d) t := by
  refine z_met (by decide) (Nat.le_of_ble_eq_true rfl) ?_
  intro X hl C E hnm
  show Zf X B mX12_layDeputy s t 0 [(0, .ref (B.1 + 122)), (1, .int a), (2, .int b), (3, .int c), (4, .int d)] []
  refine z_bipush C dX12_layDeputy_0 kb_9 ?_
  refine z_iconst C dX12_layDeputy_2 ki_4 ?_
  refine z_aload_n C dX12_layDeputy_3 0 rfl rfl ?_
  refine z_iconst C dX12_layDeputy_4 ki_0 ?_
  refine f_ialdL C zk_122 zb_122 (by unfold vp_in; decide) (j := 0) (by decide) dX12_layDeputy_5 ?_
  refine z_imul C dX12_layDeputy_6 ?_
  refine z_iadd C dX12_layDeputy_7 ?_
  refine f_topi (y := nI (9 + 4 * n)) (gI2 hc) ?_
  refine z_istore C [(5, .int (nI (9 + 4 * n))), (0, .ref (B.1 + 122)), (1, .int a), (2, .int b), (3, .int c), (4, .int d)] dX12_layDeputy_8 (by decide) rfl ?_
  refine z_aload_n C dX12_layDeputy_10 1 rfl rfl ?_
  refine z_iload C dX12_layDeputy_11 0 rfl ?_
  refine z_iconst C dX12_layDeputy_13 ki_0 ?_
  refine z_iadd C dX12_layDeputy_14 ?_
  refine z_iload_n C dX12_layDeputy_15 2 rfl rfl ?_
  refine f_iastL C zk_122 zb_122 (ixN (n := 57) (nA (b := 0) rfl rfl rfl) (by omega) (by decide)).1 (j := (9 + 4 * n + 0)) (ixN (n := 57) (nA (b := 0) rfl rfl rfl) (by omega) (by decide)).2 dX12_layDeputy_16 ?_
  refine z_aload_n C dX12_layDeputy_17 1 rfl rfl ?_
  refine z_iload C dX12_layDeputy_18 0 rfl ?_
  refine z_iconst C dX12_layDeputy_20 ki_1 ?_
  refine z_iadd C dX12_layDeputy_21 ?_
  refine z_iload_n C dX12_layDeputy_22 3 rfl rfl ?_
  refine f_iastL C zk_122 zb_122 (ixN (n := 57) (nA (b := 1) rfl rfl rfl) (by omega) (by decide)).1 (j := (9 + 4 * n + 1)) (ixN (n := 57) (nA (b := 1) rfl rfl rfl) (by omega) (by decide)).2 dX12_layDeputy_23 ?_
  refine z_aload_n C dX12_layDeputy_24 1 rfl rfl ?_
  refine z_iload C dX12_layDeputy_25 0 rfl ?_
  refine z_iconst C dX12_layDeputy_27 ki_2 ?_
  refine z_iadd C dX12_layDeputy_28 ?_
  refine z_iload_n C dX12_layDeputy_29 4 rfl rfl ?_
  refine f_iastL C zk_122 zb_122 (ixN (n := 57) (nA (b := 2) rfl rfl rfl) (by omega) (by decide)).1 (j := (9 + 4 * n + 2)) (ixN (n := 57) (nA (b := 2) rfl rfl rfl) (by omega) (by decide)).2 dX12_layDeputy_30 ?_
  refine z_aload_n C dX12_layDeputy_31 1 rfl rfl ?_
  refine z_iload C dX12_layDeputy_32 0 rfl ?_
  refine z_iconst C dX12_layDeputy_34 ki_3 ?_
  refine z_iadd C dX12_layDeputy_35 ?_
  refine z_iload C dX12_layDeputy_36 5 rfl ?_
  refine f_iastL C zk_122 zb_122 (ixN (n := 57) (nA (b := 3) rfl rfl rfl) (by omega) (by decide)).1 (j := (9 + 4 * n + 3)) (ixN (n := 57) (nA (b := 3) rfl rfl rfl) (by omega) (by decide)).2 dX12_layDeputy_38 ?_
  refine z_aload_n C dX12_layDeputy_39 1 rfl rfl ?_
  refine z_iconst C dX12_layDeputy_40 ki_0 ?_
  refine z_dup2 C dX12_layDeputy_41 rfl rfl ?_
  refine f_ialdL C zk_122 zb_122 (by unfold vp_in; decide) (j := 0) (by decide) dX12_layDeputy_42 ?_
  refine f_topi (y := nI n) (by rw [zu_ne _ _ (by omega), zu_ne _ _ (by omega), zu_ne _ _ (by omega), zu_ne _ _ (by omega)]; exact hc) ?_
  refine z_iconst C dX12_layDeputy_43 ki_1 ?_
  refine z_iadd C dX12_layDeputy_44 ?_
  refine f_topi (y := nI (n + 1)) (nI_1 n) ?_
  refine f_iastL C zk_122 zb_122 (by unfold vp_in; decide) (j := 0) (by decide) dX12_layDeputy_45 ?_
  refine z_vret C E rfl dX12_layDeputy_46 rfl (Nat.le_refl _) ⟨rfl, rfl⟩
abbrev mX12_deputy : zM := (yX12_deputy, cX12_deputy, 5, (some .int), { frames := 2, cells := 0, slots := 0, locals := 45 })
set_option maxRecDepth 100000 in
set_option maxHeartbeats 4000000 in
theorem c_X12_deputy_bad (l : Launch) (B : zB) (s : zS) (t : zL) (a b c d : Int32) (h : (wIn a 5 && wIn b 255 && wIn c 255 && wIn d 40) = false) : zD l B mX12_deputy s t [.ref (B.1 + 113), .int a, .int b, .int c, .int d] (some (.int (-2))) (zu s 117 0 (s 117 0 + 1)) t := by
  refine z_met (by decide) (Nat.le_of_ble_eq_true rfl) ?_
  intro X hl C E hnm
  show Zf X B mX12_deputy s t 0 [(0, .ref (B.1 + 113)), (1, .int a), (2, .int b), (3, .int c), (4, .int d)] []
  refine z_iload_n C dX12_deputy_0 1 rfl rfl ?_
  refine z_i2l C dX12_deputy_1 ?_
  refine z_lconst C dX12_deputy_2 kl_0 ?_
  refine z_ldc2 C dX12_deputy_3 tw_823 ?_
  refine f_callSr C hl (As := [.long ((a : Int32).toInt64), .long 0, .long 5]) (rest := []) (c_X12_in0 l B s t a 5 ((a : Int32).toInt64) 5 rfl (by decide)) (zCB (nA := 3) C rfl rfl tw_810 tw_13 tw_808 (by decide +kernel) ⟨Nat.le_of_ble_eq_true rfl, Nat.le_of_ble_eq_true rfl⟩) tw_809 rfl rfl (Nat.le_of_ble_eq_true rfl) dX12_deputy_6 (Nat.zero_le _) ?_
  refine z_ifb_eq C 39 dX12_deputy_9 (by decide) (fun h9 => ?_) (fun h9 => ?_)
  · refine z_aload_n C dX12_deputy_39 0 rfl rfl ?_
    refine z_bipush C dX12_deputy_40 kb_m2 ?_
    refine f_callVr C hl (As := [.int (-2)]) (rest := []) (c_X12_bad l B s t (-2)) zb_113 (zg_12 zk_113) rfl (zCB (nA := 1) C rfl rfl tw_814 tw_13 tw_811 (by decide +kernel) ⟨Nat.le_of_ble_eq_true rfl, Nat.le_of_ble_eq_true rfl⟩) tw_813 tp_26 rfl rfl (Nat.le_of_ble_eq_true rfl) dX12_deputy_42 (Nat.zero_le _) ?_
    refine z_iret C E rfl dX12_deputy_45 rfl (Nat.le_refl _) ⟨rfl, rfl⟩
  · refine z_iload_n C dX12_deputy_12 2 rfl rfl ?_
    refine f_callSr C hl (As := [.int b]) (rest := []) (c_X12_isBundle l B s t b) (zCB (nA := 1) C rfl rfl tw_826 tw_13 tw_824 (by decide +kernel) ⟨Nat.le_of_ble_eq_true rfl, Nat.le_of_ble_eq_true rfl⟩) tw_825 rfl rfl (Nat.le_of_ble_eq_true rfl) dX12_deputy_13 (Nat.zero_le _) ?_
    refine z_ifb_eq C 39 dX12_deputy_16 (by decide) (fun h16 => ?_) (fun h16 => ?_)
    · refine z_aload_n C dX12_deputy_39 0 rfl rfl ?_
      refine z_bipush C dX12_deputy_40 kb_m2 ?_
      refine f_callVr C hl (As := [.int (-2)]) (rest := []) (c_X12_bad l B s t (-2)) zb_113 (zg_12 zk_113) rfl (zCB (nA := 1) C rfl rfl tw_814 tw_13 tw_811 (by decide +kernel) ⟨Nat.le_of_ble_eq_true rfl, Nat.le_of_ble_eq_true rfl⟩) tw_813 tp_26 rfl rfl (Nat.le_of_ble_eq_true rfl) dX12_deputy_42 (Nat.zero_le _) ?_
      refine z_iret C E rfl dX12_deputy_45 rfl (Nat.le_refl _) ⟨rfl, rfl⟩
    · refine z_iload_n C dX12_deputy_19 3 rfl rfl ?_
      refine f_callSr C hl (As := [.int c]) (rest := []) (c_X12_isBundle l B s t c) (zCB (nA := 1) C rfl rfl tw_826 tw_13 tw_824 (by decide +kernel) ⟨Nat.le_of_ble_eq_true rfl, Nat.le_of_ble_eq_true rfl⟩) tw_825 rfl rfl (Nat.le_of_ble_eq_true rfl) dX12_deputy_20 (Nat.zero_le _) ?_
      refine z_ifb_eq C 39 dX12_deputy_23 (by decide) (fun h23 => ?_) (fun h23 => ?_)
      · refine z_aload_n C dX12_deputy_39 0 rfl rfl ?_
        refine z_bipush C dX12_deputy_40 kb_m2 ?_
        refine f_callVr C hl (As := [.int (-2)]) (rest := []) (c_X12_bad l B s t (-2)) zb_113 (zg_12 zk_113) rfl (zCB (nA := 1) C rfl rfl tw_814 tw_13 tw_811 (by decide +kernel) ⟨Nat.le_of_ble_eq_true rfl, Nat.le_of_ble_eq_true rfl⟩) tw_813 tp_26 rfl rfl (Nat.le_of_ble_eq_true rfl) dX12_deputy_42 (Nat.zero_le _) ?_
        refine z_iret C E rfl dX12_deputy_45 rfl (Nat.le_refl _) ⟨rfl, rfl⟩
      · refine z_iload C dX12_deputy_26 4 rfl ?_
        refine z_i2l C dX12_deputy_28 ?_
        refine z_lconst C dX12_deputy_29 kl_0 ?_
        refine z_ldc2 C dX12_deputy_30 tw_828 ?_
        refine f_callSr C hl (As := [.long ((d : Int32).toInt64), .long 0, .long 40]) (rest := []) (c_X12_in0 l B s t d 40 ((d : Int32).toInt64) 40 rfl (by decide)) (zCB (nA := 3) C rfl rfl tw_810 tw_13 tw_808 (by decide +kernel) ⟨Nat.le_of_ble_eq_true rfl, Nat.le_of_ble_eq_true rfl⟩) tw_809 rfl rfl (Nat.le_of_ble_eq_true rfl) dX12_deputy_33 (Nat.zero_le _) ?_
        refine z_ifb_ne C 46 dX12_deputy_36 (by decide) (fun h36 => ?_) (fun h36 => ?_)
        · exact absurd h (by rw [h9, h16, h23, h36]; decide)
        · refine z_aload_n C dX12_deputy_39 0 rfl rfl ?_
          refine z_bipush C dX12_deputy_40 kb_m2 ?_
          refine f_callVr C hl (As := [.int (-2)]) (rest := []) (c_X12_bad l B s t (-2)) zb_113 (zg_12 zk_113) rfl (zCB (nA := 1) C rfl rfl tw_814 tw_13 tw_811 (by decide +kernel) ⟨Nat.le_of_ble_eq_true rfl, Nat.le_of_ble_eq_true rfl⟩) tw_813 tp_26 rfl rfl (Nat.le_of_ble_eq_true rfl) dX12_deputy_42 (Nat.zero_le _) ?_
          refine z_iret C E rfl dX12_deputy_45 rfl (Nat.le_refl _) ⟨rfl, rfl⟩
set_option maxRecDepth 100000 in
set_option maxHeartbeats 4000000 in
theorem c_X12_deputy_full (l : Launch) (B : zB) (s : zS) (t : zL) (a b c d : Int32) (g1 : wIn a 5 = true) (g2 : wIn b 255 = true) (g3 : wIn c 255 = true) (g4 : wIn d 40 = true) (hc : s 114 0 = 6) : zD l B mX12_deputy s t [.ref (B.1 + 113), .int a, .int b, .int c, .int d] (some (.int (-4))) (zu s 117 2 (s 117 2 + 1)) t := by
  refine z_met (by decide) (Nat.le_of_ble_eq_true rfl) ?_
  intro X hl C E hnm
  show Zf X B mX12_deputy s t 0 [(0, .ref (B.1 + 113)), (1, .int a), (2, .int b), (3, .int c), (4, .int d)] []
  refine z_iload_n C dX12_deputy_0 1 rfl rfl ?_
  refine z_i2l C dX12_deputy_1 ?_
  refine z_lconst C dX12_deputy_2 kl_0 ?_
  refine z_ldc2 C dX12_deputy_3 tw_823 ?_
  refine f_callSr C hl (As := [.long ((a : Int32).toInt64), .long 0, .long 5]) (rest := []) (c_X12_in0 l B s t a 5 ((a : Int32).toInt64) 5 rfl (by decide)) (zCB (nA := 3) C rfl rfl tw_810 tw_13 tw_808 (by decide +kernel) ⟨Nat.le_of_ble_eq_true rfl, Nat.le_of_ble_eq_true rfl⟩) tw_809 rfl rfl (Nat.le_of_ble_eq_true rfl) dX12_deputy_6 (Nat.zero_le _) ?_
  refine z_ifb_eq C 39 dX12_deputy_9 (by decide) (fun hbr => absurd hbr (by rw [g1]; decide)) (fun _ => ?_)
  refine z_iload_n C dX12_deputy_12 2 rfl rfl ?_
  refine f_callSr C hl (As := [.int b]) (rest := []) (c_X12_isBundle l B s t b) (zCB (nA := 1) C rfl rfl tw_826 tw_13 tw_824 (by decide +kernel) ⟨Nat.le_of_ble_eq_true rfl, Nat.le_of_ble_eq_true rfl⟩) tw_825 rfl rfl (Nat.le_of_ble_eq_true rfl) dX12_deputy_13 (Nat.zero_le _) ?_
  refine z_ifb_eq C 39 dX12_deputy_16 (by decide) (fun hbr => absurd hbr (by rw [g2]; decide)) (fun _ => ?_)
  refine z_iload_n C dX12_deputy_19 3 rfl rfl ?_
  refine f_callSr C hl (As := [.int c]) (rest := []) (c_X12_isBundle l B s t c) (zCB (nA := 1) C rfl rfl tw_826 tw_13 tw_824 (by decide +kernel) ⟨Nat.le_of_ble_eq_true rfl, Nat.le_of_ble_eq_true rfl⟩) tw_825 rfl rfl (Nat.le_of_ble_eq_true rfl) dX12_deputy_20 (Nat.zero_le _) ?_
  refine z_ifb_eq C 39 dX12_deputy_23 (by decide) (fun hbr => absurd hbr (by rw [g3]; decide)) (fun _ => ?_)
  refine z_iload C dX12_deputy_26 4 rfl ?_
  refine z_i2l C dX12_deputy_28 ?_
  refine z_lconst C dX12_deputy_29 kl_0 ?_
  refine z_ldc2 C dX12_deputy_30 tw_828 ?_
  refine f_callSr C hl (As := [.long ((d : Int32).toInt64), .long 0, .long 40]) (rest := []) (c_X12_in0 l B s t d 40 ((d : Int32).toInt64) 40 rfl (by decide)) (zCB (nA := 3) C rfl rfl tw_810 tw_13 tw_808 (by decide +kernel) ⟨Nat.le_of_ble_eq_true rfl, Nat.le_of_ble_eq_true rfl⟩) tw_809 rfl rfl (Nat.le_of_ble_eq_true rfl) dX12_deputy_33 (Nat.zero_le _) ?_
  refine z_ifb_ne C 46 dX12_deputy_36 (by decide) (fun _ => ?_) (fun hbr => Bool.noConfusion (show false = true from hbr.symm.trans g4))
  refine z_aload_n C dX12_deputy_46 0 rfl rfl ?_
  refine f_callVr C hl (As := []) (rest := []) (c_X12_many l B s t) zb_113 (zg_12 zk_113) rfl (zCB (nA := 0) C rfl rfl tw_818 tw_13 tw_815 (by decide +kernel) ⟨Nat.le_of_ble_eq_true rfl, Nat.le_of_ble_eq_true rfl⟩) tw_817 tp_27 rfl rfl (Nat.le_of_ble_eq_true rfl) dX12_deputy_47 (Nat.zero_le _) ?_
  refine f_topi (y := 6) hc ?_
  refine z_bipush C dX12_deputy_50 kb_6 ?_
  refine z_icmp_ne C 60 dX12_deputy_52 (by decide) (fun hbr => absurd (by decide) hbr) (fun _ => ?_)
  refine z_aload_n C dX12_deputy_55 0 rfl rfl ?_
  refine f_callVr C hl (As := []) (rest := []) (c_X12_full l B s t) zb_113 (zg_12 zk_113) rfl (zCB (nA := 0) C rfl rfl tw_832 tw_13 tw_829 (by decide +kernel) ⟨Nat.le_of_ble_eq_true rfl, Nat.le_of_ble_eq_true rfl⟩) tw_831 tp_28 rfl rfl (Nat.le_of_ble_eq_true rfl) dX12_deputy_56 (Nat.zero_le _) ?_
  refine z_iret C E rfl dX12_deputy_59 rfl (Nat.le_refl _) ⟨rfl, rfl⟩
set_option maxRecDepth 100000 in
set_option maxHeartbeats 4000000 in
theorem c_X12_deputy_ok (l : Launch) (B : zB) (s : zS) (t : zL) (a b c d : Int32) (g1 : wIn a 5 = true) (g2 : wIn b 255 = true) (g3 : wIn c 255 = true) (g4 : wIn d 40 = true) (n : Nat) (hn : n < 6) (hc : s 114 0 = nI n) : zD l B mX12_deputy s t [.ref (B.1 + 113), .int a, .int b, .int c, .int d] (some (.int (nI n))) (zu (wLay114 s n a b c d) 114 8 0) t := by
  refine z_met (by decide) (Nat.le_of_ble_eq_true rfl) ?_
  intro X hl C E hnm
  show Zf X B mX12_deputy s t 0 [(0, .ref (B.1 + 113)), (1, .int a), (2, .int b), (3, .int c), (4, .int d)] []
  refine z_iload_n C dX12_deputy_0 1 rfl rfl ?_
  refine z_i2l C dX12_deputy_1 ?_
  refine z_lconst C dX12_deputy_2 kl_0 ?_
  refine z_ldc2 C dX12_deputy_3 tw_823 ?_
  refine f_callSr C hl (As := [.long ((a : Int32).toInt64), .long 0, .long 5]) (rest := []) (c_X12_in0 l B s t a 5 ((a : Int32).toInt64) 5 rfl (by decide)) (zCB (nA := 3) C rfl rfl tw_810 tw_13 tw_808 (by decide +kernel) ⟨Nat.le_of_ble_eq_true rfl, Nat.le_of_ble_eq_true rfl⟩) tw_809 rfl rfl (Nat.le_of_ble_eq_true rfl) dX12_deputy_6 (Nat.zero_le _) ?_
  refine z_ifb_eq C 39 dX12_deputy_9 (by decide) (fun hbr => absurd hbr (by rw [g1]; decide)) (fun _ => ?_)
  refine z_iload_n C dX12_deputy_12 2 rfl rfl ?_
  refine f_callSr C hl (As := [.int b]) (rest := []) (c_X12_isBundle l B s t b) (zCB (nA := 1) C rfl rfl tw_826 tw_13 tw_824 (by decide +kernel) ⟨Nat.le_of_ble_eq_true rfl, Nat.le_of_ble_eq_true rfl⟩) tw_825 rfl rfl (Nat.le_of_ble_eq_true rfl) dX12_deputy_13 (Nat.zero_le _) ?_
  refine z_ifb_eq C 39 dX12_deputy_16 (by decide) (fun hbr => absurd hbr (by rw [g2]; decide)) (fun _ => ?_)
  refine z_iload_n C dX12_deputy_19 3 rfl rfl ?_
  refine f_callSr C hl (As := [.int c]) (rest := []) (c_X12_isBundle l B s t c) (zCB (nA := 1) C rfl rfl tw_826 tw_13 tw_824 (by decide +kernel) ⟨Nat.le_of_ble_eq_true rfl, Nat.le_of_ble_eq_true rfl⟩) tw_825 rfl rfl (Nat.le_of_ble_eq_true rfl) dX12_deputy_20 (Nat.zero_le _) ?_
  refine z_ifb_eq C 39 dX12_deputy_23 (by decide) (fun hbr => absurd hbr (by rw [g3]; decide)) (fun _ => ?_)
  refine z_iload C dX12_deputy_26 4 rfl ?_
  refine z_i2l C dX12_deputy_28 ?_
  refine z_lconst C dX12_deputy_29 kl_0 ?_
  refine z_ldc2 C dX12_deputy_30 tw_828 ?_
  refine f_callSr C hl (As := [.long ((d : Int32).toInt64), .long 0, .long 40]) (rest := []) (c_X12_in0 l B s t d 40 ((d : Int32).toInt64) 40 rfl (by decide)) (zCB (nA := 3) C rfl rfl tw_810 tw_13 tw_808 (by decide +kernel) ⟨Nat.le_of_ble_eq_true rfl, Nat.le_of_ble_eq_true rfl⟩) tw_809 rfl rfl (Nat.le_of_ble_eq_true rfl) dX12_deputy_33 (Nat.zero_le _) ?_
  refine z_ifb_ne C 46 dX12_deputy_36 (by decide) (fun _ => ?_) (fun hbr => Bool.noConfusion (show false = true from hbr.symm.trans g4))
  refine z_aload_n C dX12_deputy_46 0 rfl rfl ?_
  refine f_callVr C hl (As := []) (rest := []) (c_X12_many l B s t) zb_113 (zg_12 zk_113) rfl (zCB (nA := 0) C rfl rfl tw_818 tw_13 tw_815 (by decide +kernel) ⟨Nat.le_of_ble_eq_true rfl, Nat.le_of_ble_eq_true rfl⟩) tw_817 tp_27 rfl rfl (Nat.le_of_ble_eq_true rfl) dX12_deputy_47 (Nat.zero_le _) ?_
  refine f_topi (y := nI n) hc ?_
  refine z_bipush C dX12_deputy_50 kb_6 ?_
  refine z_icmp_ne C 60 dX12_deputy_52 (by decide) (fun _ => ?_) (fun hbr => absurd hbr (fun q => absurd ((nI_eq (by omega) (by decide)).mp (show nI n = nI 6 from q)) (by omega)))
  refine z_aload_n C dX12_deputy_60 0 rfl rfl ?_
  refine f_get12 C 0 (v := .ref (B.1 + 114)) (by decide) tw_744 rfl zk_113 zb_113 rfl dX12_deputy_61 ?_
  refine z_iload_n C dX12_deputy_64 1 rfl rfl ?_
  refine z_iload_n C dX12_deputy_65 2 rfl rfl ?_
  refine z_iload_n C dX12_deputy_66 3 rfl rfl ?_
  refine z_iload C dX12_deputy_67 4 rfl ?_
  refine f_callSv C hl (As := [.ref (B.1 + 114), .int a, .int b, .int c, .int d]) (rest := []) (c_X12_layDeputy114 l B s t n hn hc a b c d) (zCB (nA := 5) C rfl rfl tw_835 tw_13 tw_833 (by decide +kernel) ⟨Nat.le_of_ble_eq_true rfl, Nat.le_of_ble_eq_true rfl⟩) tw_834 rfl rfl (Nat.le_of_ble_eq_true rfl) dX12_deputy_69 (Nat.zero_le _) ?_
  refine z_aload_n C dX12_deputy_72 0 rfl rfl ?_
  refine f_get12 C 0 (v := .ref (B.1 + 114)) (by decide) tw_744 rfl zk_113 zb_113 rfl dX12_deputy_73 ?_
  refine z_bipush C dX12_deputy_76 kb_8 ?_
  refine z_iconst C dX12_deputy_78 ki_0 ?_
  refine f_iastL C zk_114 zb_114 (by unfold vp_in; decide) (j := 8) (by decide) dX12_deputy_79 ?_
  refine z_aload_n C dX12_deputy_80 0 rfl rfl ?_
  refine f_callVr C hl (As := []) (rest := []) (c_X12_many l B (zu (wLay114 s n a b c d) 114 8 0) t) zb_113 (zg_12 zk_113) rfl (zCB (nA := 0) C rfl rfl tw_818 tw_13 tw_815 (by decide +kernel) ⟨Nat.le_of_ble_eq_true rfl, Nat.le_of_ble_eq_true rfl⟩) tw_817 tp_27 rfl rfl (Nat.le_of_ble_eq_true rfl) dX12_deputy_81 (Nat.zero_le _) ?_
  refine f_topi (y := nI (n + 1)) (by rw [zu_ne _ _ (by decide), wLay114, zu_same]) ?_
  refine z_iconst C dX12_deputy_84 ki_1 ?_
  refine z_isub C dX12_deputy_85 ?_
  refine f_topi (y := nI n) (nI_pred n) ?_
  refine z_iret C E rfl dX12_deputy_86 rfl (Nat.le_refl _) ⟨rfl, rfl⟩
abbrev mX12_moves : zM := (yX12_moves, cX12_moves, 3, (some .int), { frames := 4, cells := 0, slots := 0, locals := 92 })
set_option maxRecDepth 100000 in
set_option maxHeartbeats 4000000 in
theorem c_X12_moves_bad (l : Launch) (B : zB) (s : zS) (t : zL) (b : Int32) (h : wIn b 255 = false ∨ b = 0) : zD l B mX12_moves s t [.ref (B.1 + 113), .int b] (some (.int (-2))) (zu s 117 0 (s 117 0 + 1)) t := by
  refine z_met (by decide) (Nat.le_of_ble_eq_true rfl) ?_
  intro X hl C E hnm
  show Zf X B mX12_moves s t 0 [(0, .ref (B.1 + 113)), (1, .int b)] []
  refine z_iload_n C dX12_moves_0 1 rfl rfl ?_
  refine f_callSr C hl (As := [.int b]) (rest := []) (c_X12_isBundle l B s t b) (zCB (nA := 1) C rfl rfl tw_826 tw_13 tw_824 (by decide +kernel) ⟨Nat.le_of_ble_eq_true rfl, Nat.le_of_ble_eq_true rfl⟩) tw_825 rfl rfl (Nat.le_of_ble_eq_true rfl) dX12_moves_1 (Nat.zero_le _) ?_
  refine z_ifb_eq C 11 dX12_moves_4 (by decide) (fun h4 => ?_) (fun h4 => ?_)
  · refine z_aload_n C dX12_moves_11 0 rfl rfl ?_
    refine z_bipush C dX12_moves_12 kb_m2 ?_
    refine f_callVr C hl (As := [.int (-2)]) (rest := []) (c_X12_bad l B s t (-2)) zb_113 (zg_12 zk_113) rfl (zCB (nA := 1) C rfl rfl tw_814 tw_13 tw_811 (by decide +kernel) ⟨Nat.le_of_ble_eq_true rfl, Nat.le_of_ble_eq_true rfl⟩) tw_813 tp_26 rfl rfl (Nat.le_of_ble_eq_true rfl) dX12_moves_14 (Nat.zero_le _) ?_
    refine z_iret C E rfl dX12_moves_17 rfl (Nat.le_refl _) ⟨rfl, rfl⟩
  · refine z_iload_n C dX12_moves_7 1 rfl rfl ?_
    refine z_if_ne C 18 dX12_moves_8 (by decide) (fun h8 => ?_) (fun h8 => ?_)
    · exact absurd h (fun q => q.elim (fun e => by rw [h4] at e; exact absurd e (by decide)) h8)
    · refine z_aload_n C dX12_moves_11 0 rfl rfl ?_
      refine z_bipush C dX12_moves_12 kb_m2 ?_
      refine f_callVr C hl (As := [.int (-2)]) (rest := []) (c_X12_bad l B s t (-2)) zb_113 (zg_12 zk_113) rfl (zCB (nA := 1) C rfl rfl tw_814 tw_13 tw_811 (by decide +kernel) ⟨Nat.le_of_ble_eq_true rfl, Nat.le_of_ble_eq_true rfl⟩) tw_813 tp_26 rfl rfl (Nat.le_of_ble_eq_true rfl) dX12_moves_14 (Nat.zero_le _) ?_
      refine z_iret C E rfl dX12_moves_17 rfl (Nat.le_refl _) ⟨rfl, rfl⟩
set_option maxRecDepth 100000 in
set_option maxHeartbeats 4000000 in
theorem c_X12_moves_no (l : Launch) (B : zB) (s : zS) (t : zL) (b : Int32) (g1 : wIn b 255 = true) (g2 : ¬ b = 0) (g3 : ¬ b &&& ((255 &&& ((s 114 1 ||| s 114 2) ^^^ (-1))) ^^^ (-1)) = 0) : zD l B mX12_moves s t [.ref (B.1 + 113), .int b] (some (.int (-3))) (zu s 117 1 (s 117 1 + 1)) t := by
  refine z_met (by decide) (Nat.le_of_ble_eq_true rfl) ?_
  intro X hl C E hnm
  show Zf X B mX12_moves s t 0 [(0, .ref (B.1 + 113)), (1, .int b)] []
  refine z_iload_n C dX12_moves_0 1 rfl rfl ?_
  refine f_callSr C hl (As := [.int b]) (rest := []) (c_X12_isBundle l B s t b) (zCB (nA := 1) C rfl rfl tw_826 tw_13 tw_824 (by decide +kernel) ⟨Nat.le_of_ble_eq_true rfl, Nat.le_of_ble_eq_true rfl⟩) tw_825 rfl rfl (Nat.le_of_ble_eq_true rfl) dX12_moves_1 (Nat.zero_le _) ?_
  refine z_ifb_eq C 11 dX12_moves_4 (by decide) (fun hbr => absurd hbr (by rw [g1]; decide)) (fun _ => ?_)
  refine z_iload_n C dX12_moves_7 1 rfl rfl ?_
  refine z_if_ne C 18 dX12_moves_8 (by decide) (fun _ => ?_) (fun hbr => absurd hbr g2)
  refine z_iload_n C dX12_moves_18 1 rfl rfl ?_
  refine z_aload_n C dX12_moves_19 0 rfl rfl ?_
  refine f_callVr C hl (As := []) (rest := [.int b]) (c_X12_free l B s t) zb_113 (zg_12 zk_113) rfl (zCB (nA := 0) C rfl rfl tw_843 tw_13 tw_840 (by decide +kernel) ⟨Nat.le_of_ble_eq_true rfl, Nat.le_of_ble_eq_true rfl⟩) tw_842 tp_29 rfl rfl (Nat.le_of_ble_eq_true rfl) dX12_moves_20 (Nat.zero_le _) ?_
  refine z_iconst C dX12_moves_23 ki_m1 ?_
  refine z_ixor C dX12_moves_24 ?_
  refine z_iand C dX12_moves_25 ?_
  refine z_if_eq C 34 dX12_moves_26 (by decide) (fun hbr => absurd hbr g3) (fun _ => ?_)
  refine z_aload_n C dX12_moves_29 0 rfl rfl ?_
  refine f_callVr C hl (As := []) (rest := []) (c_X12_no l B s t) zb_113 (zg_12 zk_113) rfl (zCB (nA := 0) C rfl rfl tw_847 tw_13 tw_844 (by decide +kernel) ⟨Nat.le_of_ble_eq_true rfl, Nat.le_of_ble_eq_true rfl⟩) tw_846 tp_30 rfl rfl (Nat.le_of_ble_eq_true rfl) dX12_moves_30 (Nat.zero_le _) ?_
  refine z_iret C E rfl dX12_moves_33 rfl (Nat.le_refl _) ⟨rfl, rfl⟩
def mMove (s : zS) (w b : Int32) : zS := if w = 0 then zu s 114 1 (s 114 1 ||| b) else wGoEnd s 0
set_option maxRecDepth 100000 in
set_option maxHeartbeats 4000000 in
theorem c_X12_moves_ok (l : Launch) (B : zB) (s : zS) (t : zL) (b : Int32) (g1 : wIn b 255 = true) (g2 : ¬ b = 0) (g3 : b &&& ((255 &&& ((s 114 1 ||| s 114 2) ^^^ (-1))) ^^^ (-1)) = 0) (N : Nat) (mo : mOk s N) (p : Nat) (hp : p ≤ 8) (hc : s 114 8 = nI p) : zD l B mX12_moves s t [.ref (B.1 + 113), .int b] (some (.int (mW s N b))) (mMove (wKeep (wHand s N) p) (mW s N b) b) t := by
  refine z_met (by decide) (Nat.le_of_ble_eq_true rfl) ?_
  intro X hl C E hnm
  show Zf X B mX12_moves s t 0 [(0, .ref (B.1 + 113)), (1, .int b)] []
  refine z_iload_n C dX12_moves_0 1 rfl rfl ?_
  refine f_callSr C hl (As := [.int b]) (rest := []) (c_X12_isBundle l B s t b) (zCB (nA := 1) C rfl rfl tw_826 tw_13 tw_824 (by decide +kernel) ⟨Nat.le_of_ble_eq_true rfl, Nat.le_of_ble_eq_true rfl⟩) tw_825 rfl rfl (Nat.le_of_ble_eq_true rfl) dX12_moves_1 (Nat.zero_le _) ?_
  refine z_ifb_eq C 11 dX12_moves_4 (by decide) (fun hbr => absurd hbr (by rw [g1]; decide)) (fun _ => ?_)
  refine z_iload_n C dX12_moves_7 1 rfl rfl ?_
  refine z_if_ne C 18 dX12_moves_8 (by decide) (fun _ => ?_) (fun hbr => absurd hbr g2)
  refine z_iload_n C dX12_moves_18 1 rfl rfl ?_
  refine z_aload_n C dX12_moves_19 0 rfl rfl ?_
  refine f_callVr C hl (As := []) (rest := [.int b]) (c_X12_free l B s t) zb_113 (zg_12 zk_113) rfl (zCB (nA := 0) C rfl rfl tw_843 tw_13 tw_840 (by decide +kernel) ⟨Nat.le_of_ble_eq_true rfl, Nat.le_of_ble_eq_true rfl⟩) tw_842 tp_29 rfl rfl (Nat.le_of_ble_eq_true rfl) dX12_moves_20 (Nat.zero_le _) ?_
  refine z_iconst C dX12_moves_23 ki_m1 ?_
  refine z_ixor C dX12_moves_24 ?_
  refine z_iand C dX12_moves_25 ?_
  refine z_if_eq C 34 dX12_moves_26 (by decide) (fun _ => ?_) (fun hbr => absurd g3 hbr)
  refine z_aload_n C dX12_moves_34 0 rfl rfl ?_
  refine f_callVv C hl (As := []) (rest := []) (c_X12_layHand l B s t N mo.1 mo.2.1) zb_113 (zg_12 zk_113) rfl (zCB (nA := 0) C rfl rfl tw_851 tw_13 tw_848 (by decide +kernel) ⟨Nat.le_of_ble_eq_true rfl, Nat.le_of_ble_eq_true rfl⟩) tw_850 tp_31 rfl rfl (Nat.le_of_ble_eq_true rfl) dX12_moves_35 (Nat.zero_le _) ?_
  refine z_aload_n C dX12_moves_38 0 rfl rfl ?_
  refine f_callVv C hl (As := []) (rest := []) (c_X12_keep l B (wHand s N) t p hp (by rw [wHand_114]; exact hc)) zb_113 (zg_12 zk_113) rfl (zCB (nA := 0) C rfl rfl tw_859 tw_13 tw_856 (by decide +kernel) ⟨Nat.le_of_ble_eq_true rfl, Nat.le_of_ble_eq_true rfl⟩) tw_858 tp_33 rfl rfl (Nat.le_of_ble_eq_true rfl) dX12_moves_39 (Nat.zero_le _) ?_
  refine z_aload_n C dX12_moves_42 0 rfl rfl ?_
  refine z_iload_n C dX12_moves_43 1 rfl rfl ?_
  refine f_callVr C hl (As := [.int b]) (rest := []) (c_X12_stopping l B (wKeep (wHand s N) p) t N (mK s) (mL s) (mH s) (mS s) (s 114 6) (hd_keep (hd_hand mo)) b (wIn_r8 g1)) zb_113 (zg_12 zk_113) rfl (zCB (nA := 1) C rfl rfl tw_863 tw_13 tw_860 (by decide +kernel) ⟨Nat.le_of_ble_eq_true rfl, Nat.le_of_ble_eq_true rfl⟩) tw_862 tp_34 rfl rfl (Nat.le_of_ble_eq_true rfl) dX12_moves_44 (Nat.zero_le _) ?_
  refine z_istore_n C [(2, .int (mW s N b)), (0, .ref (B.1 + 113)), (1, .int b)] dX12_moves_47 rfl (by decide) rfl ?_
  refine z_iload_n C dX12_moves_48 0 rfl rfl ?_
  refine z_if_eq C 60 dX12_moves_49 (by decide) (fun h49 => ?_) (fun h49 => ?_)
  · refine z_aload_n C dX12_moves_60 1 rfl rfl ?_
    refine f_get12 C 0 (v := .ref (B.1 + 114)) (by decide) tw_744 rfl zk_113 zb_113 rfl dX12_moves_61 ?_
    refine z_iconst C dX12_moves_64 ki_1 ?_
    refine z_dup2 C dX12_moves_65 rfl rfl ?_
    refine f_ialdL C zk_114 zb_114 (by unfold vp_in; decide) (j := 1) (by decide) dX12_moves_66 ?_
    refine z_iload_n C dX12_moves_67 2 rfl rfl ?_
    refine z_ior C dX12_moves_68 ?_
    refine f_iastL C zk_114 zb_114 (by unfold vp_in; decide) (j := 1) (by decide) dX12_moves_69 ?_
    refine z_iload_n C dX12_moves_70 0 rfl rfl ?_
    refine z_iret C E rfl dX12_moves_71 rfl (Nat.le_refl _) ⟨rfl, congrArg (fun z => zg B z t) (if_pos h49).symm⟩
  · refine z_aload_n C dX12_moves_52 1 rfl rfl ?_
    refine z_iconst C dX12_moves_53 ki_0 ?_
    refine f_callVv C hl (As := [.int 0]) (rest := []) (c_X12_goEnd l B (wKeep (wHand s N) p) t 0) zb_113 (zg_12 zk_113) rfl (zCB (nA := 1) C rfl rfl tw_881 tw_13 tw_878 (by decide +kernel) ⟨Nat.le_of_ble_eq_true rfl, Nat.le_of_ble_eq_true rfl⟩) tw_880 tp_37 rfl rfl (Nat.le_of_ble_eq_true rfl) dX12_moves_54 (Nat.zero_le _) ?_
    refine z_goto C 70 dX12_moves_57 (by decide) ?_
    refine z_iload_n C dX12_moves_70 0 rfl rfl ?_
    refine z_iret C E rfl dX12_moves_71 rfl (Nat.le_refl _) ⟨rfl, congrArg (fun z => zg B z t) (if_neg h49).symm⟩
abbrev mX12_end : zM := (yX12_end, cX12_end, 1, (some .int), { frames := 1, cells := 0, slots := 0, locals := 21 })
set_option maxRecDepth 100000 in
set_option maxHeartbeats 4000000 in
theorem c_X12_end (l : Launch) (B : zB) (s : zS) (t : zL) (p : Nat) (hp : p ≤ 8) (hc : s 114 8 = nI p) : zD l B mX12_end s t [.ref (B.1 + 113)] (some (.int (wGoEnd (wKeep s p) (wKeep s p 114 1) 114 2))) (wGoEnd (wKeep s p) (wKeep s p 114 1)) t := by
  refine z_met (by decide) (Nat.le_of_ble_eq_true rfl) ?_
  intro X hl C E hnm
  show Zf X B mX12_end s t 0 [(0, .ref (B.1 + 113))] []
  refine z_aload_n C dX12_end_0 0 rfl rfl ?_
  refine f_callVv C hl (As := []) (rest := []) (c_X12_keep l B s t p hp hc) zb_113 (zg_12 zk_113) rfl (zCB (nA := 0) C rfl rfl tw_859 tw_13 tw_856 (by decide +kernel) ⟨Nat.le_of_ble_eq_true rfl, Nat.le_of_ble_eq_true rfl⟩) tw_858 tp_33 rfl rfl (Nat.le_of_ble_eq_true rfl) dX12_end_1 (Nat.zero_le _) ?_
  refine z_aload_n C dX12_end_4 0 rfl rfl ?_
  refine z_aload_n C dX12_end_5 0 rfl rfl ?_
  refine f_get12 C 0 (v := .ref (B.1 + 114)) (by decide) tw_744 rfl zk_113 zb_113 rfl dX12_end_6 ?_
  refine z_iconst C dX12_end_9 ki_1 ?_
  refine f_ialdL C zk_114 zb_114 (by unfold vp_in; decide) (j := 1) (by decide) dX12_end_10 ?_
  refine f_callVv C hl (As := [.int ((wKeep s p) 114 1)]) (rest := []) (c_X12_goEnd l B (wKeep s p) t ((wKeep s p) 114 1)) zb_113 (zg_12 zk_113) rfl (zCB (nA := 1) C rfl rfl tw_881 tw_13 tw_878 (by decide +kernel) ⟨Nat.le_of_ble_eq_true rfl, Nat.le_of_ble_eq_true rfl⟩) tw_880 tp_37 rfl rfl (Nat.le_of_ble_eq_true rfl) dX12_end_11 (Nat.zero_le _) ?_
  refine z_aload_n C dX12_end_14 0 rfl rfl ?_
  refine f_get12 C 0 (v := .ref (B.1 + 114)) (by decide) tw_744 rfl zk_113 zb_113 rfl dX12_end_15 ?_
  refine z_iconst C dX12_end_18 ki_2 ?_
  refine f_ialdL C zk_114 zb_114 (by unfold vp_in; decide) (j := 2) (by decide) dX12_end_19 ?_
  refine z_iret C E rfl dX12_end_20 rfl (Nat.le_refl _) ⟨rfl, rfl⟩
abbrev mX12_buy : zM := (yX12_buy, cX12_buy, 2, (some .int), { frames := 2, cells := 0, slots := 0, locals := 46 })
set_option maxRecDepth 100000 in
set_option maxHeartbeats 4000000 in
theorem c_X12_buy_bad (l : Launch) (B : zB) (s : zS) (t : zL) (x : Int32) (g : wIn x (s 114 0 - 1) = false) : zD l B mX12_buy s t [.ref (B.1 + 113), .int x] (some (.int (-2))) (zu s 117 0 (s 117 0 + 1)) t := by
  refine z_met (by decide) (Nat.le_of_ble_eq_true rfl) ?_
  intro X hl C E hnm
  show Zf X B mX12_buy s t 0 [(0, .ref (B.1 + 113)), (1, .int x)] []
  refine z_aload_n C dX12_buy_0 0 rfl rfl ?_
  refine z_iload_n C dX12_buy_1 1 rfl rfl ?_
  refine f_callVr C hl (As := [.int x]) (rest := []) (c_X12_isDeputy l B s t x) zb_113 (zg_12 zk_113) rfl (zCB (nA := 1) C rfl rfl tw_893 tw_13 tw_890 (by decide +kernel) ⟨Nat.le_of_ble_eq_true rfl, Nat.le_of_ble_eq_true rfl⟩) tw_892 tp_38 rfl rfl (Nat.le_of_ble_eq_true rfl) dX12_buy_2 (Nat.zero_le _) ?_
  refine z_ifb_ne C 15 dX12_buy_5 (by decide) (fun hbr => absurd hbr (by rw [g]; decide)) (fun _ => ?_)
  refine z_aload_n C dX12_buy_8 0 rfl rfl ?_
  refine z_bipush C dX12_buy_9 kb_m2 ?_
  refine f_callVr C hl (As := [.int (-2)]) (rest := []) (c_X12_bad l B s t (-2)) zb_113 (zg_12 zk_113) rfl (zCB (nA := 1) C rfl rfl tw_814 tw_13 tw_811 (by decide +kernel) ⟨Nat.le_of_ble_eq_true rfl, Nat.le_of_ble_eq_true rfl⟩) tw_813 tp_26 rfl rfl (Nat.le_of_ble_eq_true rfl) dX12_buy_11 (Nat.zero_le _) ?_
  refine z_iret C E rfl dX12_buy_14 rfl (Nat.le_refl _) ⟨rfl, rfl⟩
set_option maxRecDepth 100000 in
set_option maxHeartbeats 4000000 in
theorem c_X12_buy_no (l : Launch) (B : zB) (s : zS) (t : zL) (x : Int32) (g : wIn x (s 114 0 - 1) = true) (g2 : wHas (s 114 3) x = true) : zD l B mX12_buy s t [.ref (B.1 + 113), .int x] (some (.int (-3))) (zu s 117 1 (s 117 1 + 1)) t := by
  refine z_met (by decide) (Nat.le_of_ble_eq_true rfl) ?_
  intro X hl C E hnm
  show Zf X B mX12_buy s t 0 [(0, .ref (B.1 + 113)), (1, .int x)] []
  refine z_aload_n C dX12_buy_0 0 rfl rfl ?_
  refine z_iload_n C dX12_buy_1 1 rfl rfl ?_
  refine f_callVr C hl (As := [.int x]) (rest := []) (c_X12_isDeputy l B s t x) zb_113 (zg_12 zk_113) rfl (zCB (nA := 1) C rfl rfl tw_893 tw_13 tw_890 (by decide +kernel) ⟨Nat.le_of_ble_eq_true rfl, Nat.le_of_ble_eq_true rfl⟩) tw_892 tp_38 rfl rfl (Nat.le_of_ble_eq_true rfl) dX12_buy_2 (Nat.zero_le _) ?_
  refine z_ifb_ne C 15 dX12_buy_5 (by decide) (fun _ => ?_) (fun hbr => Bool.noConfusion (show false = true from hbr.symm.trans g))
  refine z_aload_n C dX12_buy_15 0 rfl rfl ?_
  refine f_get12 C 0 (v := .ref (B.1 + 114)) (by decide) tw_744 rfl zk_113 zb_113 rfl dX12_buy_16 ?_
  refine z_iconst C dX12_buy_19 ki_3 ?_
  refine f_ialdL C zk_114 zb_114 (by unfold vp_in; decide) (j := 3) (by decide) dX12_buy_20 ?_
  refine z_iload_n C dX12_buy_21 1 rfl rfl ?_
  refine f_callSr C hl (As := [.int (s 114 3), .int x]) (rest := []) (c_X12_has l B s t (s 114 3) x) (zCB (nA := 2) C rfl rfl tw_866 tw_13 tw_864 (by decide +kernel) ⟨Nat.le_of_ble_eq_true rfl, Nat.le_of_ble_eq_true rfl⟩) tw_865 rfl rfl (Nat.le_of_ble_eq_true rfl) dX12_buy_22 (Nat.zero_le _) ?_
  refine z_ifb_eq C 33 dX12_buy_25 (by decide) (fun hbr => absurd hbr (by rw [g2]; decide)) (fun _ => ?_)
  refine z_aload_n C dX12_buy_28 0 rfl rfl ?_
  refine f_callVr C hl (As := []) (rest := []) (c_X12_no l B s t) zb_113 (zg_12 zk_113) rfl (zCB (nA := 0) C rfl rfl tw_847 tw_13 tw_844 (by decide +kernel) ⟨Nat.le_of_ble_eq_true rfl, Nat.le_of_ble_eq_true rfl⟩) tw_846 tp_30 rfl rfl (Nat.le_of_ble_eq_true rfl) dX12_buy_29 (Nat.zero_le _) ?_
  refine z_iret C E rfl dX12_buy_32 rfl (Nat.le_refl _) ⟨rfl, rfl⟩
set_option maxRecDepth 100000 in
set_option maxHeartbeats 4000000 in
theorem c_X12_buy_ok (l : Launch) (B : zB) (s : zS) (t : zL) (N : Nat) (mo : mOk s N) (p : Nat) (hp : p ≤ 8) (hc : s 114 8 = nI p) (d : Nat) (hd0 : d < N) (g : wIn (nI d) (s 114 0 - 1) = true) (g2 : wHas (s 114 3) (nI d) = false) : zD l B mX12_buy s t [.ref (B.1 + 113), .int (nI d)] (some (.int (wCost (mK s d) (mP s d)))) (zu (zu (wKeep (wHand s N) p) 114 3 ((wKeep (wHand s N) p) 114 3 ||| ((1 : Int32) <<< (nI d &&& 31)))) 114 5 ((zu (wKeep (wHand s N) p) 114 3 ((wKeep (wHand s N) p) 114 3 ||| ((1 : Int32) <<< (nI d &&& 31)))) 114 5 + (wCost (mK s d) (mP s d)))) t := by
  have h6 := mo.2.1
  refine z_met (by decide) (Nat.le_of_ble_eq_true rfl) ?_
  intro X hl C E hnm
  show Zf X B mX12_buy s t 0 [(0, .ref (B.1 + 113)), (1, .int (nI d))] []
  refine z_aload_n C dX12_buy_0 0 rfl rfl ?_
  refine z_iload_n C dX12_buy_1 1 rfl rfl ?_
  refine f_callVr C hl (As := [.int (nI d)]) (rest := []) (c_X12_isDeputy l B s t (nI d)) zb_113 (zg_12 zk_113) rfl (zCB (nA := 1) C rfl rfl tw_893 tw_13 tw_890 (by decide +kernel) ⟨Nat.le_of_ble_eq_true rfl, Nat.le_of_ble_eq_true rfl⟩) tw_892 tp_38 rfl rfl (Nat.le_of_ble_eq_true rfl) dX12_buy_2 (Nat.zero_le _) ?_
  refine z_ifb_ne C 15 dX12_buy_5 (by decide) (fun _ => ?_) (fun hbr => Bool.noConfusion (show false = true from hbr.symm.trans g))
  refine z_aload_n C dX12_buy_15 0 rfl rfl ?_
  refine f_get12 C 0 (v := .ref (B.1 + 114)) (by decide) tw_744 rfl zk_113 zb_113 rfl dX12_buy_16 ?_
  refine z_iconst C dX12_buy_19 ki_3 ?_
  refine f_ialdL C zk_114 zb_114 (by unfold vp_in; decide) (j := 3) (by decide) dX12_buy_20 ?_
  refine z_iload_n C dX12_buy_21 1 rfl rfl ?_
  refine f_callSr C hl (As := [.int (s 114 3), .int (nI d)]) (rest := []) (c_X12_has l B s t (s 114 3) (nI d)) (zCB (nA := 2) C rfl rfl tw_866 tw_13 tw_864 (by decide +kernel) ⟨Nat.le_of_ble_eq_true rfl, Nat.le_of_ble_eq_true rfl⟩) tw_865 rfl rfl (Nat.le_of_ble_eq_true rfl) dX12_buy_22 (Nat.zero_le _) ?_
  refine z_ifb_eq C 33 dX12_buy_25 (by decide) (fun _ => ?_) (fun hbr => Bool.noConfusion (show true = false from hbr.symm.trans g2))
  refine z_aload_n C dX12_buy_33 0 rfl rfl ?_
  refine f_callVv C hl (As := []) (rest := []) (c_X12_layHand l B s t N mo.1 mo.2.1) zb_113 (zg_12 zk_113) rfl (zCB (nA := 0) C rfl rfl tw_851 tw_13 tw_848 (by decide +kernel) ⟨Nat.le_of_ble_eq_true rfl, Nat.le_of_ble_eq_true rfl⟩) tw_850 tp_31 rfl rfl (Nat.le_of_ble_eq_true rfl) dX12_buy_34 (Nat.zero_le _) ?_
  refine z_aload_n C dX12_buy_37 0 rfl rfl ?_
  refine f_callVv C hl (As := []) (rest := []) (c_X12_keep l B (wHand s N) t p hp (by rw [wHand_114]; exact hc)) zb_113 (zg_12 zk_113) rfl (zCB (nA := 0) C rfl rfl tw_859 tw_13 tw_856 (by decide +kernel) ⟨Nat.le_of_ble_eq_true rfl, Nat.le_of_ble_eq_true rfl⟩) tw_858 tp_33 rfl rfl (Nat.le_of_ble_eq_true rfl) dX12_buy_38 (Nat.zero_le _) ?_
  refine z_aload_n C dX12_buy_41 0 rfl rfl ?_
  refine f_get12 C 0 (v := .ref (B.1 + 114)) (by decide) tw_744 rfl zk_113 zb_113 rfl dX12_buy_42 ?_
  refine z_iconst C dX12_buy_45 ki_3 ?_
  refine z_dup2 C dX12_buy_46 rfl rfl ?_
  refine f_ialdL C zk_114 zb_114 (by unfold vp_in; decide) (j := 3) (by decide) dX12_buy_47 ?_
  refine z_iconst C dX12_buy_48 ki_1 ?_
  refine z_iload_n C dX12_buy_49 1 rfl rfl ?_
  refine z_ishl C dX12_buy_50 ?_
  refine z_ior C dX12_buy_51 ?_
  refine f_iastL C zk_114 zb_114 (by unfold vp_in; decide) (j := 3) (by decide) dX12_buy_52 ?_
  refine z_aload_n C dX12_buy_53 0 rfl rfl ?_
  refine f_get12 C 0 (v := .ref (B.1 + 114)) (by decide) tw_744 rfl zk_113 zb_113 rfl dX12_buy_54 ?_
  refine z_iconst C dX12_buy_57 ki_5 ?_
  refine z_dup2 C dX12_buy_58 rfl rfl ?_
  refine f_ialdL C zk_114 zb_114 (by unfold vp_in; decide) (j := 5) (by decide) dX12_buy_59 ?_
  refine z_aload_n C dX12_buy_60 0 rfl rfl ?_
  refine z_iload_n C dX12_buy_61 1 rfl rfl ?_
  refine f_callVr C hl (As := [.int (nI d)]) (rest := [.int ((zu (wKeep (wHand s N) p) 114 3 (((wKeep (wHand s N) p) 114 3) ||| (1 <<< ((nI d) &&& 31)))) 114 5), .int 5, .ref (B.1 + 114)]) (c_X12_costOf l B (zu (wKeep (wHand s N) p) 114 3 (((wKeep (wHand s N) p) 114 3) ||| (1 <<< ((nI d) &&& 31)))) t d (by have := mo.2.1; omega) (mK s d) (mP s d) (by rw [zu_row _ _ (by decide), wKeep_row _ (by decide)]; exact ((hd_hand mo).2.2.1 d hd0).1) (by rw [zu_ne _ _ (by omega), wKeep_lo _ (by omega) (by omega), wHand_114]; rfl)) zb_113 (zg_12 zk_113) rfl (zCB (nA := 1) C rfl rfl tw_897 tw_13 tw_894 (by decide +kernel) ⟨Nat.le_of_ble_eq_true rfl, Nat.le_of_ble_eq_true rfl⟩) tw_896 tp_39 rfl rfl (Nat.le_of_ble_eq_true rfl) dX12_buy_62 (Nat.zero_le _) ?_
  refine z_iadd C dX12_buy_65 ?_
  refine f_iastL C zk_114 zb_114 (by unfold vp_in; decide) (j := 5) (by decide) dX12_buy_66 ?_
  refine z_aload_n C dX12_buy_67 0 rfl rfl ?_
  refine z_iload_n C dX12_buy_68 1 rfl rfl ?_
  refine f_callVr C hl (As := [.int (nI d)]) (rest := []) (c_X12_costOf l B (zu (zu (wKeep (wHand s N) p) 114 3 (((wKeep (wHand s N) p) 114 3) ||| (1 <<< ((nI d) &&& 31)))) 114 5 (((zu (wKeep (wHand s N) p) 114 3 (((wKeep (wHand s N) p) 114 3) ||| (1 <<< ((nI d) &&& 31)))) 114 5) + (wCost (mK s d) (mP s d)))) t d (by have := mo.2.1; omega) (mK s d) (mP s d) (by rw [zu_row _ _ (by decide), zu_row _ _ (by decide), wKeep_row _ (by decide)]; exact ((hd_hand mo).2.2.1 d hd0).1) (by rw [zu_ne _ _ (by omega), zu_ne _ _ (by omega), wKeep_lo _ (by omega) (by omega), wHand_114]; rfl)) zb_113 (zg_12 zk_113) rfl (zCB (nA := 1) C rfl rfl tw_897 tw_13 tw_894 (by decide +kernel) ⟨Nat.le_of_ble_eq_true rfl, Nat.le_of_ble_eq_true rfl⟩) tw_896 tp_39 rfl rfl (Nat.le_of_ble_eq_true rfl) dX12_buy_69 (Nat.zero_le _) ?_
  refine z_iret C E rfl dX12_buy_72 rfl (Nat.le_refl _) ⟨rfl, rfl⟩
abbrev mX12_lock : zM := (yX12_lock, cX12_lock, 2, (some .int), { frames := 2, cells := 0, slots := 0, locals := 46 })
set_option maxRecDepth 100000 in
set_option maxHeartbeats 4000000 in
theorem c_X12_lock_bad (l : Launch) (B : zB) (s : zS) (t : zL) (x : Int32) (g : wIn x (s 114 0 - 1) = false) : zD l B mX12_lock s t [.ref (B.1 + 113), .int x] (some (.int (-2))) (zu s 117 0 (s 117 0 + 1)) t := by
  refine z_met (by decide) (Nat.le_of_ble_eq_true rfl) ?_
  intro X hl C E hnm
  show Zf X B mX12_lock s t 0 [(0, .ref (B.1 + 113)), (1, .int x)] []
  refine z_aload_n C dX12_lock_0 0 rfl rfl ?_
  refine z_iload_n C dX12_lock_1 1 rfl rfl ?_
  refine f_callVr C hl (As := [.int x]) (rest := []) (c_X12_isDeputy l B s t x) zb_113 (zg_12 zk_113) rfl (zCB (nA := 1) C rfl rfl tw_893 tw_13 tw_890 (by decide +kernel) ⟨Nat.le_of_ble_eq_true rfl, Nat.le_of_ble_eq_true rfl⟩) tw_892 tp_38 rfl rfl (Nat.le_of_ble_eq_true rfl) dX12_lock_2 (Nat.zero_le _) ?_
  refine z_ifb_ne C 15 dX12_lock_5 (by decide) (fun hbr => absurd hbr (by rw [g]; decide)) (fun _ => ?_)
  refine z_aload_n C dX12_lock_8 0 rfl rfl ?_
  refine z_bipush C dX12_lock_9 kb_m2 ?_
  refine f_callVr C hl (As := [.int (-2)]) (rest := []) (c_X12_bad l B s t (-2)) zb_113 (zg_12 zk_113) rfl (zCB (nA := 1) C rfl rfl tw_814 tw_13 tw_811 (by decide +kernel) ⟨Nat.le_of_ble_eq_true rfl, Nat.le_of_ble_eq_true rfl⟩) tw_813 tp_26 rfl rfl (Nat.le_of_ble_eq_true rfl) dX12_lock_11 (Nat.zero_le _) ?_
  refine z_iret C E rfl dX12_lock_14 rfl (Nat.le_refl _) ⟨rfl, rfl⟩
set_option maxRecDepth 100000 in
set_option maxHeartbeats 4000000 in
theorem c_X12_lock_no (l : Launch) (B : zB) (s : zS) (t : zL) (x : Int32) (g : wIn x (s 114 0 - 1) = true) (g2 : ¬ s 114 4 = 0) : zD l B mX12_lock s t [.ref (B.1 + 113), .int x] (some (.int (-3))) (zu s 117 1 (s 117 1 + 1)) t := by
  refine z_met (by decide) (Nat.le_of_ble_eq_true rfl) ?_
  intro X hl C E hnm
  show Zf X B mX12_lock s t 0 [(0, .ref (B.1 + 113)), (1, .int x)] []
  refine z_aload_n C dX12_lock_0 0 rfl rfl ?_
  refine z_iload_n C dX12_lock_1 1 rfl rfl ?_
  refine f_callVr C hl (As := [.int x]) (rest := []) (c_X12_isDeputy l B s t x) zb_113 (zg_12 zk_113) rfl (zCB (nA := 1) C rfl rfl tw_893 tw_13 tw_890 (by decide +kernel) ⟨Nat.le_of_ble_eq_true rfl, Nat.le_of_ble_eq_true rfl⟩) tw_892 tp_38 rfl rfl (Nat.le_of_ble_eq_true rfl) dX12_lock_2 (Nat.zero_le _) ?_
  refine z_ifb_ne C 15 dX12_lock_5 (by decide) (fun _ => ?_) (fun hbr => Bool.noConfusion (show false = true from hbr.symm.trans g))
  refine z_aload_n C dX12_lock_15 0 rfl rfl ?_
  refine f_get12 C 0 (v := .ref (B.1 + 114)) (by decide) tw_744 rfl zk_113 zb_113 rfl dX12_lock_16 ?_
  refine z_iconst C dX12_lock_19 ki_4 ?_
  refine f_ialdL C zk_114 zb_114 (by unfold vp_in; decide) (j := 4) (by decide) dX12_lock_20 ?_
  refine z_if_eq C 29 dX12_lock_21 (by decide) (fun hbr => absurd hbr g2) (fun _ => ?_)
  refine z_aload_n C dX12_lock_24 0 rfl rfl ?_
  refine f_callVr C hl (As := []) (rest := []) (c_X12_no l B s t) zb_113 (zg_12 zk_113) rfl (zCB (nA := 0) C rfl rfl tw_847 tw_13 tw_844 (by decide +kernel) ⟨Nat.le_of_ble_eq_true rfl, Nat.le_of_ble_eq_true rfl⟩) tw_846 tp_30 rfl rfl (Nat.le_of_ble_eq_true rfl) dX12_lock_25 (Nat.zero_le _) ?_
  refine z_iret C E rfl dX12_lock_28 rfl (Nat.le_refl _) ⟨rfl, rfl⟩
set_option maxRecDepth 100000 in
set_option maxHeartbeats 4000000 in
theorem c_X12_lock_ok (l : Launch) (B : zB) (s : zS) (t : zL) (p : Nat) (hp : p ≤ 8) (hc : s 114 8 = nI p) (x : Int32) (g : wIn x (s 114 0 - 1) = true) (g2 : s 114 4 = 0) : zD l B mX12_lock s t [.ref (B.1 + 113), .int x] (some (.int 1)) (zu (wKeep s p) 114 4 ((1 : Int32) <<< (x &&& 31))) t := by
  refine z_met (by decide) (Nat.le_of_ble_eq_true rfl) ?_
  intro X hl C E hnm
  show Zf X B mX12_lock s t 0 [(0, .ref (B.1 + 113)), (1, .int x)] []
  refine z_aload_n C dX12_lock_0 0 rfl rfl ?_
  refine z_iload_n C dX12_lock_1 1 rfl rfl ?_
  refine f_callVr C hl (As := [.int x]) (rest := []) (c_X12_isDeputy l B s t x) zb_113 (zg_12 zk_113) rfl (zCB (nA := 1) C rfl rfl tw_893 tw_13 tw_890 (by decide +kernel) ⟨Nat.le_of_ble_eq_true rfl, Nat.le_of_ble_eq_true rfl⟩) tw_892 tp_38 rfl rfl (Nat.le_of_ble_eq_true rfl) dX12_lock_2 (Nat.zero_le _) ?_
  refine z_ifb_ne C 15 dX12_lock_5 (by decide) (fun _ => ?_) (fun hbr => Bool.noConfusion (show false = true from hbr.symm.trans g))
  refine z_aload_n C dX12_lock_15 0 rfl rfl ?_
  refine f_get12 C 0 (v := .ref (B.1 + 114)) (by decide) tw_744 rfl zk_113 zb_113 rfl dX12_lock_16 ?_
  refine z_iconst C dX12_lock_19 ki_4 ?_
  refine f_ialdL C zk_114 zb_114 (by unfold vp_in; decide) (j := 4) (by decide) dX12_lock_20 ?_
  refine z_if_eq C 29 dX12_lock_21 (by decide) (fun _ => ?_) (fun hbr => absurd g2 hbr)
  refine z_aload_n C dX12_lock_29 0 rfl rfl ?_
  refine f_callVv C hl (As := []) (rest := []) (c_X12_keep l B s t p hp hc) zb_113 (zg_12 zk_113) rfl (zCB (nA := 0) C rfl rfl tw_859 tw_13 tw_856 (by decide +kernel) ⟨Nat.le_of_ble_eq_true rfl, Nat.le_of_ble_eq_true rfl⟩) tw_858 tp_33 rfl rfl (Nat.le_of_ble_eq_true rfl) dX12_lock_30 (Nat.zero_le _) ?_
  refine z_aload_n C dX12_lock_33 0 rfl rfl ?_
  refine f_get12 C 0 (v := .ref (B.1 + 114)) (by decide) tw_744 rfl zk_113 zb_113 rfl dX12_lock_34 ?_
  refine z_iconst C dX12_lock_37 ki_4 ?_
  refine z_iconst C dX12_lock_38 ki_1 ?_
  refine z_iload_n C dX12_lock_39 1 rfl rfl ?_
  refine z_ishl C dX12_lock_40 ?_
  refine f_iastL C zk_114 zb_114 (by unfold vp_in; decide) (j := 4) (by decide) dX12_lock_41 ?_
  refine z_iconst C dX12_lock_42 ki_1 ?_
  refine z_iret C E rfl dX12_lock_43 rfl (Nat.le_refl _) ⟨rfl, rfl⟩
abbrev mX12_undo : zM := (yX12_undo, cX12_undo, 2, (some .int), { frames := 1, cells := 0, slots := 0, locals := 20 })
set_option maxRecDepth 100000 in
set_option maxHeartbeats 4000000 in
theorem c_X12_undo_no (l : Launch) (B : zB) (s : zS) (t : zL) (hc : s 114 8 = 0) : zD l B mX12_undo s t [.ref (B.1 + 113)] (some (.int (-3))) (zu s 117 1 (s 117 1 + 1)) t := by
  refine z_met (by decide) (Nat.le_of_ble_eq_true rfl) ?_
  intro X hl C E hnm
  show Zf X B mX12_undo s t 0 [(0, .ref (B.1 + 113))] []
  refine z_aload_n C dX12_undo_0 0 rfl rfl ?_
  refine f_get12 C 0 (v := .ref (B.1 + 114)) (by decide) tw_744 rfl zk_113 zb_113 rfl dX12_undo_1 ?_
  refine z_bipush C dX12_undo_4 kb_8 ?_
  refine f_ialdL C zk_114 zb_114 (by unfold vp_in; decide) (j := 8) (by decide) dX12_undo_6 ?_
  refine f_topi (y := 0) hc ?_
  refine z_if_ne C 15 dX12_undo_7 (by decide) (fun hbr => absurd (by decide) hbr) (fun _ => ?_)
  refine z_aload_n C dX12_undo_10 0 rfl rfl ?_
  refine f_callVr C hl (As := []) (rest := []) (c_X12_no l B s t) zb_113 (zg_12 zk_113) rfl (zCB (nA := 0) C rfl rfl tw_847 tw_13 tw_844 (by decide +kernel) ⟨Nat.le_of_ble_eq_true rfl, Nat.le_of_ble_eq_true rfl⟩) tw_846 tp_30 rfl rfl (Nat.le_of_ble_eq_true rfl) dX12_undo_11 (Nat.zero_le _) ?_
  refine z_iret C E rfl dX12_undo_14 rfl (Nat.le_refl _) ⟨rfl, rfl⟩
def wUn (s : zS) (u i : Nat) : zS := fun k j => if k = 114 ∧ 1 ≤ j ∧ j < 1 + i then s 114 (57 + 6 * u + (j - 1)) else s k j
theorem wUn_0 (s : zS) (u : Nat) : wUn s u 0 = s := by
  funext k j
  simp only [wUn]
  rw [if_neg (by omega)]
theorem wUn_hi (s : zS) (u i : Nat) {j : Nat} (hi : i ≤ 6) (h : 7 ≤ j) : wUn s u i 114 j = s 114 j := by simp only [wUn]; rw [if_neg (by omega)]
theorem wUn_s (s : zS) (u i : Nat) (hi : i < 6) : zu (wUn s u i) 114 (1 + i) (wUn s u i 114 (57 + 6 * u + i)) = wUn s u (i + 1) := by
  funext k j
  rw [wUn_hi s u i (by omega) (by omega)]
  simp only [zu, wUn]
  by_cases h : k = 114 ∧ j = 1 + i
  · rw [if_pos h, if_pos (by omega), h.2, show 1 + i - 1 = i by omega]
  · rw [if_neg h]
    by_cases h2 : k = 114 ∧ 1 ≤ j ∧ j < 1 + i
    · rw [if_pos h2, if_pos (by omega)]
    · rw [if_neg h2, if_neg (by omega)]
set_option maxRecDepth 100000 in
set_option maxHeartbeats 4000000 in
theorem l_X12_undo {l : Launch} {B : zB} {s : zS} {t : zL} {X : zX} (hl : X.2.1 = l) (C : zC X B mX12_undo) (u : Nat) (hu8 : u < 8) (hu : s 114 8 = nI u) (E : zE X B mX12_undo 124 0 0 (zR B (some (.int (wUn s u 6 114 6))) (wUn s u 6) t)) : ∀ (m : Nat) (i : Nat), i + m = 6 → Zf X B mX12_undo (wUn s u i) t 28 [(1, .int (nI i)), (0, .ref (B.1 + 113))] [] := by
  intro m
  induction m with
  | zero =>
    intro i hi
    obtain rfl : i = 6 := by omega
    refine z_iload_n C dX12_undo_28 0 rfl rfl ?_
    refine z_bipush C dX12_undo_29 kb_6 ?_
    refine z_icmp_ge C 68 dX12_undo_31 (by decide) (fun _ => ?_) (fun hbr => absurd (by decide) hbr)
    refine z_aload_n C dX12_undo_68 1 rfl rfl ?_
    refine f_get12 C 0 (v := .ref (B.1 + 114)) (by decide) tw_744 rfl zk_113 zb_113 rfl dX12_undo_69 ?_
    refine z_bipush C dX12_undo_72 kb_6 ?_
    refine f_ialdL C zk_114 zb_114 (by unfold vp_in; decide) (j := 6) (by decide) dX12_undo_74 ?_
    refine z_iret C E rfl dX12_undo_75 rfl (Nat.le_refl _) ⟨rfl, rfl⟩
  | succ m ih =>
    intro i hi0
    have hi : i < 6 := by omega
    refine z_iload_n C dX12_undo_28 0 rfl rfl ?_
    refine z_bipush C dX12_undo_29 kb_6 ?_
    refine z_icmp_ge C 68 dX12_undo_31 (by decide) (fun hbr => absurd hbr (show ¬ nI 6 ≤ nI i from nI_ge hi (by decide))) (fun _ => ?_)
    refine z_aload_n C dX12_undo_34 1 rfl rfl ?_
    refine f_get12 C 0 (v := .ref (B.1 + 114)) (by decide) tw_744 rfl zk_113 zb_113 rfl dX12_undo_35 ?_
    refine z_iconst C dX12_undo_38 ki_1 ?_
    refine z_iload_n C dX12_undo_39 0 rfl rfl ?_
    refine z_iadd C dX12_undo_40 ?_
    refine z_aload_n C dX12_undo_41 1 rfl rfl ?_
    refine f_get12 C 0 (v := .ref (B.1 + 114)) (by decide) tw_744 rfl zk_113 zb_113 rfl dX12_undo_42 ?_
    refine z_bipush C dX12_undo_45 kb_57 ?_
    refine z_bipush C dX12_undo_47 kb_6 ?_
    refine z_aload_n C dX12_undo_49 1 rfl rfl ?_
    refine f_get12 C 0 (v := .ref (B.1 + 114)) (by decide) tw_744 rfl zk_113 zb_113 rfl dX12_undo_50 ?_
    refine z_bipush C dX12_undo_53 kb_8 ?_
    refine f_ialdL C zk_114 zb_114 (by unfold vp_in; decide) (j := 8) (by decide) dX12_undo_55 ?_
    refine f_topi (y := nI u) (by rw [wUn_hi s u i (by omega) (by decide)]; exact hu) ?_
    refine z_imul C dX12_undo_56 ?_
    refine z_iadd C dX12_undo_57 ?_
    refine z_iload_n C dX12_undo_58 0 rfl rfl ?_
    refine z_iadd C dX12_undo_59 ?_
    refine f_ialdL C zk_114 zb_114 (ixN (n := 105) (nA (nA (a := 57) rfl (nM (a := 6) rfl rfl rfl) rfl) rfl rfl) (by omega) (by decide)).1 (j := (57 + 6 * u + i)) (ixN (n := 105) (nA (nA (a := 57) rfl (nM (a := 6) rfl rfl rfl) rfl) rfl rfl) (by omega) (by decide)).2 dX12_undo_60 ?_
    refine f_iastL C zk_114 zb_114 (ixN (n := 105) (nA (a := 1) rfl rfl rfl) (by omega) (by decide)).1 (j := (1 + i)) (ixN (n := 105) (nA (a := 1) rfl rfl rfl) (by omega) (by decide)).2 dX12_undo_61 ?_
    refine z_iinc C [(1, .int (nI (i + 1))), (0, .ref (B.1 + 113))] dX12_undo_62 0 rfl (nI_inc i) (by decide) rfl ?_
    refine z_goto C 28 dX12_undo_65 (by decide) ?_
    refine z_G (congrArg (fun z => zg B z t) (wUn_s s u i hi)) ?_
    exact z_lv [0, 1] rfl (ih (i + 1) (by omega))
set_option maxRecDepth 100000 in
set_option maxHeartbeats 4000000 in
theorem c_X12_undo_ok (l : Launch) (B : zB) (s : zS) (t : zL) (u : Nat) (hu8 : u < 8) (hc : s 114 8 = nI (u + 1)) : zD l B mX12_undo s t [.ref (B.1 + 113)] (some (.int (wUn (zu s 114 8 (nI u)) u 6 114 6))) (wUn (zu s 114 8 (nI u)) u 6) t := by
  refine z_met (by decide) (Nat.le_of_ble_eq_true rfl) ?_
  intro X hl C E hnm
  show Zf X B mX12_undo s t 0 [(0, .ref (B.1 + 113))] []
  refine z_aload_n C dX12_undo_0 0 rfl rfl ?_
  refine f_get12 C 0 (v := .ref (B.1 + 114)) (by decide) tw_744 rfl zk_113 zb_113 rfl dX12_undo_1 ?_
  refine z_bipush C dX12_undo_4 kb_8 ?_
  refine f_ialdL C zk_114 zb_114 (by unfold vp_in; decide) (j := 8) (by decide) dX12_undo_6 ?_
  refine f_topi (y := nI (u + 1)) hc ?_
  refine z_if_ne C 15 dX12_undo_7 (by decide) (fun _ => ?_) (fun hbr => absurd hbr (nI_ne0 (by omega) (by omega)))
  refine z_aload_n C dX12_undo_15 0 rfl rfl ?_
  refine f_get12 C 0 (v := .ref (B.1 + 114)) (by decide) tw_744 rfl zk_113 zb_113 rfl dX12_undo_16 ?_
  refine z_bipush C dX12_undo_19 kb_8 ?_
  refine z_dup2 C dX12_undo_21 rfl rfl ?_
  refine f_ialdL C zk_114 zb_114 (by unfold vp_in; decide) (j := 8) (by decide) dX12_undo_22 ?_
  refine f_topi (y := nI (u + 1)) hc ?_
  refine z_iconst C dX12_undo_23 ki_1 ?_
  refine z_isub C dX12_undo_24 ?_
  refine f_topi (y := nI u) (nI_pred u) ?_
  refine f_iastL C zk_114 zb_114 (by unfold vp_in; decide) (j := 8) (by decide) dX12_undo_25 ?_
  refine z_iconst C dX12_undo_26 ki_0 ?_
  refine z_istore_n C [(1, .int 0), (0, .ref (B.1 + 113))] dX12_undo_27 rfl (by decide) rfl ?_
  refine z_G (congrArg (fun z => zg B z t) (wUn_0 (zu s 114 8 (nI u)) u).symm) ?_
  exact z_lv [0, 1] rfl (l_X12_undo (s := (zu s 114 8 (nI u))) hl C u hu8 (zu_same _ _ _ _) E 6 0 (by omega))
