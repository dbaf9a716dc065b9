theorem mT_13 (s : zS) (b : Nat → Int32) (n q : Nat) : mT s b n q 113 13 = nI q := mTf_13 _ _ _ _ _
theorem mT_14 (s : zS) (b : Nat → Int32) (n q : Nat) : mT s b n q 113 14 = nI (tE b n q - q) := mTf_14 _ _ _ _ _
theorem mT_15 (s : zS) (b : Nat → Int32) (n q : Nat) : mT s b n q 113 15 = tK b n q := mTf_15 _ _ _ _ _
theorem mT_16 (s : zS) (b : Nat → Int32) (n q : Nat) : mT s b n q 113 16 = mV b n q := mTf_16 _ _ _ _ _
theorem mT_row (s : zS) (b : Nat → Int32) (n q : Nat) {k : Nat} (h : k ≠ 113) : mT s b n q k = s k := mTf_row _ _ _ _ _ h
theorem mT_zu (s : zS) (b : Nat → Int32) (n q : Nat) {k j : Nat} (x : Int32) (h : k ≠ 113) : zu (mT s b n q) k j x = mT (zu s k j x) b n q := by
  funext i r
  simp only [mT, mTf, zu]
  by_cases hi : i = 113
  · subst hi
    have e : ¬ (113 = k ∧ r = j) := fun z => h z.1.symm
    simp only [if_neg e]
  · rw [if_neg hi, if_neg hi]
abbrev mX12_goBehind : zM := (yX12_goBehind, cX12_goBehind, 1, none, { frames := 3, cells := 0, slots := 0, locals := 69 })
set_option maxRecDepth 100000 in
set_option maxHeartbeats 4000000 in
theorem c_X12_goBehind (l : Launch) (B : zB) (s : zS) (t : zL) (b : Nat → Int32) (hb : s 121 = b) (n : Nat) (hn : s 113 12 = nI n) (h150 : n ≤ 150) (q : Nat) (hq : q ≤ n) : zD l B mX12_goBehind (mT s b n q) t [.ref (B.1 + 113)] none (mT s b n (tN b n q)) t := by
  have hE : q ≤ tE b n q := tE_ge
  refine z_met (by decide) (Nat.le_of_ble_eq_true rfl) ?_
  intro X hl C E hnm
  show Zf X B mX12_goBehind (mT s b n q) t 0 [(0, .ref (B.1 + 113))] []
  refine z_aload_n C dX12_goBehind_0 0 rfl rfl ?_
  refine z_aload_n C dX12_goBehind_1 0 rfl rfl ?_
  refine f_get12 C 13 (v := .int ((mT s b n q) 113 13)) (by decide) tw_757 rfl zk_113 zb_113 rfl dX12_goBehind_2 ?_
  refine f_topi (y := nI q) (mT_13 _ _ _ _) ?_
  refine z_aload_n C dX12_goBehind_5 0 rfl rfl ?_
  refine f_get12 C 14 (v := .int ((mT s b n q) 113 14)) (by decide) tw_758 rfl zk_113 zb_113 rfl dX12_goBehind_6 ?_
  refine f_topi (y := nI (tE b n q - q)) (mT_14 _ _ _ _) ?_
  refine z_iadd C dX12_goBehind_9 ?_
  refine f_topi (y := nI (tE b n q)) (nA rfl rfl (by omega)) ?_
  refine f_callVv C hl (As := [.int (nI (tE b n q))]) (rest := []) (c_X12_lookAt l B s t b hb n hn h150 (tE b n q) (tE_le hq) _ _ _ _) zb_113 (zg_12 zk_113) rfl (zCB (nA := 1) C rfl rfl tw_1031 tw_13 tw_1028 (by decide +kernel) ⟨Nat.le_of_ble_eq_true rfl, Nat.le_of_ble_eq_true rfl⟩) tw_1030 tp_46 rfl rfl (Nat.le_of_ble_eq_true rfl) dX12_goBehind_10 (Nat.zero_le _) ?_
  refine z_vret C E rfl dX12_goBehind_13 rfl (Nat.le_refl _) ⟨rfl, rfl⟩
abbrev mX12_takes : zM := (yX12_takes, cX12_takes, 4, (some .boolean), { frames := 4, cells := 0, slots := 0, locals := 89 })
set_option maxRecDepth 100000 in
set_option maxHeartbeats 4000000 in
theorem c_X12_takes_no (l : Launch) (B : zB) (s : zS) (t : zL) (b : Nat → Int32) (hb : s 121 = b) (n : Nat) (hn : s 113 12 = nI n) (h150 : n ≤ 150) (q : Nat) (hq : q ≤ n) (k : Nat) (hk : k < 3) (up : Int32) (h : ¬ (tK b n q = 2 ∧ wIn (mV b n q) up = true)) : zD l B mX12_takes (mT s b n q) t [.ref (B.1 + 113), .int (nI k), .int 0, .int up] (some (.int (zi false))) (mT s b n q) t := by
  refine z_met (by decide) (Nat.le_of_ble_eq_true rfl) ?_
  intro X hl C E hnm
  show Zf X B mX12_takes (mT s b n q) t 0 [(0, .ref (B.1 + 113)), (1, .int (nI k)), (2, .int 0), (3, .int up)] []
  refine z_aload_n C dX12_takes_0 0 rfl rfl ?_
  refine f_get12 C 15 (v := .int ((mT s b n q) 113 15)) (by decide) tw_759 rfl zk_113 zb_113 rfl dX12_takes_1 ?_
  refine f_topi (y := tK b n q) (mT_15 _ _ _ _) ?_
  refine z_iconst C dX12_takes_4 ki_2 ?_
  refine z_icmp_ne C 23 dX12_takes_5 (by decide) (fun h5 => ?_) (fun h5 => ?_)
  · refine z_iconst C dX12_takes_23 ki_0 ?_
    refine z_zret C E rfl dX12_takes_24 rfl rfl (Nat.le_refl _) ⟨rfl, rfl⟩
  · refine z_aload_n C dX12_takes_8 0 rfl rfl ?_
    refine f_get12 C 16 (v := .int ((mT s b n q) 113 16)) (by decide) tw_760 rfl zk_113 zb_113 rfl dX12_takes_9 ?_
    refine f_topi (y := mV b n q) (mT_16 _ _ _ _) ?_
    refine z_i2l C dX12_takes_12 ?_
    refine z_iload_n C dX12_takes_13 2 rfl rfl ?_
    refine z_i2l C dX12_takes_14 ?_
    refine f_topl (y := 0) (by decide) ?_
    refine z_iload_n C dX12_takes_15 3 rfl rfl ?_
    refine z_i2l C dX12_takes_16 ?_
    refine f_callSr C hl (As := [.long ((mV b n q : Int32).toInt64), .long 0, .long ((up : Int32).toInt64)]) (rest := []) (c_X12_in0 l B (mT s b n q) t (mV b n q) up ((mV b n q : Int32).toInt64) ((up : Int32).toInt64) rfl rfl) (zCB (nA := 3) C rfl rfl tw_810 tw_13 tw_808 (by decide +kernel) ⟨Nat.le_of_ble_eq_true rfl, Nat.le_of_ble_eq_true rfl⟩) tw_809 rfl rfl (Nat.le_of_ble_eq_true rfl) dX12_takes_17 (Nat.zero_le _) ?_
    refine z_ifb_ne C 25 dX12_takes_20 (by decide) (fun h20 => ?_) (fun h20 => ?_)
    · exact absurd ⟨h5, h20⟩ h
    · refine z_iconst C dX12_takes_23 ki_0 ?_
      refine z_zret C E rfl dX12_takes_24 rfl rfl (Nat.le_refl _) ⟨rfl, rfl⟩
set_option maxRecDepth 100000 in
set_option maxHeartbeats 4000000 in
theorem c_X12_takes_ok (l : Launch) (B : zB) (s : zS) (t : zL) (b : Nat → Int32) (hb : s 121 = b) (n : Nat) (hn : s 113 12 = nI n) (h150 : n ≤ 150) (q : Nat) (hq : q ≤ n) (k : Nat) (hk : k < 3) (up : Int32) (g1 : tK b n q = 2) (g2 : wIn (mV b n q) up = true) : zD l B mX12_takes (mT s b n q) t [.ref (B.1 + 113), .int (nI k), .int 0, .int up] (some (.int (zi true))) (mT (zu s 123 k (mV b n q)) b n (tN b n q)) t := by
  refine z_met (by decide) (Nat.le_of_ble_eq_true rfl) ?_
  intro X hl C E hnm
  show Zf X B mX12_takes (mT s b n q) t 0 [(0, .ref (B.1 + 113)), (1, .int (nI k)), (2, .int 0), (3, .int up)] []
  refine z_aload_n C dX12_takes_0 0 rfl rfl ?_
  refine f_get12 C 15 (v := .int ((mT s b n q) 113 15)) (by decide) tw_759 rfl zk_113 zb_113 rfl dX12_takes_1 ?_
  refine f_topi (y := tK b n q) (mT_15 _ _ _ _) ?_
  refine z_iconst C dX12_takes_4 ki_2 ?_
  refine z_icmp_ne C 23 dX12_takes_5 (by decide) (fun hbr => absurd g1 hbr) (fun _ => ?_)
  refine z_aload_n C dX12_takes_8 0 rfl rfl ?_
  refine f_get12 C 16 (v := .int ((mT s b n q) 113 16)) (by decide) tw_760 rfl zk_113 zb_113 rfl dX12_takes_9 ?_
  refine f_topi (y := mV b n q) (mT_16 _ _ _ _) ?_
  refine z_i2l C dX12_takes_12 ?_
  refine z_iload_n C dX12_takes_13 2 rfl rfl ?_
  refine z_i2l C dX12_takes_14 ?_
  refine f_topl (y := 0) (by decide) ?_
  refine z_iload_n C dX12_takes_15 3 rfl rfl ?_
  refine z_i2l C dX12_takes_16 ?_
  refine f_callSr C hl (As := [.long ((mV b n q : Int32).toInt64), .long 0, .long ((up : Int32).toInt64)]) (rest := []) (c_X12_in0 l B (mT s b n q) t (mV b n q) up ((mV b n q : Int32).toInt64) ((up : Int32).toInt64) rfl rfl) (zCB (nA := 3) C rfl rfl tw_810 tw_13 tw_808 (by decide +kernel) ⟨Nat.le_of_ble_eq_true rfl, Nat.le_of_ble_eq_true rfl⟩) tw_809 rfl rfl (Nat.le_of_ble_eq_true rfl) dX12_takes_17 (Nat.zero_le _) ?_
  refine z_ifb_ne C 25 dX12_takes_20 (by decide) (fun _ => ?_) (fun hbr => Bool.noConfusion (show false = true from hbr.symm.trans g2))
  refine z_aload_n C dX12_takes_25 0 rfl rfl ?_
  refine f_get12 C 18 (v := .ref (B.1 + 123)) (by decide) tw_762 rfl zk_113 zb_113 rfl dX12_takes_26 ?_
  refine z_iload_n C dX12_takes_29 1 rfl rfl ?_
  refine z_aload_n C dX12_takes_30 0 rfl rfl ?_
  refine f_get12 C 16 (v := .int ((mT s b n q) 113 16)) (by decide) tw_760 rfl zk_113 zb_113 rfl dX12_takes_31 ?_
  refine f_topi (y := mV b n q) (mT_16 _ _ _ _) ?_
  refine f_iastL C zk_123 zb_123 (ixN (n := 3) rfl (by omega) (by decide)).1 (j := k) (ixN (n := 3) rfl (by omega) (by decide)).2 dX12_takes_34 ?_
  refine z_G (congrArg (fun z => zg B z t) (mT_zu _ _ _ _ _ (by decide))) ?_
  refine z_aload_n C dX12_takes_35 0 rfl rfl ?_
  refine f_callVv C hl (As := []) (rest := []) (c_X12_goBehind l B (zu s 123 k (mV b n q)) t b (by rw [zu_row _ _ (by decide)]; exact hb) n (by rw [zu_row _ _ (by decide)]; exact hn) h150 q hq) zb_113 (zg_12 zk_113) rfl (zCB (nA := 0) C rfl rfl tw_1053 tw_13 tw_1050 (by decide +kernel) ⟨Nat.le_of_ble_eq_true rfl, Nat.le_of_ble_eq_true rfl⟩) tw_1052 tp_49 rfl rfl (Nat.le_of_ble_eq_true rfl) dX12_takes_36 (Nat.zero_le _) ?_
  refine z_iconst C dX12_takes_39 ki_1 ?_
  refine z_zret C E rfl dX12_takes_40 rfl rfl (Nat.le_refl _) ⟨rfl, rfl⟩
