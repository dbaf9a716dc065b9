theorem wIn_dep {x : Int32} {N : Nat} (h : wIn x (nI N - 1) = true) (h6 : N ≤ 6) : ∃ d, d < N ∧ x = nI d := by
  obtain ⟨h1, h2⟩ := of_decide_eq_true h
  obtain ⟨j, hj, e⟩ := nI_of h1
  subst e
  refine ⟨j, ?_, rfl⟩
  have e1 : (nI N - 1).toInt = (N : Int) - 1 := pk_sub_toInt (a := N) (b := 1) (by omega) (by decide)
  have e2 : (nI j).toInt = (j : Int) := nI_toInt hj
  rw [Int32.lt_iff_toInt_lt, e1, e2] at h2
  omega
def mMi (s : zS) (b : Nat → Int32) (n q w : Nat) : Bool × zS × Nat :=
  if (mNm s b n (tN b n q) 0 (s 122 0 - 1)).1 = true then ((mLw b n (n - (tN b n (tN b n q))) (tN b n (tN b n q)) 0 (zu s 123 0 (mV b n (tN b n q)))).1, if (mLw b n (n - (tN b n (tN b n q))) (tN b n (tN b n q)) 0 (zu s 123 0 (mV b n (tN b n q)))).1 = true then zu (mLw b n (n - (tN b n (tN b n q))) (tN b n (tN b n q)) 0 (zu s 123 0 (mV b n (tN b n q)))).2.2.1 122 (9 + 4 * (mV b n (tN b n q)).toNatClampNeg + w) (mLw b n (n - (tN b n (tN b n q))) (tN b n (tN b n q)) 0 (zu s 123 0 (mV b n (tN b n q)))).2.1 else (mLw b n (n - (tN b n (tN b n q))) (tN b n (tN b n q)) 0 (zu s 123 0 (mV b n (tN b n q)))).2.2.1, (mLw b n (n - (tN b n (tN b n q))) (tN b n (tN b n q)) 0 (zu s 123 0 (mV b n (tN b n q)))).2.2.2)
  else (false, s, tN b n q)
abbrev mX12_takesMind : zM := (yX12_takesMind, cX12_takesMind, 2, (some .boolean), { frames := 6, cells := 0, slots := 0, locals := 134 })
set_option maxRecDepth 100000 in
set_option maxHeartbeats 4000000 in
theorem c_X12_takesMind1 (l : Launch) (B : zB) (s : zS) (t : zL) (b : Nat → Int32) (hb : s 121 = b) (n : Nat) (hn : s 113 12 = nI n) (h150 : n ≤ 150) (q : Nat) (hq : q ≤ n) (N : Nat) (hN : s 122 0 = nI N) (h6 : N ≤ 6) : zD l B mX12_takesMind (mT s b n q) t [.ref (B.1 + 113), .int 1] (some (.int (zi (mMi s b n q 1).1))) (mT (mMi s b n q 1).2.1 b n (mMi s b n q 1).2.2) t := by
  refine z_met (by decide) (Nat.le_of_ble_eq_true rfl) ?_
  intro X hl C E hnm
  show Zf X B mX12_takesMind (mT s b n q) t 0 [(0, .ref (B.1 + 113)), (1, .int 1)] []
  refine z_aload_n C dX12_takesMind_0 0 rfl rfl ?_
  refine f_callVv C hl (As := []) (rest := []) (c_X12_goBehind l B s t b hb n hn h150 q hq) zb_113 (zg_12 zk_113) rfl (zCB (nA := 0) C rfl rfl tw_1053 tw_13 tw_1050 (by decide +kernel) ⟨Nat.le_of_ble_eq_true rfl, Nat.le_of_ble_eq_true rfl⟩) tw_1052 tp_49 rfl rfl (Nat.le_of_ble_eq_true rfl) dX12_takesMind_1 (Nat.zero_le _) ?_
  refine z_aload_n C dX12_takesMind_4 0 rfl rfl ?_
  refine z_iconst C dX12_takesMind_5 ki_0 ?_
  refine z_iconst C dX12_takesMind_6 ki_0 ?_
  refine z_aload_n C dX12_takesMind_7 0 rfl rfl ?_
  refine f_get12 C 17 (v := .ref (B.1 + 122)) (by decide) tw_761 rfl zk_113 zb_113 rfl dX12_takesMind_8 ?_
  refine z_iconst C dX12_takesMind_11 ki_0 ?_
  refine f_ialdL C zk_122 zb_122 (by unfold vp_in; decide) (j := 0) (by decide) dX12_takesMind_12 ?_
  refine f_topi (y := s 122 0) (by rw [mT_row _ _ _ _ (by decide)]) ?_
  refine z_iconst C dX12_takesMind_13 ki_1 ?_
  refine z_isub C dX12_takesMind_14 ?_
  refine f_callVr C hl (As := [.int 0, .int 0, .int ((s 122 0) - 1)]) (rest := []) (c_mNm l B s t b hb n hn h150 (tN b n q) (tN_le hq) 0 (by decide) (s 122 0 - 1)) zb_113 (zg_12 zk_113) rfl (zCB (nA := 3) C rfl rfl tw_1057 tw_13 tw_1054 (by decide +kernel) ⟨Nat.le_of_ble_eq_true rfl, Nat.le_of_ble_eq_true rfl⟩) tw_1056 tp_50 rfl rfl (Nat.le_of_ble_eq_true rfl) dX12_takesMind_15 (Nat.zero_le _) ?_
  refine z_ifb_eq C 45 dX12_takesMind_18 (by decide) (fun h18 => ?_) (fun h18 => ?_)
  · refine z_iconst C dX12_takesMind_45 ki_0 ?_
    obtain ⟨gg, em⟩ := mNm_f h18
    refine z_zret C E rfl dX12_takesMind_46 rfl rfl (Nat.le_refl _) ⟨by rw [mMi, if_neg (by rw [h18]; decide)]; rfl, by rw [em, mMi, if_neg (by rw [h18]; decide)]⟩
  · obtain ⟨gg, em⟩ := mNm_t h18
    refine z_G (G2 := zg B (mT (zu s 123 0 (mV b n (tN b n q))) b n (tN b n (tN b n q))) t) (by rw [em]) ?_
    obtain ⟨d, hd, ed⟩ := wIn_dep (N := N) (by rw [← hN]; exact gg.2) h6
    refine z_aload_n C dX12_takesMind_21 0 rfl rfl ?_
    refine z_bipush C dX12_takesMind_22 kb_9 ?_
    refine z_iconst C dX12_takesMind_24 ki_4 ?_
    refine z_aload_n C dX12_takesMind_25 0 rfl rfl ?_
    refine f_get12 C 18 (v := .ref (B.1 + 123)) (by decide) tw_762 rfl zk_113 zb_113 rfl dX12_takesMind_26 ?_
    refine z_iconst C dX12_takesMind_29 ki_0 ?_
    refine f_ialdL C zk_123 zb_123 (by unfold vp_in; decide) (j := 0) (by decide) dX12_takesMind_30 ?_
    refine f_topi (y := nI d) (by rw [mT_row _ _ _ _ (by decide)]; exact (zu_same _ _ _ _).trans ed) ?_
    refine z_imul C dX12_takesMind_31 ?_
    refine z_iadd C dX12_takesMind_32 ?_
    refine z_iload_n C dX12_takesMind_33 1 rfl rfl ?_
    refine z_iadd C dX12_takesMind_34 ?_
    refine f_topi (y := nI (9 + 4 * d + 1)) (nA (nA (a := 9) rfl (nM (a := 4) rfl rfl rfl) rfl) (b := 1) rfl rfl) ?_
    refine f_callVr C hl (As := [.int (nI (9 + 4 * d + 1))]) (rest := []) (c_X12_takesLaws l B (zu s 123 0 (mV b n (tN b n q))) t b (by rw [zu_row _ _ (by decide)]; exact hb) n (by rw [zu_row _ _ (by decide)]; exact hn) h150 (tN b n (tN b n q)) (tN_le (tN_le hq)) (9 + 4 * d + 1) (by omega) (nI (9 + 4 * d + 1)) rfl) zb_113 (zg_12 zk_113) rfl (zCB (nA := 1) C rfl rfl tw_1073 tw_13 tw_1070 (by decide +kernel) ⟨Nat.le_of_ble_eq_true rfl, Nat.le_of_ble_eq_true rfl⟩) tw_1072 tp_54 rfl rfl (Nat.le_of_ble_eq_true rfl) dX12_takesMind_35 (Nat.zero_le _) ?_
    refine z_ifb_eq C 45 dX12_takesMind_38 (by decide) (fun h38 => ?_) (fun h38 => ?_)
    · refine z_iconst C dX12_takesMind_45 ki_0 ?_
      refine z_zret C E rfl dX12_takesMind_46 rfl rfl (Nat.le_refl _) ⟨by rw [mMi, if_pos h18]; show some (Value.int 0) = some (Value.int (zi (mLw b n (n - (tN b n (tN b n q))) (tN b n (tN b n q)) 0 (zu s 123 0 (mV b n (tN b n q)))).1)); rw [h38]; rfl, by rw [mMi, if_pos h18, show (mV b n (tN b n q)).toNatClampNeg = d by rw [ed, nI_clamp (by omega)]]⟩
    · refine z_iconst C dX12_takesMind_41 ki_1 ?_
      refine z_goto C 46 dX12_takesMind_42 (by decide) ?_
      refine z_zret C E rfl dX12_takesMind_46 rfl rfl (Nat.le_refl _) ⟨by rw [mMi, if_pos h18]; show some (Value.int 1) = some (Value.int (zi (mLw b n (n - (tN b n (tN b n q))) (tN b n (tN b n q)) 0 (zu s 123 0 (mV b n (tN b n q)))).1)); rw [h38]; rfl, by rw [mMi, if_pos h18, show (mV b n (tN b n q)).toNatClampNeg = d by rw [ed, nI_clamp (by omega)]]⟩
set_option maxRecDepth 100000 in
set_option maxHeartbeats 4000000 in
theorem c_X12_takesMind2 (l : Launch) (B : zB) (s : zS) (t : zL) (b : Nat → Int32) (hb : s 121 = b) (n : Nat) (hn : s 113 12 = nI n) (h150 : n ≤ 150) (q : Nat) (hq : q ≤ n) (N : Nat) (hN : s 122 0 = nI N) (h6 : N ≤ 6) : zD l B mX12_takesMind (mT s b n q) t [.ref (B.1 + 113), .int 2] (some (.int (zi (mMi s b n q 2).1))) (mT (mMi s b n q 2).2.1 b n (mMi s b n q 2).2.2) t := by
  refine z_met (by decide) (Nat.le_of_ble_eq_true rfl) ?_
  intro X hl C E hnm
  show Zf X B mX12_takesMind (mT s b n q) t 0 [(0, .ref (B.1 + 113)), (1, .int 2)] []
  refine z_aload_n C dX12_takesMind_0 0 rfl rfl ?_
  refine f_callVv C hl (As := []) (rest := []) (c_X12_goBehind l B s t b hb n hn h150 q hq) zb_113 (zg_12 zk_113) rfl (zCB (nA := 0) C rfl rfl tw_1053 tw_13 tw_1050 (by decide +kernel) ⟨Nat.le_of_ble_eq_true rfl, Nat.le_of_ble_eq_true rfl⟩) tw_1052 tp_49 rfl rfl (Nat.le_of_ble_eq_true rfl) dX12_takesMind_1 (Nat.zero_le _) ?_
  refine z_aload_n C dX12_takesMind_4 0 rfl rfl ?_
  refine z_iconst C dX12_takesMind_5 ki_0 ?_
  refine z_iconst C dX12_takesMind_6 ki_0 ?_
  refine z_aload_n C dX12_takesMind_7 0 rfl rfl ?_
  refine f_get12 C 17 (v := .ref (B.1 + 122)) (by decide) tw_761 rfl zk_113 zb_113 rfl dX12_takesMind_8 ?_
  refine z_iconst C dX12_takesMind_11 ki_0 ?_
  refine f_ialdL C zk_122 zb_122 (by unfold vp_in; decide) (j := 0) (by decide) dX12_takesMind_12 ?_
  refine f_topi (y := s 122 0) (by rw [mT_row _ _ _ _ (by decide)]) ?_
  refine z_iconst C dX12_takesMind_13 ki_1 ?_
  refine z_isub C dX12_takesMind_14 ?_
  refine f_callVr C hl (As := [.int 0, .int 0, .int ((s 122 0) - 1)]) (rest := []) (c_mNm l B s t b hb n hn h150 (tN b n q) (tN_le hq) 0 (by decide) (s 122 0 - 1)) zb_113 (zg_12 zk_113) rfl (zCB (nA := 3) C rfl rfl tw_1057 tw_13 tw_1054 (by decide +kernel) ⟨Nat.le_of_ble_eq_true rfl, Nat.le_of_ble_eq_true rfl⟩) tw_1056 tp_50 rfl rfl (Nat.le_of_ble_eq_true rfl) dX12_takesMind_15 (Nat.zero_le _) ?_
  refine z_ifb_eq C 45 dX12_takesMind_18 (by decide) (fun h18 => ?_) (fun h18 => ?_)
  · refine z_iconst C dX12_takesMind_45 ki_0 ?_
    obtain ⟨gg, em⟩ := mNm_f h18
    refine z_zret C E rfl dX12_takesMind_46 rfl rfl (Nat.le_refl _) ⟨by rw [mMi, if_neg (by rw [h18]; decide)]; rfl, by rw [em, mMi, if_neg (by rw [h18]; decide)]⟩
  · obtain ⟨gg, em⟩ := mNm_t h18
    refine z_G (G2 := zg B (mT (zu s 123 0 (mV b n (tN b n q))) b n (tN b n (tN b n q))) t) (by rw [em]) ?_
    obtain ⟨d, hd, ed⟩ := wIn_dep (N := N) (by rw [← hN]; exact gg.2) h6
    refine z_aload_n C dX12_takesMind_21 0 rfl rfl ?_
    refine z_bipush C dX12_takesMind_22 kb_9 ?_
    refine z_iconst C dX12_takesMind_24 ki_4 ?_
    refine z_aload_n C dX12_takesMind_25 0 rfl rfl ?_
    refine f_get12 C 18 (v := .ref (B.1 + 123)) (by decide) tw_762 rfl zk_113 zb_113 rfl dX12_takesMind_26 ?_
    refine z_iconst C dX12_takesMind_29 ki_0 ?_
    refine f_ialdL C zk_123 zb_123 (by unfold vp_in; decide) (j := 0) (by decide) dX12_takesMind_30 ?_
    refine f_topi (y := nI d) (by rw [mT_row _ _ _ _ (by decide)]; exact (zu_same _ _ _ _).trans ed) ?_
    refine z_imul C dX12_takesMind_31 ?_
    refine z_iadd C dX12_takesMind_32 ?_
    refine z_iload_n C dX12_takesMind_33 1 rfl rfl ?_
    refine z_iadd C dX12_takesMind_34 ?_
    refine f_topi (y := nI (9 + 4 * d + 2)) (nA (nA (a := 9) rfl (nM (a := 4) rfl rfl rfl) rfl) (b := 2) rfl rfl) ?_
    refine f_callVr C hl (As := [.int (nI (9 + 4 * d + 2))]) (rest := []) (c_X12_takesLaws l B (zu s 123 0 (mV b n (tN b n q))) t b (by rw [zu_row _ _ (by decide)]; exact hb) n (by rw [zu_row _ _ (by decide)]; exact hn) h150 (tN b n (tN b n q)) (tN_le (tN_le hq)) (9 + 4 * d + 2) (by omega) (nI (9 + 4 * d + 2)) rfl) zb_113 (zg_12 zk_113) rfl (zCB (nA := 1) C rfl rfl tw_1073 tw_13 tw_1070 (by decide +kernel) ⟨Nat.le_of_ble_eq_true rfl, Nat.le_of_ble_eq_true rfl⟩) tw_1072 tp_54 rfl rfl (Nat.le_of_ble_eq_true rfl) dX12_takesMind_35 (Nat.zero_le _) ?_
    refine z_ifb_eq C 45 dX12_takesMind_38 (by decide) (fun h38 => ?_) (fun h38 => ?_)
    · refine z_iconst C dX12_takesMind_45 ki_0 ?_
      refine z_zret C E rfl dX12_takesMind_46 rfl rfl (Nat.le_refl _) ⟨by rw [mMi, if_pos h18]; show some (Value.int 0) = some (Value.int (zi (mLw b n (n - (tN b n (tN b n q))) (tN b n (tN b n q)) 0 (zu s 123 0 (mV b n (tN b n q)))).1)); rw [h38]; rfl, by rw [mMi, if_pos h18, show (mV b n (tN b n q)).toNatClampNeg = d by rw [ed, nI_clamp (by omega)]]⟩
    · refine z_iconst C dX12_takesMind_41 ki_1 ?_
      refine z_goto C 46 dX12_takesMind_42 (by decide) ?_
      refine z_zret C E rfl dX12_takesMind_46 rfl rfl (Nat.le_refl _) ⟨by rw [mMi, if_pos h18]; show some (Value.int 1) = some (Value.int (zi (mLw b n (n - (tN b n (tN b n q))) (tN b n (tN b n q)) 0 (zu s 123 0 (mV b n (tN b n q)))).1)); rw [h38]; rfl, by rw [mMi, if_pos h18, show (mV b n (tN b n q)).toNatClampNeg = d by rw [ed, nI_clamp (by omega)]]⟩
