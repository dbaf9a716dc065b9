theorem mT_beg (s : zS) (b : Nat → Int32) (n q : Nat) (d : Int32) : wBeg (mT s b n q) 122 d = mT (wBeg s 122 d) b n q := by
  funext i j
  by_cases hi : i = 113
  · subst hi
    simp [wBeg, wZero, zu, mT, mTf]
  · by_cases h2 : i = 122
    · subst h2; simp [wBeg, wZero, zu, mT, mTf]
    · simp [wBeg, wZero, zu, mT, mTf, hi, h2]
def mHou (s : zS) (b : Nat → Int32) (n q : Nat) : Bool × zS × Nat :=
  if tIs b n q 0 = true then
    (if (mNm s b n (tN b n q) 0 99).1 = true then (decide (tK b n (tN b n (tN b n q)) = 3), wBeg (zu s 123 0 (mV b n (tN b n q))) 122 (mV b n (tN b n q)), tN b n (tN b n q)) else (false, s, tN b n q))
  else (false, s, q)
abbrev mX12_takesHouse : zM := (yX12_takesHouse, cX12_takesHouse, 1, (some .boolean), { frames := 5, cells := 0, slots := 0, locals := 112 })
set_option maxRecDepth 100000 in
set_option maxHeartbeats 4000000 in
theorem c_X12_takesHouse (l : Launch) (B : zB) (s : zS) (t : zL) (b : Nat → Int32) (hb : s 121 = b) (n : Nat) (hn : s 113 12 = nI n) (h150 : n ≤ 150) (q : Nat) (hq : q ≤ n) : zD l B mX12_takesHouse (mT s b n q) t [.ref (B.1 + 113)] (some (.int (zi (mHou s b n q).1))) (mT (mHou s b n q).2.1 b n (mHou s b n q).2.2) t := by
  refine z_met (by decide) (Nat.le_of_ble_eq_true rfl) ?_
  intro X hl C E hnm
  show Zf X B mX12_takesHouse (mT s b n q) t 0 [(0, .ref (B.1 + 113))] []
  refine z_aload_n C dX12_takesHouse_0 0 rfl rfl ?_
  refine z_iconst C dX12_takesHouse_1 ki_5 ?_
  refine z_bipush C dX12_takesHouse_2 kb_104 ?_
  refine z_bipush C dX12_takesHouse_4 kb_111 ?_
  refine z_bipush C dX12_takesHouse_6 kb_117 ?_
  refine z_bipush C dX12_takesHouse_8 kb_115 ?_
  refine z_bipush C dX12_takesHouse_10 kb_101 ?_
  refine z_iconst C dX12_takesHouse_12 ki_0 ?_
  refine f_callVr C hl (As := [.int 5, .int 104, .int 111, .int 117, .int 115, .int 101, .int 0]) (rest := []) (c_X12_spells0 l B s t b hb n hn h150 q hq) zb_113 (zg_12 zk_113) rfl (zCB (nA := 7) C rfl rfl tw_1049 tw_13 tw_1046 (by decide +kernel) ⟨Nat.le_of_ble_eq_true rfl, Nat.le_of_ble_eq_true rfl⟩) tw_1048 tp_48 rfl rfl (Nat.le_of_ble_eq_true rfl) dX12_takesHouse_13 (Nat.zero_le _) ?_
  refine z_ifb_ne C 21 dX12_takesHouse_16 (by decide) (fun h16 => ?_) (fun h16 => ?_)
  · refine z_aload_n C dX12_takesHouse_21 0 rfl rfl ?_
    refine f_callVv C hl (As := []) (rest := []) (c_X12_goBehind l B s t b hb n hn h150 q hq) zb_113 (zg_12 zk_113) rfl (zCB (nA := 0) C rfl rfl tw_1053 tw_13 tw_1050 (by decide +kernel) ⟨Nat.le_of_ble_eq_true rfl, Nat.le_of_ble_eq_true rfl⟩) tw_1052 tp_49 rfl rfl (Nat.le_of_ble_eq_true rfl) dX12_takesHouse_22 (Nat.zero_le _) ?_
    refine z_aload_n C dX12_takesHouse_25 0 rfl rfl ?_
    refine z_iconst C dX12_takesHouse_26 ki_0 ?_
    refine z_iconst C dX12_takesHouse_27 ki_0 ?_
    refine z_bipush C dX12_takesHouse_28 kb_99 ?_
    refine f_callVr C hl (As := [.int 0, .int 0, .int 99]) (rest := []) (c_mNm l B s t b hb n hn h150 (tN b n q) (tN_le hq) 0 (by decide) 99) zb_113 (zg_12 zk_113) rfl (zCB (nA := 3) C rfl rfl tw_1057 tw_13 tw_1054 (by decide +kernel) ⟨Nat.le_of_ble_eq_true rfl, Nat.le_of_ble_eq_true rfl⟩) tw_1056 tp_50 rfl rfl (Nat.le_of_ble_eq_true rfl) dX12_takesHouse_30 (Nat.zero_le _) ?_
    refine z_ifb_ne C 38 dX12_takesHouse_33 (by decide) (fun h33 => ?_) (fun h33 => ?_)
    · obtain ⟨gg, em⟩ := mNm_t h33
      refine z_G (G2 := zg B (mT (zu s 123 0 (mV b n (tN b n q))) b n (tN b n (tN b n q))) t) (by rw [em]) ?_
      refine z_aload_n C dX12_takesHouse_38 0 rfl rfl ?_
      refine f_get12 C 17 (v := .ref (B.1 + 122)) (by decide) tw_761 rfl zk_113 zb_113 rfl dX12_takesHouse_39 ?_
      refine z_aload_n C dX12_takesHouse_42 0 rfl rfl ?_
      refine f_get12 C 18 (v := .ref (B.1 + 123)) (by decide) tw_762 rfl zk_113 zb_113 rfl dX12_takesHouse_43 ?_
      refine z_iconst C dX12_takesHouse_46 ki_0 ?_
      refine f_ialdL C zk_123 zb_123 (by unfold vp_in; decide) (j := 0) (by decide) dX12_takesHouse_47 ?_
      refine f_topi (y := mV b n (tN b n q)) (by rw [mT_row _ _ _ _ (by decide)]; exact zu_same _ _ _ _) ?_
      refine f_callSv C hl (As := [.ref (B.1 + 122), .int (mV b n (tN b n q))]) (rest := []) (c_X12_begin122 l B (mT (zu s 123 0 (mV b n (tN b n q))) b n (tN b n (tN b n q))) t (mV b n (tN b n q))) (zCB (nA := 2) C rfl rfl tw_743 tw_13 tw_741 (by decide +kernel) ⟨Nat.le_of_ble_eq_true rfl, Nat.le_of_ble_eq_true rfl⟩) tw_742 rfl rfl (Nat.le_of_ble_eq_true rfl) dX12_takesHouse_48 (Nat.zero_le _) ?_
      refine z_G (congrArg (fun z => zg B z t) (mT_beg _ _ _ _ _)) ?_
      refine z_aload_n C dX12_takesHouse_51 0 rfl rfl ?_
      refine f_get12 C 15 (v := .int ((mT (wBeg (zu s 123 0 (mV b n (tN b n q))) 122 (mV b n (tN b n q))) b n (tN b n (tN b n q))) 113 15)) (by decide) tw_759 rfl zk_113 zb_113 rfl dX12_takesHouse_52 ?_
      refine f_topi (y := tK b n (tN b n (tN b n q))) (mT_15 _ _ _ _) ?_
      refine z_iconst C dX12_takesHouse_55 ki_3 ?_
      refine z_icmp_ne C 63 dX12_takesHouse_56 (by decide) (fun h56 => ?_) (fun h56 => ?_)
      · refine z_iconst C dX12_takesHouse_63 ki_0 ?_
        refine z_zret C E rfl dX12_takesHouse_64 rfl rfl (Nat.le_refl _) ⟨by rw [mHou, if_pos h16, if_pos h33, decide_eq_false h56]; rfl, by rw [mHou, if_pos h16, if_pos h33]⟩
      · refine z_iconst C dX12_takesHouse_59 ki_1 ?_
        refine z_goto C 64 dX12_takesHouse_60 (by decide) ?_
        refine z_zret C E rfl dX12_takesHouse_64 rfl rfl (Nat.le_refl _) ⟨by rw [mHou, if_pos h16, if_pos h33, decide_eq_true h56]; rfl, by rw [mHou, if_pos h16, if_pos h33]⟩
    · refine z_iconst C dX12_takesHouse_36 ki_0 ?_
      obtain ⟨gg, em⟩ := mNm_f h33
      refine z_zret C E rfl dX12_takesHouse_37 rfl rfl (Nat.le_refl _) ⟨by rw [mHou, if_pos h16, if_neg (by rw [h33]; decide)]; rfl, by rw [em, mHou, if_pos h16, if_neg (by rw [h33]; decide)]⟩
  · refine z_iconst C dX12_takesHouse_19 ki_0 ?_
    refine z_zret C E rfl dX12_takesHouse_20 rfl rfl (Nat.le_refl _) ⟨by rw [mHou, if_neg (by rw [h16]; decide)]; rfl, by rw [mHou, if_neg (by rw [h16]; decide)]⟩
theorem mT_lay (s : zS) (b : Nat → Int32) (n q N : Nat) (x y z w : Int32) : wLay122 (mT s b n q) N x y z w = mT (wLay122 s N x y z w) b n q := by
  rw [wLay122, mT_zu _ _ _ _ _ (by decide), mT_zu _ _ _ _ _ (by decide), mT_zu _ _ _ _ _ (by decide), mT_zu _ _ _ _ _ (by decide), mT_zu _ _ _ _ _ (by decide)]
  rfl
def mDp2 (s : zS) (b : Nat → Int32) (n q N : Nat) : Bool × zS × Nat :=
  if s 122 0 = 6 then (false, s, q)
  else if (mNm s b n (tN b n q) 0 5).1 = true then
    (if (mNm (zu s 123 0 (mV b n (tN b n q))) b n (tN b n (tN b n q)) 1 40).1 = true then (true, wLay122 (zu (zu s 123 0 (mV b n (tN b n q))) 123 1 (mV b n (tN b n (tN b n q)))) N (mV b n (tN b n q)) 0 0 (mV b n (tN b n (tN b n q))), tN b n (tN b n (tN b n q)))
     else (false, zu s 123 0 (mV b n (tN b n q)), tN b n (tN b n q)))
  else (false, s, tN b n q)
abbrev mX12_takesDeputy : zM := (yX12_takesDeputy, cX12_takesDeputy, 1, (some .boolean), { frames := 5, cells := 0, slots := 0, locals := 112 })
set_option maxRecDepth 100000 in
set_option maxHeartbeats 4000000 in
theorem c_X12_takesDeputy (l : Launch) (B : zB) (s : zS) (t : zL) (b : Nat → Int32) (hb : s 121 = b) (n : Nat) (hn : s 113 12 = nI n) (h150 : n ≤ 150) (q : Nat) (hq : q ≤ n) (N : Nat) (hN : s 122 0 = nI N) (h6 : N ≤ 6) : zD l B mX12_takesDeputy (mT s b n q) t [.ref (B.1 + 113)] (some (.int (zi (mDp2 s b n q N).1))) (mT (mDp2 s b n q N).2.1 b n (mDp2 s b n q N).2.2) t := by
  refine z_met (by decide) (Nat.le_of_ble_eq_true rfl) ?_
  intro X hl C E hnm
  show Zf X B mX12_takesDeputy (mT s b n q) t 0 [(0, .ref (B.1 + 113))] []
  refine z_aload_n C dX12_takesDeputy_0 0 rfl rfl ?_
  refine f_get12 C 17 (v := .ref (B.1 + 122)) (by decide) tw_761 rfl zk_113 zb_113 rfl dX12_takesDeputy_1 ?_
  refine z_iconst C dX12_takesDeputy_4 ki_0 ?_
  refine f_ialdL C zk_122 zb_122 (by unfold vp_in; decide) (j := 0) (by decide) dX12_takesDeputy_5 ?_
  refine f_topi (y := s 122 0) (by rw [mT_row _ _ _ _ (by decide)]) ?_
  refine z_bipush C dX12_takesDeputy_6 kb_6 ?_
  refine z_icmp_ne C 13 dX12_takesDeputy_8 (by decide) (fun h8 => ?_) (fun h8 => ?_)
  · refine z_aload_n C dX12_takesDeputy_13 0 rfl rfl ?_
    refine f_callVv C hl (As := []) (rest := []) (c_X12_goBehind l B s t b hb n hn h150 q hq) zb_113 (zg_12 zk_113) rfl (zCB (nA := 0) C rfl rfl tw_1053 tw_13 tw_1050 (by decide +kernel) ⟨Nat.le_of_ble_eq_true rfl, Nat.le_of_ble_eq_true rfl⟩) tw_1052 tp_49 rfl rfl (Nat.le_of_ble_eq_true rfl) dX12_takesDeputy_14 (Nat.zero_le _) ?_
    refine z_aload_n C dX12_takesDeputy_17 0 rfl rfl ?_
    refine z_iconst C dX12_takesDeputy_18 ki_0 ?_
    refine z_iconst C dX12_takesDeputy_19 ki_0 ?_
    refine z_iconst C dX12_takesDeputy_20 ki_5 ?_
    refine f_callVr C hl (As := [.int 0, .int 0, .int 5]) (rest := []) (c_mNm l B s t b hb n hn h150 (tN b n q) (tN_le hq) 0 (by decide) 5) zb_113 (zg_12 zk_113) rfl (zCB (nA := 3) C rfl rfl tw_1057 tw_13 tw_1054 (by decide +kernel) ⟨Nat.le_of_ble_eq_true rfl, Nat.le_of_ble_eq_true rfl⟩) tw_1056 tp_50 rfl rfl (Nat.le_of_ble_eq_true rfl) dX12_takesDeputy_21 (Nat.zero_le _) ?_
    refine z_ifb_eq C 38 dX12_takesDeputy_24 (by decide) (fun h24 => ?_) (fun h24 => ?_)
    · refine z_iconst C dX12_takesDeputy_38 ki_0 ?_
      obtain ⟨gg, em⟩ := mNm_f h24
      refine z_zret C E rfl dX12_takesDeputy_39 rfl rfl (Nat.le_refl _) ⟨by rw [mDp2, if_neg h8, if_neg (by rw [h24]; decide)]; rfl, by rw [em, mDp2, if_neg h8, if_neg (by rw [h24]; decide)]⟩
    · obtain ⟨gg, em⟩ := mNm_t h24
      refine z_G (G2 := zg B (mT (zu s 123 0 (mV b n (tN b n q))) b n (tN b n (tN b n q))) t) (by rw [em]) ?_
      refine z_aload_n C dX12_takesDeputy_27 0 rfl rfl ?_
      refine z_iconst C dX12_takesDeputy_28 ki_1 ?_
      refine z_iconst C dX12_takesDeputy_29 ki_0 ?_
      refine z_bipush C dX12_takesDeputy_30 kb_40 ?_
      refine f_callVr C hl (As := [.int 1, .int 0, .int 40]) (rest := []) (c_mNm l B (zu s 123 0 (mV b n (tN b n q))) t b (by rw [zu_row _ _ (by decide)]; exact hb) n (by rw [zu_row _ _ (by decide)]; exact hn) h150 (tN b n (tN b n q)) (tN_le (tN_le hq)) 1 (by decide) 40) zb_113 (zg_12 zk_113) rfl (zCB (nA := 3) C rfl rfl tw_1057 tw_13 tw_1054 (by decide +kernel) ⟨Nat.le_of_ble_eq_true rfl, Nat.le_of_ble_eq_true rfl⟩) tw_1056 tp_50 rfl rfl (Nat.le_of_ble_eq_true rfl) dX12_takesDeputy_32 (Nat.zero_le _) ?_
      refine z_ifb_ne C 40 dX12_takesDeputy_35 (by decide) (fun h35 => ?_) (fun h35 => ?_)
      · obtain ⟨gg2, em2⟩ := mNm_t h35
        refine z_G (G2 := zg B (mT (zu (zu s 123 0 (mV b n (tN b n q))) 123 1 (mV b n (tN b n (tN b n q)))) b n (tN b n (tN b n (tN b n q)))) t) (by rw [em2]) ?_
        refine z_aload_n C dX12_takesDeputy_40 0 rfl rfl ?_
        refine f_get12 C 17 (v := .ref (B.1 + 122)) (by decide) tw_761 rfl zk_113 zb_113 rfl dX12_takesDeputy_41 ?_
        refine z_aload_n C dX12_takesDeputy_44 0 rfl rfl ?_
        refine f_get12 C 18 (v := .ref (B.1 + 123)) (by decide) tw_762 rfl zk_113 zb_113 rfl dX12_takesDeputy_45 ?_
        refine z_iconst C dX12_takesDeputy_48 ki_0 ?_
        refine f_ialdL C zk_123 zb_123 (by unfold vp_in; decide) (j := 0) (by decide) dX12_takesDeputy_49 ?_
        refine f_topi (y := mV b n (tN b n q)) (by rw [mT_row _ _ _ _ (by decide), zu_ne _ _ (by omega)]; exact zu_same _ _ _ _) ?_
        refine z_iconst C dX12_takesDeputy_50 ki_0 ?_
        refine z_iconst C dX12_takesDeputy_51 ki_0 ?_
        refine z_aload_n C dX12_takesDeputy_52 0 rfl rfl ?_
        refine f_get12 C 18 (v := .ref (B.1 + 123)) (by decide) tw_762 rfl zk_113 zb_113 rfl dX12_takesDeputy_53 ?_
        refine z_iconst C dX12_takesDeputy_56 ki_1 ?_
        refine f_ialdL C zk_123 zb_123 (by unfold vp_in; decide) (j := 1) (by decide) dX12_takesDeputy_57 ?_
        refine f_topi (y := mV b n (tN b n (tN b n q))) (by rw [mT_row _ _ _ _ (by decide)]; exact zu_same _ _ _ _) ?_
        have hN6 : N < 6 := Nat.lt_of_le_of_ne h6 (fun z => h8 (by rw [hN, z]; rfl))
        refine f_callSv C hl (As := [.ref (B.1 + 122), .int (mV b n (tN b n q)), .int 0, .int 0, .int (mV b n (tN b n (tN b n q)))]) (rest := []) (c_X12_layDeputy122 l B (mT (zu (zu s 123 0 (mV b n (tN b n q))) 123 1 (mV b n (tN b n (tN b n q)))) b n (tN b n (tN b n (tN b n q)))) t N hN6 (by rw [mT_row _ _ _ _ (by decide), zu_row _ _ (by decide), zu_row _ _ (by decide)]; exact hN) (mV b n (tN b n q)) 0 0 (mV b n (tN b n (tN b n q)))) (zCB (nA := 5) C rfl rfl tw_835 tw_13 tw_833 (by decide +kernel) ⟨Nat.le_of_ble_eq_true rfl, Nat.le_of_ble_eq_true rfl⟩) tw_834 rfl rfl (Nat.le_of_ble_eq_true rfl) dX12_takesDeputy_58 (Nat.zero_le _) ?_
        refine z_iconst C dX12_takesDeputy_61 ki_1 ?_
        refine z_zret C E rfl dX12_takesDeputy_62 rfl rfl (Nat.le_refl _) ⟨by rw [mDp2, if_neg h8, if_pos h24, if_pos h35]; rfl, congrArg (fun z => zg B z t) (by rw [mDp2, if_neg h8, if_pos h24, if_pos h35]; exact mT_lay _ _ _ _ _ _ _ _ _)⟩
      · refine z_iconst C dX12_takesDeputy_38 ki_0 ?_
        obtain ⟨gg2, em2⟩ := mNm_f h35
        refine z_zret C E rfl dX12_takesDeputy_39 rfl rfl (Nat.le_refl _) ⟨by rw [mDp2, if_neg h8, if_pos h24, if_neg (by rw [h35]; decide)]; rfl, by rw [em2, mDp2, if_neg h8, if_pos h24, if_neg (by rw [h35]; decide)]⟩
  · refine z_iconst C dX12_takesDeputy_11 ki_0 ?_
    refine z_zret C E rfl dX12_takesDeputy_12 rfl rfl (Nat.le_refl _) ⟨by rw [mDp2, if_pos h8]; rfl, by rw [mDp2, if_pos h8]⟩
