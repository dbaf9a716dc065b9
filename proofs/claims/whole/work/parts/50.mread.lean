theorem tN_ge {b : Nat → Int32} {n q : Nat} : q ≤ tN b n q := Nat.le_trans tE_ge (tEnd_ge b n 32 32 _)
theorem mLw_row (b : Nat → Int32) (n : Nat) {i : Nat} (hi : i ≠ 123) : ∀ (f q : Nat) (a : Int32) (s : zS), (mLw b n f q a s).2.2.1 i = s i := by
  intro f
  induction f with
  | zero => intro q a s; rfl
  | succ f ih =>
    intro q a s
    rw [mLw]
    split
    · split
      · rw [ih, zu_row _ _ hi]
      · rfl
    · rfl
theorem mLw_le (b : Nat → Int32) (n : Nat) : ∀ (f q : Nat) (a : Int32) (s : zS), q ≤ n → q ≤ (mLw b n f q a s).2.2.2 ∧ (mLw b n f q a s).2.2.2 ≤ n := by
  intro f
  induction f with
  | zero => intro q a s h; exact ⟨Nat.le_refl _, h⟩
  | succ f ih =>
    intro q a s h
    rw [mLw]
    split
    · split
      · exact ⟨Nat.le_trans tN_ge (ih _ _ _ (tN_le h)).1, (ih _ _ _ (tN_le h)).2⟩
      · exact ⟨Nat.le_refl _, h⟩
    · exact ⟨Nat.le_refl _, h⟩
theorem wLay122_row (s : zS) (N : Nat) (a b c d : Int32) {k : Nat} (h : k ≠ 122) : wLay122 s N a b c d k = s k := by
  rw [wLay122, zu_row _ _ h, zu_row _ _ h, zu_row _ _ h, zu_row _ _ h, zu_row _ _ h]
def mI (s : zS) (b : Nat → Int32) (n q : Nat) : Prop := s 121 = b ∧ s 113 12 = nI n ∧ q ≤ n ∧ ∃ N, N ≤ 6 ∧ s 122 0 = nI N
theorem mI_q {s : zS} {b : Nat → Int32} {n q q2 : Nat} (h : mI s b n q) (h2 : q2 ≤ n) : mI s b n q2 := ⟨h.1, h.2.1, h2, h.2.2.2⟩
theorem mI_zu {s : zS} {b : Nat → Int32} {n q k j : Nat} {x : Int32} (h : mI s b n q) (h1 : k ≠ 121) (h2 : k ≠ 113) (h3 : ¬ (122 = k ∧ 0 = j)) : mI (zu s k j x) b n q := ⟨by rw [zu_row _ _ (Ne.symm h1)]; exact h.1, by rw [zu_row _ _ (Ne.symm h2)]; exact h.2.1, h.2.2.1, by rw [zu_ne _ _ h3]; exact h.2.2.2⟩
theorem mI_lw {s : zS} {b : Nat → Int32} {n q f : Nat} {a : Int32} (h : mI s b n q) : mI (mLw b n f q a s).2.2.1 b n (mLw b n f q a s).2.2.2 := ⟨by rw [mLw_row b n (by decide)]; exact h.1, by rw [mLw_row b n (by decide)]; exact h.2.1, (mLw_le b n f q a s h.2.2.1).2, by rw [mLw_row b n (by decide)]; exact h.2.2.2⟩
def mFo (s : zS) (b : Nat → Int32) (n q : Nat) : Bool × zS × Nat :=
  ((mLw b n (n - tN b n q) (tN b n q) 0 s).1, if (mLw b n (n - tN b n q) (tN b n q) 0 s).1 = true then zu (mLw b n (n - tN b n q) (tN b n q) 0 s).2.2.1 122 2 (mLw b n (n - tN b n q) (tN b n q) 0 s).2.1 else (mLw b n (n - tN b n q) (tN b n q) 0 s).2.2.1, (mLw b n (n - tN b n q) (tN b n q) 0 s).2.2.2)
def mIt (s : zS) (b : Nat → Int32) (n q : Nat) : Bool × zS × Nat :=
  if tIs b n q 1 = true then mDp2 s b n q (s 122 0).toNatClampNeg
  else if tIs b n q 2 = true then mMi s b n q 1
  else if tIs b n q 3 = true then mMi s b n q 2
  else if tIs b n q 4 = true then mFo s b n q
  else (false, s, q)
theorem mDp2_I {s : zS} {b : Nat → Int32} {n q N : Nat} (h : mI s b n q) (hN : s 122 0 = nI N) (h6 : N ≤ 6) : mI (mDp2 s b n q N).2.1 b n (mDp2 s b n q N).2.2 ∧ q ≤ (mDp2 s b n q N).2.2 := by
  have hq := h.2.2.1
  unfold mDp2
  split
  · exact ⟨h, Nat.le_refl _⟩
  · next g =>
    have hN6 : N < 6 := Nat.lt_of_le_of_ne h6 (fun z => g (by rw [hN, z]; rfl))
    split
    · split
      · refine ⟨⟨?_, ?_, tN_le (tN_le (tN_le hq)), N + 1, by omega, ?_⟩, Nat.le_trans tN_ge (Nat.le_trans tN_ge tN_ge)⟩
        · dsimp only; rw [wLay122_row _ _ _ _ _ _ (by decide), zu_row _ _ (by decide), zu_row _ _ (by decide)]; exact h.1
        · dsimp only; rw [wLay122_row _ _ _ _ _ _ (by decide), zu_row _ _ (by decide), zu_row _ _ (by decide)]; exact h.2.1
        · dsimp only; rw [wLay122, zu_same]
      · exact ⟨mI_q (mI_zu h (by decide) (by decide) (by omega)) (tN_le (tN_le hq)), Nat.le_trans tN_ge tN_ge⟩
    · exact ⟨mI_q h (tN_le hq), tN_ge⟩
theorem mMi_I {s : zS} {b : Nat → Int32} {n q w : Nat} (h : mI s b n q) : mI (mMi s b n q w).2.1 b n (mMi s b n q w).2.2 ∧ q ≤ (mMi s b n q w).2.2 := by
  have hq := h.2.2.1
  have h1 : mI (zu s 123 0 (mV b n (tN b n q))) b n (tN b n (tN b n q)) := mI_q (mI_zu h (by decide) (by decide) (by omega)) (tN_le (tN_le hq))
  unfold mMi
  split
  · refine ⟨?_, Nat.le_trans (Nat.le_trans tN_ge tN_ge) (mLw_le b n _ _ _ _ (tN_le (tN_le hq))).1⟩
    dsimp only
    split
    · exact mI_zu (mI_lw h1) (by decide) (by decide) (by omega)
    · exact mI_lw h1
  · exact ⟨mI_q h (tN_le hq), tN_ge⟩
theorem mFo_I {s : zS} {b : Nat → Int32} {n q : Nat} (h : mI s b n q) : mI (mFo s b n q).2.1 b n (mFo s b n q).2.2 ∧ q ≤ (mFo s b n q).2.2 := by
  have hq := h.2.2.1
  have h1 : mI s b n (tN b n q) := mI_q h (tN_le hq)
  refine ⟨?_, Nat.le_trans tN_ge (mLw_le b n _ _ _ _ (tN_le hq)).1⟩
  unfold mFo
  dsimp only
  split
  · exact mI_zu (mI_lw h1) (by decide) (by decide) (by omega)
  · exact mI_lw h1
theorem mIt_I {s : zS} {b : Nat → Int32} {n q : Nat} (h : mI s b n q) : mI (mIt s b n q).2.1 b n (mIt s b n q).2.2 ∧ q ≤ (mIt s b n q).2.2 := by
  unfold mIt
  split
  · obtain ⟨N, h6, e⟩ := h.2.2.2
    exact mDp2_I h (by rw [e, nI_clamp (by omega)]) (by rw [e, nI_clamp (by omega)]; exact h6)
  · split
    · exact mMi_I h
    · split
      · exact mMi_I h
      · split
        · exact mFo_I h
        · exact ⟨h, Nat.le_refl _⟩
theorem mHou_I {s : zS} {b : Nat → Int32} {n q : Nat} (hb : s 121 = b) (hn : s 113 12 = nI n) (hq : q ≤ n) (h : (mHou s b n q).1 = true) : mI (mHou s b n q).2.1 b n (mHou s b n q).2.2 := by
  unfold mHou at h ⊢
  split at h
  · split at h
    · next g1 g2 =>
      rw [if_pos g1, if_pos g2]
      have e : ∀ (u : zS) (d : Int32) (k : Nat), k ≠ 122 → wBeg u 122 d k = u k := by
        intro u d k hk
        funext j
        simp [wBeg, wZero, zu, hk]
      refine ⟨?_, ?_, tN_le (tN_le hq), 0, by decide, ?_⟩
      · dsimp only; rw [e _ _ _ (by decide), zu_row _ _ (by decide)]; exact hb
      · dsimp only; rw [e _ _ _ (by decide), zu_row _ _ (by decide)]; exact hn
      · dsimp only
        simp [wBeg, wZero, zu]
        rfl
    · exact Bool.noConfusion (show false = true from h)
  · exact Bool.noConfusion (show false = true from h)
abbrev mX12_takesItem : zM := (yX12_takesItem, cX12_takesItem, 1, (some .boolean), { frames := 7, cells := 0, slots := 0, locals := 155 })
set_option maxRecDepth 100000 in
set_option maxHeartbeats 4000000 in
theorem c_X12_takesItem (l : Launch) (B : zB) (s : zS) (t : zL) (b : Nat → Int32) (n : Nat) (h150 : n ≤ 150) (q : Nat) (hI : mI s b n q) : zD l B mX12_takesItem (mT s b n q) t [.ref (B.1 + 113)] (some (.int (zi (mIt s b n q).1))) (mT (mIt s b n q).2.1 b n (mIt s b n q).2.2) t := by
  obtain ⟨hb, hn, hq, N, h6, hN⟩ := hI
  have hNc : (s 122 0).toNatClampNeg = N := by rw [hN, nI_clamp (by omega)]
  refine z_met (by decide) (Nat.le_of_ble_eq_true rfl) ?_
  intro X hl C E hnm
  show Zf X B mX12_takesItem (mT s b n q) t 0 [(0, .ref (B.1 + 113))] []
  refine z_aload_n C dX12_takesItem_0 0 rfl rfl ?_
  refine z_bipush C dX12_takesItem_1 kb_6 ?_
  refine z_bipush C dX12_takesItem_3 kb_100 ?_
  refine z_bipush C dX12_takesItem_5 kb_101 ?_
  refine z_bipush C dX12_takesItem_7 kb_112 ?_
  refine z_bipush C dX12_takesItem_9 kb_117 ?_
  refine z_bipush C dX12_takesItem_11 kb_116 ?_
  refine z_bipush C dX12_takesItem_13 kb_121 ?_
  refine f_callVr C hl (As := [.int 6, .int 100, .int 101, .int 112, .int 117, .int 116, .int 121]) (rest := []) (c_X12_spells1 l B s t b hb n hn h150 q hq) zb_113 (zg_12 zk_113) rfl (zCB (nA := 7) C rfl rfl tw_1049 tw_13 tw_1046 (by decide +kernel) ⟨Nat.le_of_ble_eq_true rfl, Nat.le_of_ble_eq_true rfl⟩) tw_1048 tp_48 rfl rfl (Nat.le_of_ble_eq_true rfl) dX12_takesItem_15 (Nat.zero_le _) ?_
  refine z_ifb_eq C 26 dX12_takesItem_18 (by decide) (fun h18 => ?_) (fun h18 => ?_)
  · refine z_aload_n C dX12_takesItem_26 0 rfl rfl ?_
    refine z_iconst C dX12_takesItem_27 ki_4 ?_
    refine z_bipush C dX12_takesItem_28 kb_108 ?_
    refine z_bipush C dX12_takesItem_30 kb_111 ?_
    refine z_bipush C dX12_takesItem_32 kb_118 ?_
    refine z_bipush C dX12_takesItem_34 kb_101 ?_
    refine z_iconst C dX12_takesItem_36 ki_0 ?_
    refine z_iconst C dX12_takesItem_37 ki_0 ?_
    refine f_callVr C hl (As := [.int 4, .int 108, .int 111, .int 118, .int 101, .int 0, .int 0]) (rest := []) (c_X12_spells2 l B s t b hb n hn h150 q hq) zb_113 (zg_12 zk_113) rfl (zCB (nA := 7) C rfl rfl tw_1049 tw_13 tw_1046 (by decide +kernel) ⟨Nat.le_of_ble_eq_true rfl, Nat.le_of_ble_eq_true rfl⟩) tw_1048 tp_48 rfl rfl (Nat.le_of_ble_eq_true rfl) dX12_takesItem_38 (Nat.zero_le _) ?_
    refine z_ifb_eq C 50 dX12_takesItem_41 (by decide) (fun h41 => ?_) (fun h41 => ?_)
    · refine z_aload_n C dX12_takesItem_50 0 rfl rfl ?_
      refine z_iconst C dX12_takesItem_51 ki_4 ?_
      refine z_bipush C dX12_takesItem_52 kb_104 ?_
      refine z_bipush C dX12_takesItem_54 kb_97 ?_
      refine z_bipush C dX12_takesItem_56 kb_116 ?_
      refine z_bipush C dX12_takesItem_58 kb_101 ?_
      refine z_iconst C dX12_takesItem_60 ki_0 ?_
      refine z_iconst C dX12_takesItem_61 ki_0 ?_
      refine f_callVr C hl (As := [.int 4, .int 104, .int 97, .int 116, .int 101, .int 0, .int 0]) (rest := []) (c_X12_spells3 l B s t b hb n hn h150 q hq) zb_113 (zg_12 zk_113) rfl (zCB (nA := 7) C rfl rfl tw_1049 tw_13 tw_1046 (by decide +kernel) ⟨Nat.le_of_ble_eq_true rfl, Nat.le_of_ble_eq_true rfl⟩) tw_1048 tp_48 rfl rfl (Nat.le_of_ble_eq_true rfl) dX12_takesItem_62 (Nat.zero_le _) ?_
      refine z_ifb_eq C 74 dX12_takesItem_65 (by decide) (fun h65 => ?_) (fun h65 => ?_)
      · refine z_aload_n C dX12_takesItem_74 0 rfl rfl ?_
        refine z_iconst C dX12_takesItem_75 ki_3 ?_
        refine z_bipush C dX12_takesItem_76 kb_108 ?_
        refine z_bipush C dX12_takesItem_78 kb_97 ?_
        refine z_bipush C dX12_takesItem_80 kb_119 ?_
        refine z_iconst C dX12_takesItem_82 ki_0 ?_
        refine z_iconst C dX12_takesItem_83 ki_0 ?_
        refine z_iconst C dX12_takesItem_84 ki_0 ?_
        refine f_callVr C hl (As := [.int 3, .int 108, .int 97, .int 119, .int 0, .int 0, .int 0]) (rest := []) (c_X12_spells4 l B s t b hb n hn h150 q hq) zb_113 (zg_12 zk_113) rfl (zCB (nA := 7) C rfl rfl tw_1049 tw_13 tw_1046 (by decide +kernel) ⟨Nat.le_of_ble_eq_true rfl, Nat.le_of_ble_eq_true rfl⟩) tw_1048 tp_48 rfl rfl (Nat.le_of_ble_eq_true rfl) dX12_takesItem_85 (Nat.zero_le _) ?_
        refine z_ifb_ne C 93 dX12_takesItem_88 (by decide) (fun h88 => ?_) (fun h88 => ?_)
        · refine z_aload_n C dX12_takesItem_93 0 rfl rfl ?_
          refine f_callVv C hl (As := []) (rest := []) (c_X12_goBehind l B s t b hb n hn h150 q hq) zb_113 (zg_12 zk_113) rfl (zCB (nA := 0) C rfl rfl tw_1053 tw_13 tw_1050 (by decide +kernel) ⟨Nat.le_of_ble_eq_true rfl, Nat.le_of_ble_eq_true rfl⟩) tw_1052 tp_49 rfl rfl (Nat.le_of_ble_eq_true rfl) dX12_takesItem_94 (Nat.zero_le _) ?_
          refine z_aload_n C dX12_takesItem_97 0 rfl rfl ?_
          refine z_iconst C dX12_takesItem_98 ki_2 ?_
          refine f_callVr C hl (As := [.int 2]) (rest := []) (c_X12_takesLaws l B s t b hb n hn h150 (tN b n q) (tN_le hq) 2 (by decide) 2 rfl) zb_113 (zg_12 zk_113) rfl (zCB (nA := 1) C rfl rfl tw_1073 tw_13 tw_1070 (by decide +kernel) ⟨Nat.le_of_ble_eq_true rfl, Nat.le_of_ble_eq_true rfl⟩) tw_1072 tp_54 rfl rfl (Nat.le_of_ble_eq_true rfl) dX12_takesItem_99 (Nat.zero_le _) ?_
          refine z_zret C E rfl dX12_takesItem_102 (zi_nar _) rfl (Nat.le_refl _) ⟨by rw [mIt, if_neg (show ¬ tIs b n q 1 = true by rw [h18]; decide), if_neg (show ¬ tIs b n q 2 = true by rw [h41]; decide), if_neg (show ¬ tIs b n q 3 = true by rw [h65]; decide), if_pos h88, mFo], by rw [mIt, if_neg (show ¬ tIs b n q 1 = true by rw [h18]; decide), if_neg (show ¬ tIs b n q 2 = true by rw [h41]; decide), if_neg (show ¬ tIs b n q 3 = true by rw [h65]; decide), if_pos h88, mFo]⟩
        · refine z_iconst C dX12_takesItem_91 ki_0 ?_
          refine z_zret C E rfl dX12_takesItem_92 rfl rfl (Nat.le_refl _) ⟨by rw [mIt, if_neg (show ¬ tIs b n q 1 = true by rw [h18]; decide), if_neg (show ¬ tIs b n q 2 = true by rw [h41]; decide), if_neg (show ¬ tIs b n q 3 = true by rw [h65]; decide), if_neg (show ¬ tIs b n q 4 = true by rw [h88]; decide)]; rfl, by rw [mIt, if_neg (show ¬ tIs b n q 1 = true by rw [h18]; decide), if_neg (show ¬ tIs b n q 2 = true by rw [h41]; decide), if_neg (show ¬ tIs b n q 3 = true by rw [h65]; decide), if_neg (show ¬ tIs b n q 4 = true by rw [h88]; decide)]⟩
      · refine z_aload_n C dX12_takesItem_68 0 rfl rfl ?_
        refine z_iconst C dX12_takesItem_69 ki_2 ?_
        refine f_callVr C hl (As := [.int 2]) (rest := []) (c_X12_takesMind2 l B s t b hb n hn h150 q hq N hN h6) zb_113 (zg_12 zk_113) rfl (zCB (nA := 1) C rfl rfl tw_1069 tw_13 tw_1066 (by decide +kernel) ⟨Nat.le_of_ble_eq_true rfl, Nat.le_of_ble_eq_true rfl⟩) tw_1068 tp_53 rfl rfl (Nat.le_of_ble_eq_true rfl) dX12_takesItem_70 (Nat.zero_le _) ?_
        refine z_zret C E rfl dX12_takesItem_73 (zi_nar _) rfl (Nat.le_refl _) ⟨by rw [mIt, if_neg (show ¬ tIs b n q 1 = true by rw [h18]; decide), if_neg (show ¬ tIs b n q 2 = true by rw [h41]; decide), if_pos h65], by rw [mIt, if_neg (show ¬ tIs b n q 1 = true by rw [h18]; decide), if_neg (show ¬ tIs b n q 2 = true by rw [h41]; decide), if_pos h65]⟩
    · refine z_aload_n C dX12_takesItem_44 0 rfl rfl ?_
      refine z_iconst C dX12_takesItem_45 ki_1 ?_
      refine f_callVr C hl (As := [.int 1]) (rest := []) (c_X12_takesMind1 l B s t b hb n hn h150 q hq N hN h6) zb_113 (zg_12 zk_113) rfl (zCB (nA := 1) C rfl rfl tw_1069 tw_13 tw_1066 (by decide +kernel) ⟨Nat.le_of_ble_eq_true rfl, Nat.le_of_ble_eq_true rfl⟩) tw_1068 tp_53 rfl rfl (Nat.le_of_ble_eq_true rfl) dX12_takesItem_46 (Nat.zero_le _) ?_
      refine z_zret C E rfl dX12_takesItem_49 (zi_nar _) rfl (Nat.le_refl _) ⟨by rw [mIt, if_neg (show ¬ tIs b n q 1 = true by rw [h18]; decide), if_pos h41], by rw [mIt, if_neg (show ¬ tIs b n q 1 = true by rw [h18]; decide), if_pos h41]⟩
  · refine z_aload_n C dX12_takesItem_21 0 rfl rfl ?_
    refine f_callVr C hl (As := []) (rest := []) (c_X12_takesDeputy l B s t b hb n hn h150 q hq N hN h6) zb_113 (zg_12 zk_113) rfl (zCB (nA := 0) C rfl rfl tw_1065 tw_13 tw_1062 (by decide +kernel) ⟨Nat.le_of_ble_eq_true rfl, Nat.le_of_ble_eq_true rfl⟩) tw_1064 tp_52 rfl rfl (Nat.le_of_ble_eq_true rfl) dX12_takesItem_22 (Nat.zero_le _) ?_
    refine z_zret C E rfl dX12_takesItem_25 (zi_nar _) rfl (Nat.le_refl _) ⟨by rw [mIt, if_pos h18, hNc], by rw [mIt, if_pos h18, hNc]⟩
abbrev mX12_read : zM := (yX12_read, cX12_read, 3, (some .int), { frames := 8, cells := 0, slots := 0, locals := 175 })
def mLp (b : Nat → Int32) (n : Nat) : Nat → Nat → zS → Nat → Int32 × Bool × zS × Nat
  | 0, i, s, q => (nI i, true, s, q)
  | f + 1, i, s, q => if tK b n q = 0 then (nI i, true, s, q) else if (mIt s b n q).1 = true ∧ tK b n (mIt s b n q).2.2 = 3 then mLp b n f (i + 1) (mIt s b n q).2.1 (tN b n (mIt s b n q).2.2) else (-10 - nI (mIt s b n q).2.2, false, (mIt s b n q).2)
def mRd (s : zS) (b : Nat → Int32) (n : Nat) : Int32 × Bool × zS × Nat :=
  if (mHou s b n (tA b n 0)).1 = true then mLp b n n 1 (mHou s b n (tA b n 0)).2.1 (tN b n (mHou s b n (tA b n 0)).2.2) else (-10 - nI (mHou s b n (tA b n 0)).2.2, false, (mHou s b n (tA b n 0)).2)
def mRs (b : Nat → Int32) (n : Nat) (r : Int32 × Bool × zS × Nat) : zS := if r.2.1 = true then wMv (mT r.2.2.1 b n r.2.2.2) 114 0 122 0 57 else mT r.2.2.1 b n r.2.2.2
set_option maxRecDepth 100000 in
set_option maxHeartbeats 4000000 in
theorem l_X12_readc {l : Launch} {B : zB} {s : zS} {t : zL} {X : zX} (hl : X.2.1 = l) (C : zC X B mX12_read) (y : Int32) (E : zE X B mX12_read 124 0 0 (zR B (some (.int y)) (wMv s 114 0 122 0 57) t)) : ∀ (m : Nat) (i : Nat), i + m = 57 → Zf X B mX12_read (wMv s 114 0 122 0 i) t 68 [(2, .int (nI i)), (0, .ref (B.1 + 113)), (1, .int y)] [] := by
  intro m
  induction m with
  | zero =>
    intro i hi
    obtain rfl : i = 57 := by omega
    refine z_iload_n C dX12_read_68 0 rfl rfl ?_
    refine z_bipush C dX12_read_69 kb_57 ?_
    refine z_icmp_ge C 92 dX12_read_71 (by decide) (fun _ => ?_) (fun hbr => absurd (by decide) hbr)
    refine z_iload_n C dX12_read_92 2 rfl rfl ?_
    refine z_iret C E rfl dX12_read_93 rfl (Nat.le_refl _) ⟨rfl, rfl⟩
  | succ m ih =>
    intro i hi0
    have hi : i < 57 := by omega
    refine z_iload_n C dX12_read_68 0 rfl rfl ?_
    refine z_bipush C dX12_read_69 kb_57 ?_
    refine z_icmp_ge C 92 dX12_read_71 (by decide) (fun hbr => absurd hbr (show ¬ nI 57 ≤ nI i from nI_ge hi (by decide))) (fun _ => ?_)
    refine z_aload_n C dX12_read_74 1 rfl rfl ?_
    refine f_get12 C 0 (v := .ref (B.1 + 114)) (by decide) tw_744 rfl zk_113 zb_113 rfl dX12_read_75 ?_
    refine z_iload_n C dX12_read_78 0 rfl rfl ?_
    refine z_aload_n C dX12_read_79 1 rfl rfl ?_
    refine f_get12 C 17 (v := .ref (B.1 + 122)) (by decide) tw_761 rfl zk_113 zb_113 rfl dX12_read_80 ?_
    refine z_iload_n C dX12_read_83 0 rfl rfl ?_
    refine f_ialdL C zk_122 zb_122 (ixN (n := 57) rfl (by omega) (by decide)).1 (j := (0 + i)) (by rw [Nat.zero_add]; exact (ixN (n := 57) rfl (by omega) (by decide)).2) dX12_read_84 ?_
    refine f_iastL C zk_114 zb_114 (ixN (n := 105) rfl (by omega) (by decide)).1 (j := (0 + i)) (by rw [Nat.zero_add]; exact (ixN (n := 105) rfl (by omega) (by decide)).2) dX12_read_85 ?_
    refine z_iinc C [(2, .int (nI (i + 1))), (0, .ref (B.1 + 113)), (1, .int y)] dX12_read_86 0 rfl (nI_inc i) (by decide) rfl ?_
    refine z_goto C 68 dX12_read_89 (by decide) ?_
    refine z_G (congrArg (fun z => zg B z t) (wMv_s s 114 0 122 0 i (by decide))) ?_
    exact z_lv [0, 1, 2] rfl (ih (i + 1) (by omega))
set_option maxRecDepth 100000 in
set_option maxHeartbeats 4000000 in
theorem l_X12_read {l : Launch} {B : zB} {t : zL} {X : zX} (hl : X.2.1 = l) (C : zC X B mX12_read) (b : Nat → Int32) (n : Nat) (h150 : n ≤ 150) (r : Int32 × Bool × zS × Nat) (E : zE X B mX12_read 124 0 0 (zR B (some (.int r.1)) (mRs b n r) t)) : ∀ (m : Nat) (i : Nat) (s : zS) (q : Nat), n - q ≤ m → mI s b n q → mLp b n m i s q = r → Zf X B mX12_read (mT s b n q) t 26 [(1, .int (nI i)), (0, .ref (B.1 + 113))] [] := by
  intro m
  induction m with
  | zero =>
    intro i s q hm hI hr
    have hq := hI.2.2.1
    refine z_aload_n C dX12_read_26 1 rfl rfl ?_
    refine f_get12 C 15 (v := .int ((mT s b n q) 113 15)) (by decide) tw_759 rfl zk_113 zb_113 rfl dX12_read_27 ?_
    refine f_topi (y := tK b n q) (mT_15 _ _ _ _) ?_
    refine z_if_eq C 66 dX12_read_30 (by decide) (fun _ => ?_) (fun hbr => absurd (by rw [tK, if_pos (by omega)]) hbr)
    refine z_iconst C dX12_read_66 ki_0 ?_
    refine z_istore_n C [(2, .int 0), (1, .int (nI i)), (0, .ref (B.1 + 113))] dX12_read_67 rfl (by decide) rfl ?_
    have E2 : zE X B mX12_read 124 0 0 (zR B (some (.int (nI i))) (wMv (mT s b n q) 114 0 122 0 57) t) := by rw [← hr, mLp] at E; exact E
    refine z_G (congrArg (fun z => zg B z t) (wMv_0 _ 114 0 122 0).symm) ?_
    exact z_lv [0, 2, 1] rfl (l_X12_readc hl C _ E2 57 0 (by omega))
  | succ m ih =>
    intro i s q hm hI hr
    refine z_aload_n C dX12_read_26 1 rfl rfl ?_
    refine f_get12 C 15 (v := .int ((mT s b n q) 113 15)) (by decide) tw_759 rfl zk_113 zb_113 rfl dX12_read_27 ?_
    refine f_topi (y := tK b n q) (mT_15 _ _ _ _) ?_
    refine z_if_eq C 66 dX12_read_30 (by decide) (fun h30 => ?_) (fun h30 => ?_)
    · refine z_iconst C dX12_read_66 ki_0 ?_
      refine z_istore_n C [(2, .int 0), (1, .int (nI i)), (0, .ref (B.1 + 113))] dX12_read_67 rfl (by decide) rfl ?_
      have E2 : zE X B mX12_read 124 0 0 (zR B (some (.int (nI i))) (wMv (mT s b n q) 114 0 122 0 57) t) := by rw [← hr, mLp, if_pos h30] at E; exact E
      refine z_G (congrArg (fun z => zg B z t) (wMv_0 _ 114 0 122 0).symm) ?_
      exact z_lv [0, 2, 1] rfl (l_X12_readc hl C _ E2 57 0 (by omega))
    · refine z_aload_n C dX12_read_33 1 rfl rfl ?_
      refine f_callVr C hl (As := []) (rest := []) (c_X12_takesItem l B s t b n h150 q hI) zb_113 (zg_12 zk_113) rfl (zCB (nA := 0) C rfl rfl tw_1061 tw_13 tw_1058 (by decide +kernel) ⟨Nat.le_of_ble_eq_true rfl, Nat.le_of_ble_eq_true rfl⟩) tw_1060 tp_51 rfl rfl (Nat.le_of_ble_eq_true rfl) dX12_read_34 (Nat.zero_le _) ?_
      refine z_ifb_eq C 48 dX12_read_37 (by decide) (fun h37 => ?_) (fun h37 => ?_)
      · refine z_bipush C dX12_read_48 kb_m10 ?_
        refine z_aload_n C dX12_read_50 1 rfl rfl ?_
        refine f_get12 C 13 (v := .int ((mT (mIt s b n q).2.1 b n (mIt s b n q).2.2) 113 13)) (by decide) tw_757 rfl zk_113 zb_113 rfl dX12_read_51 ?_
        refine f_topi (y := nI (mIt s b n q).2.2) (mT_13 _ _ _ _) ?_
        refine z_isub C dX12_read_54 ?_
        refine z_iret C E rfl dX12_read_55 rfl (Nat.le_refl _) ⟨by rw [← hr, mLp, if_neg h30, if_neg (fun z => by rw [z.1] at h37; exact Bool.noConfusion h37)], by rw [← hr, mLp, if_neg h30, if_neg (fun z => by rw [z.1] at h37; exact Bool.noConfusion h37)]; rfl⟩
      · refine z_aload_n C dX12_read_40 1 rfl rfl ?_
        refine f_get12 C 15 (v := .int ((mT (mIt s b n q).2.1 b n (mIt s b n q).2.2) 113 15)) (by decide) tw_759 rfl zk_113 zb_113 rfl dX12_read_41 ?_
        refine f_topi (y := tK b n (mIt s b n q).2.2) (mT_15 _ _ _ _) ?_
        refine z_iconst C dX12_read_44 ki_3 ?_
        refine z_icmp_eq C 56 dX12_read_45 (by decide) (fun h45 => ?_) (fun h45 => ?_)
        · refine z_aload_n C dX12_read_56 1 rfl rfl ?_
          refine f_callVv C hl (As := []) (rest := []) (c_X12_goBehind l B (mIt s b n q).2.1 t b (mIt_I hI).1.1 n (mIt_I hI).1.2.1 h150 (mIt s b n q).2.2 (mIt_I hI).1.2.2.1) zb_113 (zg_12 zk_113) rfl (zCB (nA := 0) C rfl rfl tw_1053 tw_13 tw_1050 (by decide +kernel) ⟨Nat.le_of_ble_eq_true rfl, Nat.le_of_ble_eq_true rfl⟩) tw_1052 tp_49 rfl rfl (Nat.le_of_ble_eq_true rfl) dX12_read_57 (Nat.zero_le _) ?_
          refine z_iinc C [(1, .int (nI (i + 1))), (0, .ref (B.1 + 113))] dX12_read_60 0 rfl (nI_inc i) (by decide) rfl ?_
          refine z_goto C 26 dX12_read_63 (by decide) ?_
          have hq2 : (mIt s b n q).2.2 < n := Classical.byContradiction fun z => by rw [tK, if_pos (by omega)] at h45; exact absurd h45 (by decide)
          have hq3 := (mIt_I hI).2
          have hq4 := tN_gt (b := b) hq2
          exact z_lv [0, 1] rfl (ih (i + 1) _ _ (by omega) (mI_q (mIt_I hI).1 (tN_le (mIt_I hI).1.2.2.1)) (by rw [← hr, mLp, if_neg h30, if_pos ⟨h37, h45⟩]))
        · refine z_bipush C dX12_read_48 kb_m10 ?_
          refine z_aload_n C dX12_read_50 1 rfl rfl ?_
          refine f_get12 C 13 (v := .int ((mT (mIt s b n q).2.1 b n (mIt s b n q).2.2) 113 13)) (by decide) tw_757 rfl zk_113 zb_113 rfl dX12_read_51 ?_
          refine f_topi (y := nI (mIt s b n q).2.2) (mT_13 _ _ _ _) ?_
          refine z_isub C dX12_read_54 ?_
          refine z_iret C E rfl dX12_read_55 rfl (Nat.le_refl _) ⟨by rw [← hr, mLp, if_neg h30, if_neg (fun z => h45 z.2)], by rw [← hr, mLp, if_neg h30, if_neg (fun z => h45 z.2)]; rfl⟩
set_option maxRecDepth 100000 in
set_option maxHeartbeats 4000000 in
theorem c_X12_read (l : Launch) (B : zB) (s : zS) (t : zL) (b : Nat → Int32) (hb : s 121 = b) (n : Nat) (hn : s 113 12 = nI n) (h150 : n ≤ 150) : zD l B mX12_read s t [.ref (B.1 + 113)] (some (.int ((mRd s b n).1))) (mRs b n (mRd s b n)) t := by
  refine z_met (by decide) (Nat.le_of_ble_eq_true rfl) ?_
  intro X hl C E hnm
  show Zf X B mX12_read s t 0 [(0, .ref (B.1 + 113))] []
  refine z_aload_n C dX12_read_0 0 rfl rfl ?_
  refine z_iconst C dX12_read_1 ki_0 ?_
  have hlk := c_X12_lookAt l B s t b hb n hn h150 0 (Nat.zero_le _) (s 113 13) (s 113 14) (s 113 15) (s 113 16)
  rw [mTf_self] at hlk
  refine f_callVv C hl (As := [.int 0]) (rest := []) hlk zb_113 (zg_12 zk_113) rfl (zCB (nA := 1) C rfl rfl tw_1031 tw_13 tw_1028 (by decide +kernel) ⟨Nat.le_of_ble_eq_true rfl, Nat.le_of_ble_eq_true rfl⟩) tw_1030 tp_46 rfl rfl (Nat.le_of_ble_eq_true rfl) dX12_read_2 (Nat.zero_le _) ?_
  refine z_aload_n C dX12_read_5 0 rfl rfl ?_
  refine f_callVr C hl (As := []) (rest := []) (c_X12_takesHouse l B s t b hb n hn h150 (tA b n 0) (tA_le (Nat.zero_le _))) zb_113 (zg_12 zk_113) rfl (zCB (nA := 0) C rfl rfl tw_1045 tw_13 tw_1042 (by decide +kernel) ⟨Nat.le_of_ble_eq_true rfl, Nat.le_of_ble_eq_true rfl⟩) tw_1044 tp_47 rfl rfl (Nat.le_of_ble_eq_true rfl) dX12_read_6 (Nat.zero_le _) ?_
  refine z_ifb_ne C 20 dX12_read_9 (by decide) (fun h9 => ?_) (fun h9 => ?_)
  · refine z_aload_n C dX12_read_20 0 rfl rfl ?_
    have hI := mHou_I hb hn (tA_le (Nat.zero_le _)) h9
    refine f_callVv C hl (As := []) (rest := []) (c_X12_goBehind l B (mHou s b n (tA b n 0)).2.1 t b hI.1 n hI.2.1 h150 (mHou s b n (tA b n 0)).2.2 hI.2.2.1) zb_113 (zg_12 zk_113) rfl (zCB (nA := 0) C rfl rfl tw_1053 tw_13 tw_1050 (by decide +kernel) ⟨Nat.le_of_ble_eq_true rfl, Nat.le_of_ble_eq_true rfl⟩) tw_1052 tp_49 rfl rfl (Nat.le_of_ble_eq_true rfl) dX12_read_21 (Nat.zero_le _) ?_
    refine z_iconst C dX12_read_24 ki_1 ?_
    refine z_istore_n C [(1, .int 1), (0, .ref (B.1 + 113))] dX12_read_25 rfl (by decide) rfl ?_
    exact z_lv [0, 1] rfl (l_X12_read hl C b n h150 _ E n 1 _ _ (by omega) (mI_q hI (tN_le hI.2.2.1)) (by rw [mRd, if_pos h9]))
  · refine z_bipush C dX12_read_12 kb_m10 ?_
    refine z_aload_n C dX12_read_14 0 rfl rfl ?_
    refine f_get12 C 13 (v := .int ((mT (mHou s b n (tA b n 0)).2.1 b n (mHou s b n (tA b n 0)).2.2) 113 13)) (by decide) tw_757 rfl zk_113 zb_113 rfl dX12_read_15 ?_
    refine f_topi (y := nI (mHou s b n (tA b n 0)).2.2) (mT_13 _ _ _ _) ?_
    refine z_isub C dX12_read_18 ?_
    refine z_iret C E rfl dX12_read_19 rfl (Nat.le_refl _) ⟨by rw [mRd, if_neg (by rw [h9]; decide)], by rw [mRd, if_neg (by rw [h9]; decide)]; rfl⟩
