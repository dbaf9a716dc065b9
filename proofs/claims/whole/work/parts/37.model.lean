def mYes (s : zS) (d : Nat) (w b : Int32) (k : Nat) : Int32 := zi (wHas w (nI k) && wStop (nI k) (mL s d) (mH s d) b (s 114 6))
def mGr (w y : Int32) : Int32 := if 2 * y ≤ wPop w then wPop w - y else y
def mTg (s : zS) (d : Nat) (w : Int32) (n : Nat) : Int32 := mGr w (wAdd (mYes s d w (nI n)) 6)
theorem wAdd_c {f : Nat → Int32} {n : Nat} {y c : Int32} (hy : y = wAdd f n) (h : c = f n) : y + c = wAdd f (n + 1) := by rw [wAdd, hy, h]
theorem r8_nle {x : Int32} (h : r8 x) (g : ¬ x = 0) : ¬ x ≤ 0 := by
  obtain ⟨n, hn, e⟩ := r8_ex h
  intro q
  rw [e] at q g
  by_cases h0 : n = 0
  · subst h0; exact g rfl
  · exact nI_ge (show 0 < n by omega) (by omega) q
abbrev mX12_tryNext : zM := (yX12_tryNext, cX12_tryNext, 8, (some .int), { frames := 5, cells := 0, slots := 0, locals := 116 })
set_option maxRecDepth 100000 in
set_option maxHeartbeats 4000000 in
theorem c_X12_tryNext_bad (l : Launch) (B : zB) (s : zS) (t : zL) (x : Int32) (g : wIn x (s 114 0 - 1) = false) : zD l B mX12_tryNext s t [.ref (B.1 + 113), .int x] (some (.int (-2))) (zu s 117 0 (s 117 0 + 1)) t := by
  refine z_met (by decide) (Nat.le_of_ble_eq_true rfl) ?_
  intro X hl C E hnm
  show Zf X B mX12_tryNext s t 0 [(0, .ref (B.1 + 113)), (1, .int x)] []
  refine z_aload_n C dX12_tryNext_0 0 rfl rfl ?_
  refine z_iload_n C dX12_tryNext_1 1 rfl rfl ?_
  refine f_callVr C hl (As := [.int x]) (rest := []) (c_X12_isDeputy l B s t x) zb_113 (zg_12 zk_113) rfl (zCB (nA := 1) C rfl rfl tw_893 tw_13 tw_890 (by decide +kernel) ⟨Nat.le_of_ble_eq_true rfl, Nat.le_of_ble_eq_true rfl⟩) tw_892 tp_38 rfl rfl (Nat.le_of_ble_eq_true rfl) dX12_tryNext_2 (Nat.zero_le _) ?_
  refine z_ifb_ne C 15 dX12_tryNext_5 (by decide) (fun hbr => absurd hbr (by rw [g]; decide)) (fun _ => ?_)
  refine z_aload_n C dX12_tryNext_8 0 rfl rfl ?_
  refine z_bipush C dX12_tryNext_9 kb_m2 ?_
  refine f_callVr C hl (As := [.int (-2)]) (rest := []) (c_X12_bad l B s t (-2)) zb_113 (zg_12 zk_113) rfl (zCB (nA := 1) C rfl rfl tw_814 tw_13 tw_811 (by decide +kernel) ⟨Nat.le_of_ble_eq_true rfl, Nat.le_of_ble_eq_true rfl⟩) tw_813 tp_26 rfl rfl (Nat.le_of_ble_eq_true rfl) dX12_tryNext_11 (Nat.zero_le _) ?_
  refine z_iret C E rfl dX12_tryNext_14 rfl (Nat.le_refl _) ⟨rfl, rfl⟩
set_option maxRecDepth 100000 in
set_option maxHeartbeats 4000000 in
theorem c_X12_tryNext_none (l : Launch) (B : zB) (s : zS) (t : zL) (N : Nat) (mo : mOk s N) (d : Nat) (hd0 : d < N) (M : Nat) (hM : s 114 7 = nI M) (hM6 : M ≤ 6) (hB : ∀ n, n < M → r8 (s 114 (33 + 4 * n + 1))) (g : wIn (nI d) (s 114 0 - 1) = true) (g2 : wCol (fun c => mFit (s 114) (nI d) (nI c) (mL s d) (mH s d) M) 6 = 0) : zD l B mX12_tryNext s t [.ref (B.1 + 113), .int (nI d)] (some (.int (-1))) (zu (wHand s N) 118 d 5) t := by
  refine z_met (by decide) (Nat.le_of_ble_eq_true rfl) ?_
  intro X hl C E hnm
  show Zf X B mX12_tryNext s t 0 [(0, .ref (B.1 + 113)), (1, .int (nI d))] []
  refine z_aload_n C dX12_tryNext_0 0 rfl rfl ?_
  refine z_iload_n C dX12_tryNext_1 1 rfl rfl ?_
  refine f_callVr C hl (As := [.int (nI d)]) (rest := []) (c_X12_isDeputy l B s t (nI d)) zb_113 (zg_12 zk_113) rfl (zCB (nA := 1) C rfl rfl tw_893 tw_13 tw_890 (by decide +kernel) ⟨Nat.le_of_ble_eq_true rfl, Nat.le_of_ble_eq_true rfl⟩) tw_892 tp_38 rfl rfl (Nat.le_of_ble_eq_true rfl) dX12_tryNext_2 (Nat.zero_le _) ?_
  refine z_ifb_ne C 15 dX12_tryNext_5 (by decide) (fun _ => ?_) (fun hbr => Bool.noConfusion (show false = true from hbr.symm.trans g))
  refine z_aload_n C dX12_tryNext_15 0 rfl rfl ?_
  refine z_iload_n C dX12_tryNext_16 1 rfl rfl ?_
  refine f_callVr C hl (As := [.int (nI d)]) (rest := []) (c_X12_kindsOf l B s t N mo d hd0 M hM hM6 hB) zb_113 (zg_12 zk_113) rfl (zCB (nA := 1) C rfl rfl tw_980 tw_13 tw_977 (by decide +kernel) ⟨Nat.le_of_ble_eq_true rfl, Nat.le_of_ble_eq_true rfl⟩) tw_979 tp_43 rfl rfl (Nat.le_of_ble_eq_true rfl) dX12_tryNext_17 (Nat.zero_le _) ?_
  refine z_istore_n C [(2, .int (wCol (fun c => mFit (s 114) (nI d) (nI c) (mL s d) (mH s d) M) 6)), (0, .ref (B.1 + 113)), (1, .int (nI d))] dX12_tryNext_20 rfl (by decide) rfl ?_
  refine z_iconst C dX12_tryNext_21 ki_m1 ?_
  refine z_istore_n C [(3, .int (-1)), (2, .int (wCol (fun c => mFit (s 114) (nI d) (nI c) (mL s d) (mH s d) M) 6)), (0, .ref (B.1 + 113)), (1, .int (nI d))] dX12_tryNext_22 rfl (by decide) rfl ?_
  refine z_ldc C dX12_tryNext_23 tw_994 ?_
  refine z_istore C [(4, .int 1000000), (3, .int (-1)), (2, .int (wCol (fun c => mFit (s 114) (nI d) (nI c) (mL s d) (mH s d) M) 6)), (0, .ref (B.1 + 113)), (1, .int (nI d))] dX12_tryNext_25 (by decide) rfl ?_
  refine z_iconst C dX12_tryNext_27 ki_1 ?_
  refine z_istore C [(5, .int 1), (4, .int 1000000), (3, .int (-1)), (2, .int (wCol (fun c => mFit (s 114) (nI d) (nI c) (mL s d) (mH s d) M) 6)), (0, .ref (B.1 + 113)), (1, .int (nI d))] dX12_tryNext_28 (by decide) rfl ?_
  refine z_iload C dX12_tryNext_30 0 rfl ?_
  refine z_sipush C dX12_tryNext_32 ks_255 ?_
  refine z_icmp_gt C 159 dX12_tryNext_35 (by decide) (fun hbr => absurd hbr (by decide)) (fun _ => ?_)
  refine z_iload_n C dX12_tryNext_38 3 rfl rfl ?_
  refine z_if_le C 159 dX12_tryNext_39 (by decide) (fun _ => ?_) (fun hbr => absurd (by rw [g2]; decide) hbr)
  refine z_iload_n C dX12_tryNext_159 2 rfl rfl ?_
  refine z_iret C E rfl dX12_tryNext_160 rfl (Nat.le_refl _) ⟨rfl, rfl⟩
set_option maxRecDepth 100000 in
set_option maxHeartbeats 4000000 in
theorem l_X12_tryNext_a {l : Launch} {B : zB} {s : zS} {t : zL} {X : zX} (hl : X.2.1 = l) (C : zC X B mX12_tryNext) (N : Nat) (mo : mOk s N) (h6 : N ≤ 6) (d : Nat) (hd0 : d < N) (w : Int32) (hw : r8 w) (b : Nat) (hb : b < 255) (a c : Int32) (kk : Zf X B mX12_tryNext (zu (wHand s N) 118 d 5) t 98 [(6, .int (wAdd (mYes s d w (nI (b + 1))) 6)), (5, .int (nI (b + 1))), (4, .int c), (3, .int a), (2, .int w), (0, .ref (B.1 + 113)), (1, .int (nI d))] []) (E : zE X B mX12_tryNext 124 0 0 (zR B (some (.int ((wTry (mTg s d w) 1000000 255).1))) (zu (wHand s N) 118 d 5) t)) : ∀ (m : Nat) (i : Nat) (y v : Int32), i + m = 6 → y = wAdd (mYes s d w (nI (b + 1))) i → (0 < i → v = nI (i - 1)) → Zf X B mX12_tryNext (zu (wHand s N) 118 d v) t 48 [(7, .int (nI i)), (6, .int y), (5, .int (nI (b + 1))), (4, .int c), (3, .int a), (2, .int w), (0, .ref (B.1 + 113)), (1, .int (nI d))] [] := by
  intro m
  induction m with
  | zero =>
    intro i y v hi hy hv
    obtain rfl : i = 6 := by omega
    refine z_iload C dX12_tryNext_48 0 rfl ?_
    refine z_bipush C dX12_tryNext_50 kb_6 ?_
    refine z_icmp_ge C 98 dX12_tryNext_52 (by decide) (fun _ => ?_) (fun hbr => absurd (by decide) hbr)
    rw [hv (by decide)]
    exact z_lv [1, 2, 3, 4, 5, 6, 7] rfl (hy ▸ kk)
  | succ m ih =>
    intro i y v hi0 hy hv
    have hi : i < 6 := by omega
    refine z_iload C dX12_tryNext_48 0 rfl ?_
    refine z_bipush C dX12_tryNext_50 kb_6 ?_
    refine z_icmp_ge C 98 dX12_tryNext_52 (by decide) (fun hbr => absurd hbr (show ¬ nI 6 ≤ nI i from nI_ge hi (by decide))) (fun _ => ?_)
    refine z_aload_n C dX12_tryNext_55 6 rfl rfl ?_
    refine f_get12 C 6 (v := .ref (B.1 + 118)) (by decide) tw_750 rfl zk_113 zb_113 rfl dX12_tryNext_56 ?_
    refine z_iload_n C dX12_tryNext_59 7 rfl rfl ?_
    refine z_iload C dX12_tryNext_60 0 rfl ?_
    refine f_iastL C zk_118 zb_118 (ixN (n := 6) rfl (by omega) (by decide)).1 (j := d) (ixN (n := 6) rfl (by omega) (by decide)).2 dX12_tryNext_62 ?_
    refine z_G (congrArg (fun z => zg B z t) (zu_zu _ 118 d _ _)) ?_
    refine z_iload C dX12_tryNext_63 1 rfl ?_
    refine z_iload_n C dX12_tryNext_65 5 rfl rfl ?_
    refine z_iload C dX12_tryNext_66 0 rfl ?_
    refine f_callSr C hl (As := [.int w, .int (nI i)]) (rest := [.int y]) (c_X12_has l B (zu (wHand s N) 118 d (nI i)) t w (nI i)) (zCB (nA := 2) C rfl rfl tw_866 tw_13 tw_864 (by decide +kernel) ⟨Nat.le_of_ble_eq_true rfl, Nat.le_of_ble_eq_true rfl⟩) tw_865 rfl rfl (Nat.le_of_ble_eq_true rfl) dX12_tryNext_68 (Nat.zero_le _) ?_
    refine z_ifb_eq C 88 dX12_tryNext_71 (by decide) (fun h71 => ?_) (fun h71 => ?_)
    · refine z_iconst C dX12_tryNext_88 ki_0 ?_
      refine z_iadd C dX12_tryNext_89 ?_
      refine z_istore C [(6, .int (y + 0)), (7, .int (nI i)), (5, .int (nI (b + 1))), (4, .int c), (3, .int a), (2, .int w), (0, .ref (B.1 + 113)), (1, .int (nI d))] dX12_tryNext_90 (by decide) rfl ?_
      refine z_iinc C [(7, .int (nI (i + 1))), (6, .int (y + 0)), (5, .int (nI (b + 1))), (4, .int c), (3, .int a), (2, .int w), (0, .ref (B.1 + 113)), (1, .int (nI d))] dX12_tryNext_92 1 rfl (nI_inc i) (by decide) rfl ?_
      refine z_goto C 48 dX12_tryNext_95 (by decide) ?_
      exact z_lv [0, 1, 2, 3, 4, 5, 6, 7] rfl (ih (i + 1) _ _ (by omega) (wAdd_c hy (by rw [mYes, h71]; rfl)) (fun _ => rfl))
    · refine z_aload_n C dX12_tryNext_74 6 rfl rfl ?_
      refine z_iload_n C dX12_tryNext_75 7 rfl rfl ?_
      refine z_iload C dX12_tryNext_76 2 rfl ?_
      refine f_callVr C hl (As := [.int (nI d), .int (nI (b + 1))]) (rest := [.int y]) (c_X12_stopsOf l B (zu (wHand s N) 118 d (nI i)) t d (by omega) (nI i) (mL s d) (mH s d) (s 114 6) (zu_same _ _ _ _) (by rw [zu_row _ _ (by decide)]; exact ((hd_hand mo).2.2.1 d hd0).2.1) (by rw [zu_row _ _ (by decide)]; exact ((hd_hand mo).2.2.1 d hd0).2.2) (by rw [zu_row _ _ (by decide)]; exact hd_day mo) (nI (b + 1)) (r8_of (by omega)) ⟨i, hi, rfl⟩) zb_113 (zg_12 zk_113) rfl (zCB (nA := 2) C rfl rfl tw_870 tw_13 tw_867 (by decide +kernel) ⟨Nat.le_of_ble_eq_true rfl, Nat.le_of_ble_eq_true rfl⟩) tw_869 tp_35 rfl rfl (Nat.le_of_ble_eq_true rfl) dX12_tryNext_78 (Nat.zero_le _) ?_
      refine z_ifb_eq C 88 dX12_tryNext_81 (by decide) (fun h81 => ?_) (fun h81 => ?_)
      · refine z_iconst C dX12_tryNext_88 ki_0 ?_
        refine z_iadd C dX12_tryNext_89 ?_
        refine z_istore C [(6, .int (y + 0)), (7, .int (nI i)), (5, .int (nI (b + 1))), (4, .int c), (3, .int a), (2, .int w), (0, .ref (B.1 + 113)), (1, .int (nI d))] dX12_tryNext_90 (by decide) rfl ?_
        refine z_iinc C [(7, .int (nI (i + 1))), (6, .int (y + 0)), (5, .int (nI (b + 1))), (4, .int c), (3, .int a), (2, .int w), (0, .ref (B.1 + 113)), (1, .int (nI d))] dX12_tryNext_92 1 rfl (nI_inc i) (by decide) rfl ?_
        refine z_goto C 48 dX12_tryNext_95 (by decide) ?_
        exact z_lv [0, 1, 2, 3, 4, 5, 6, 7] rfl (ih (i + 1) _ _ (by omega) (wAdd_c hy (by rw [mYes, h71, h81]; rfl)) (fun _ => rfl))
      · refine z_iconst C dX12_tryNext_84 ki_1 ?_
        refine z_goto C 89 dX12_tryNext_85 (by decide) ?_
        refine z_iadd C dX12_tryNext_89 ?_
        refine z_istore C [(6, .int (y + 1)), (7, .int (nI i)), (5, .int (nI (b + 1))), (4, .int c), (3, .int a), (2, .int w), (0, .ref (B.1 + 113)), (1, .int (nI d))] dX12_tryNext_90 (by decide) rfl ?_
        refine z_iinc C [(7, .int (nI (i + 1))), (6, .int (y + 1)), (5, .int (nI (b + 1))), (4, .int c), (3, .int a), (2, .int w), (0, .ref (B.1 + 113)), (1, .int (nI d))] dX12_tryNext_92 1 rfl (nI_inc i) (by decide) rfl ?_
        refine z_goto C 48 dX12_tryNext_95 (by decide) ?_
        exact z_lv [0, 1, 2, 3, 4, 5, 6, 7] rfl (ih (i + 1) _ _ (by omega) (wAdd_c hy (by rw [mYes, h71, h81]; rfl)) (fun _ => rfl))
set_option maxRecDepth 100000 in
set_option maxHeartbeats 4000000 in
theorem l_X12_tryNext_b {l : Launch} {B : zB} {s : zS} {t : zL} {X : zX} (hl : X.2.1 = l) (C : zC X B mX12_tryNext) (N : Nat) (mo : mOk s N) (h6 : N ≤ 6) (d : Nat) (hd0 : d < N) (w : Int32) (hw : r8 w) (b : Nat) (a c y : Int32) (ha : (a, c) = wTry (mTg s d w) 1000000 b) (hy : y = wAdd (mYes s d w (nI (b + 1))) 6) (kk : ∀ a c : Int32, (a, c) = wTry (mTg s d w) 1000000 (b + 1) → Zf X B mX12_tryNext (zu (wHand s N) 118 d 5) t 30 [(5, .int (nI (b + 1 + 1))), (4, .int c), (3, .int a), (2, .int w), (0, .ref (B.1 + 113)), (1, .int (nI d))] []) (E : zE X B mX12_tryNext 124 0 0 (zR B (some (.int ((wTry (mTg s d w) 1000000 255).1))) (zu (wHand s N) 118 d 5) t)) : Zf X B mX12_tryNext (zu (wHand s N) 118 d 5) t 98 [(6, .int y), (5, .int (nI (b + 1))), (4, .int c), (3, .int a), (2, .int w), (0, .ref (B.1 + 113)), (1, .int (nI d))] [] := by
  refine z_iconst C dX12_tryNext_98 ki_2 ?_
  refine z_iload C dX12_tryNext_99 0 rfl ?_
  refine z_imul C dX12_tryNext_101 ?_
  refine z_iload_n C dX12_tryNext_102 4 rfl rfl ?_
  refine f_callSr C hl (As := [.int w]) (rest := [.int (2 * y)]) (c_X12_bits l B (zu (wHand s N) 118 d 5) t w hw) (zCB (nA := 1) C rfl rfl tw_877 tw_13 tw_875 (by decide +kernel) ⟨Nat.le_of_ble_eq_true rfl, Nat.le_of_ble_eq_true rfl⟩) tw_876 rfl rfl (Nat.le_of_ble_eq_true rfl) dX12_tryNext_103 (Nat.zero_le _) ?_
  refine z_icmp_le C 114 dX12_tryNext_106 (by decide) (fun h106 => ?_) (fun h106 => ?_)
  · refine z_iload_n C dX12_tryNext_114 4 rfl rfl ?_
    refine f_callSr C hl (As := [.int w]) (rest := []) (c_X12_bits l B (zu (wHand s N) 118 d 5) t w hw) (zCB (nA := 1) C rfl rfl tw_877 tw_13 tw_875 (by decide +kernel) ⟨Nat.le_of_ble_eq_true rfl, Nat.le_of_ble_eq_true rfl⟩) tw_876 rfl rfl (Nat.le_of_ble_eq_true rfl) dX12_tryNext_115 (Nat.zero_le _) ?_
    refine z_iload C dX12_tryNext_118 0 rfl ?_
    refine z_isub C dX12_tryNext_120 ?_
    refine z_istore C [(7, .int ((wPop w) - y)), (6, .int y), (5, .int (nI (b + 1))), (4, .int c), (3, .int a), (2, .int w), (0, .ref (B.1 + 113)), (1, .int (nI d))] dX12_tryNext_121 (by decide) rfl ?_
    refine z_iload C dX12_tryNext_123 0 rfl ?_
    refine z_iload C dX12_tryNext_125 3 rfl ?_
    refine z_icmp_ge C 135 dX12_tryNext_127 (by decide) (fun h127 => ?_) (fun h127 => ?_)
    · refine z_iload_n C dX12_tryNext_135 4 rfl rfl ?_
      refine z_istore_n C [(3, .int a), (7, .int ((wPop w) - y)), (6, .int y), (5, .int (nI (b + 1))), (4, .int c), (2, .int w), (0, .ref (B.1 + 113)), (1, .int (nI d))] dX12_tryNext_136 rfl (by decide) rfl ?_
      refine z_iload C dX12_tryNext_137 1 rfl ?_
      refine z_iload C dX12_tryNext_139 4 rfl ?_
      refine z_icmp_ge C 149 dX12_tryNext_141 (by decide) (fun h141 => ?_) (fun h141 => ?_)
      · refine z_iload C dX12_tryNext_149 4 rfl ?_
        refine z_istore C [(4, .int c), (3, .int a), (7, .int ((wPop w) - y)), (6, .int y), (5, .int (nI (b + 1))), (2, .int w), (0, .ref (B.1 + 113)), (1, .int (nI d))] dX12_tryNext_151 (by decide) rfl ?_
        refine z_iinc C [(5, .int (nI (b + 1 + 1))), (4, .int c), (3, .int a), (7, .int ((wPop w) - y)), (6, .int y), (2, .int w), (0, .ref (B.1 + 113)), (1, .int (nI d))] dX12_tryNext_153 4 rfl (nI_inc (b + 1)) (by decide) rfl ?_
        refine z_goto C 30 dX12_tryNext_156 (by decide) ?_
        have hg : mTg s d w (b + 1) = wPop w - y := by rw [mTg, ← hy, mGr, if_pos h106]
        exact z_lv [0, 1, 2, 5, 6, 7] rfl (kk _ _ (by rw [wTry, if_pos (by rw [← ha, hg]; exact h127)]; exact ha))
      · refine z_iload C dX12_tryNext_144 1 rfl ?_
        refine z_goto C 151 dX12_tryNext_146 (by decide) ?_
        refine z_istore C [(4, .int ((wPop w) - y)), (3, .int a), (7, .int ((wPop w) - y)), (6, .int y), (5, .int (nI (b + 1))), (2, .int w), (0, .ref (B.1 + 113)), (1, .int (nI d))] dX12_tryNext_151 (by decide) rfl ?_
        refine z_iinc C [(5, .int (nI (b + 1 + 1))), (4, .int ((wPop w) - y)), (3, .int a), (7, .int ((wPop w) - y)), (6, .int y), (2, .int w), (0, .ref (B.1 + 113)), (1, .int (nI d))] dX12_tryNext_153 4 rfl (nI_inc (b + 1)) (by decide) rfl ?_
        refine z_goto C 30 dX12_tryNext_156 (by decide) ?_
        exact absurd h127 h141
    · refine z_iload C dX12_tryNext_130 2 rfl ?_
      refine z_goto C 136 dX12_tryNext_132 (by decide) ?_
      refine z_istore_n C [(3, .int (nI (b + 1))), (7, .int ((wPop w) - y)), (6, .int y), (5, .int (nI (b + 1))), (4, .int c), (2, .int w), (0, .ref (B.1 + 113)), (1, .int (nI d))] dX12_tryNext_136 rfl (by decide) rfl ?_
      refine z_iload C dX12_tryNext_137 1 rfl ?_
      refine z_iload C dX12_tryNext_139 4 rfl ?_
      refine z_icmp_ge C 149 dX12_tryNext_141 (by decide) (fun h141 => ?_) (fun h141 => ?_)
      · refine z_iload C dX12_tryNext_149 4 rfl ?_
        refine z_istore C [(4, .int c), (3, .int (nI (b + 1))), (7, .int ((wPop w) - y)), (6, .int y), (5, .int (nI (b + 1))), (2, .int w), (0, .ref (B.1 + 113)), (1, .int (nI d))] dX12_tryNext_151 (by decide) rfl ?_
        refine z_iinc C [(5, .int (nI (b + 1 + 1))), (4, .int c), (3, .int (nI (b + 1))), (7, .int ((wPop w) - y)), (6, .int y), (2, .int w), (0, .ref (B.1 + 113)), (1, .int (nI d))] dX12_tryNext_153 4 rfl (nI_inc (b + 1)) (by decide) rfl ?_
        refine z_goto C 30 dX12_tryNext_156 (by decide) ?_
        exact absurd h141 h127
      · refine z_iload C dX12_tryNext_144 1 rfl ?_
        refine z_goto C 151 dX12_tryNext_146 (by decide) ?_
        refine z_istore C [(4, .int ((wPop w) - y)), (3, .int (nI (b + 1))), (7, .int ((wPop w) - y)), (6, .int y), (5, .int (nI (b + 1))), (2, .int w), (0, .ref (B.1 + 113)), (1, .int (nI d))] dX12_tryNext_151 (by decide) rfl ?_
        refine z_iinc C [(5, .int (nI (b + 1 + 1))), (4, .int ((wPop w) - y)), (3, .int (nI (b + 1))), (7, .int ((wPop w) - y)), (6, .int y), (2, .int w), (0, .ref (B.1 + 113)), (1, .int (nI d))] dX12_tryNext_153 4 rfl (nI_inc (b + 1)) (by decide) rfl ?_
        refine z_goto C 30 dX12_tryNext_156 (by decide) ?_
        have hg : mTg s d w (b + 1) = wPop w - y := by rw [mTg, ← hy, mGr, if_pos h106]
        exact z_lv [0, 1, 2, 5, 6, 7] rfl (kk _ _ (by rw [wTry, if_neg (by rw [← ha, hg]; exact h127), hg]))
  · refine z_iload C dX12_tryNext_109 0 rfl ?_
    refine z_goto C 121 dX12_tryNext_111 (by decide) ?_
    refine z_istore C [(7, .int y), (6, .int y), (5, .int (nI (b + 1))), (4, .int c), (3, .int a), (2, .int w), (0, .ref (B.1 + 113)), (1, .int (nI d))] dX12_tryNext_121 (by decide) rfl ?_
    refine z_iload C dX12_tryNext_123 0 rfl ?_
    refine z_iload C dX12_tryNext_125 3 rfl ?_
    refine z_icmp_ge C 135 dX12_tryNext_127 (by decide) (fun h127 => ?_) (fun h127 => ?_)
    · refine z_iload_n C dX12_tryNext_135 4 rfl rfl ?_
      refine z_istore_n C [(3, .int a), (7, .int y), (6, .int y), (5, .int (nI (b + 1))), (4, .int c), (2, .int w), (0, .ref (B.1 + 113)), (1, .int (nI d))] dX12_tryNext_136 rfl (by decide) rfl ?_
      refine z_iload C dX12_tryNext_137 1 rfl ?_
      refine z_iload C dX12_tryNext_139 4 rfl ?_
      refine z_icmp_ge C 149 dX12_tryNext_141 (by decide) (fun h141 => ?_) (fun h141 => ?_)
      · refine z_iload C dX12_tryNext_149 4 rfl ?_
        refine z_istore C [(4, .int c), (3, .int a), (7, .int y), (6, .int y), (5, .int (nI (b + 1))), (2, .int w), (0, .ref (B.1 + 113)), (1, .int (nI d))] dX12_tryNext_151 (by decide) rfl ?_
        refine z_iinc C [(5, .int (nI (b + 1 + 1))), (4, .int c), (3, .int a), (7, .int y), (6, .int y), (2, .int w), (0, .ref (B.1 + 113)), (1, .int (nI d))] dX12_tryNext_153 4 rfl (nI_inc (b + 1)) (by decide) rfl ?_
        refine z_goto C 30 dX12_tryNext_156 (by decide) ?_
        have hg : mTg s d w (b + 1) = y := by rw [mTg, ← hy, mGr, if_neg h106]
        exact z_lv [0, 1, 2, 5, 6, 7] rfl (kk _ _ (by rw [wTry, if_pos (by rw [← ha, hg]; exact h127)]; exact ha))
      · refine z_iload C dX12_tryNext_144 1 rfl ?_
        refine z_goto C 151 dX12_tryNext_146 (by decide) ?_
        refine z_istore C [(4, .int y), (3, .int a), (7, .int y), (6, .int y), (5, .int (nI (b + 1))), (2, .int w), (0, .ref (B.1 + 113)), (1, .int (nI d))] dX12_tryNext_151 (by decide) rfl ?_
        refine z_iinc C [(5, .int (nI (b + 1 + 1))), (4, .int y), (3, .int a), (7, .int y), (6, .int y), (2, .int w), (0, .ref (B.1 + 113)), (1, .int (nI d))] dX12_tryNext_153 4 rfl (nI_inc (b + 1)) (by decide) rfl ?_
        refine z_goto C 30 dX12_tryNext_156 (by decide) ?_
        exact absurd h127 h141
    · refine z_iload C dX12_tryNext_130 2 rfl ?_
      refine z_goto C 136 dX12_tryNext_132 (by decide) ?_
      refine z_istore_n C [(3, .int (nI (b + 1))), (7, .int y), (6, .int y), (5, .int (nI (b + 1))), (4, .int c), (2, .int w), (0, .ref (B.1 + 113)), (1, .int (nI d))] dX12_tryNext_136 rfl (by decide) rfl ?_
      refine z_iload C dX12_tryNext_137 1 rfl ?_
      refine z_iload C dX12_tryNext_139 4 rfl ?_
      refine z_icmp_ge C 149 dX12_tryNext_141 (by decide) (fun h141 => ?_) (fun h141 => ?_)
      · refine z_iload C dX12_tryNext_149 4 rfl ?_
        refine z_istore C [(4, .int c), (3, .int (nI (b + 1))), (7, .int y), (6, .int y), (5, .int (nI (b + 1))), (2, .int w), (0, .ref (B.1 + 113)), (1, .int (nI d))] dX12_tryNext_151 (by decide) rfl ?_
        refine z_iinc C [(5, .int (nI (b + 1 + 1))), (4, .int c), (3, .int (nI (b + 1))), (7, .int y), (6, .int y), (2, .int w), (0, .ref (B.1 + 113)), (1, .int (nI d))] dX12_tryNext_153 4 rfl (nI_inc (b + 1)) (by decide) rfl ?_
        refine z_goto C 30 dX12_tryNext_156 (by decide) ?_
        exact absurd h141 h127
      · refine z_iload C dX12_tryNext_144 1 rfl ?_
        refine z_goto C 151 dX12_tryNext_146 (by decide) ?_
        refine z_istore C [(4, .int y), (3, .int (nI (b + 1))), (7, .int y), (6, .int y), (5, .int (nI (b + 1))), (2, .int w), (0, .ref (B.1 + 113)), (1, .int (nI d))] dX12_tryNext_151 (by decide) rfl ?_
        refine z_iinc C [(5, .int (nI (b + 1 + 1))), (4, .int y), (3, .int (nI (b + 1))), (7, .int y), (6, .int y), (2, .int w), (0, .ref (B.1 + 113)), (1, .int (nI d))] dX12_tryNext_153 4 rfl (nI_inc (b + 1)) (by decide) rfl ?_
        refine z_goto C 30 dX12_tryNext_156 (by decide) ?_
        have hg : mTg s d w (b + 1) = y := by rw [mTg, ← hy, mGr, if_neg h106]
        exact z_lv [0, 1, 2, 5, 6, 7] rfl (kk _ _ (by rw [wTry, if_neg (by rw [← ha, hg]; exact h127), hg]))
set_option maxRecDepth 100000 in
set_option maxHeartbeats 4000000 in
theorem l_X12_tryNext {l : Launch} {B : zB} {s : zS} {t : zL} {X : zX} (hl : X.2.1 = l) (C : zC X B mX12_tryNext) (N : Nat) (mo : mOk s N) (h6 : N ≤ 6) (d : Nat) (hd0 : d < N) (w : Int32) (hw : r8 w) (hs : ¬ w ≤ 0) (E : zE X B mX12_tryNext 124 0 0 (zR B (some (.int ((wTry (mTg s d w) 1000000 255).1))) (zu (wHand s N) 118 d 5) t)) : ∀ (m : Nat) (b : Nat) (a c : Int32), b + m = 255 → (a, c) = wTry (mTg s d w) 1000000 b → Zf X B mX12_tryNext (zu (wHand s N) 118 d 5) t 30 [(5, .int (nI (b + 1))), (4, .int c), (3, .int a), (2, .int w), (0, .ref (B.1 + 113)), (1, .int (nI d))] [] := by
  intro m
  induction m with
  | zero =>
    intro b a c hb ha
    obtain rfl : b = 255 := by omega
    refine z_iload C dX12_tryNext_30 0 rfl ?_
    refine z_sipush C dX12_tryNext_32 ks_255 ?_
    refine z_icmp_gt C 159 dX12_tryNext_35 (by decide) (fun _ => ?_) (fun hbr => absurd (by decide) hbr)
    refine z_iload_n C dX12_tryNext_159 2 rfl rfl ?_
    refine z_iret C E rfl dX12_tryNext_160 rfl (Nat.le_refl _) ⟨by rw [← ha], rfl⟩
  | succ m ih =>
    intro b a c hb0 ha
    refine z_iload C dX12_tryNext_30 0 rfl ?_
    refine z_sipush C dX12_tryNext_32 ks_255 ?_
    refine z_icmp_gt C 159 dX12_tryNext_35 (by decide) (fun hbr => absurd hbr (show ¬ nI 255 < nI (b + 1) from nI_nlt (by omega) (by decide))) (fun _ => ?_)
    refine z_iload_n C dX12_tryNext_38 3 rfl rfl ?_
    refine z_if_le C 159 dX12_tryNext_39 (by decide) (fun hbr => absurd hbr hs) (fun _ => ?_)
    refine z_iconst C dX12_tryNext_42 ki_0 ?_
    refine z_istore C [(6, .int 0), (5, .int (nI (b + 1))), (4, .int c), (3, .int a), (2, .int w), (0, .ref (B.1 + 113)), (1, .int (nI d))] dX12_tryNext_43 (by decide) rfl ?_
    refine z_iconst C dX12_tryNext_45 ki_0 ?_
    refine z_istore C [(7, .int 0), (6, .int 0), (5, .int (nI (b + 1))), (4, .int c), (3, .int a), (2, .int w), (0, .ref (B.1 + 113)), (1, .int (nI d))] dX12_tryNext_46 (by decide) rfl ?_
    exact z_lv (lv2 := [(7, .int (nI 0)), (6, .int 0), (5, .int (nI (b + 1))), (4, .int c), (3, .int a), (2, .int w), (0, .ref (B.1 + 113)), (1, .int (nI d))]) [0, 1, 2, 3, 4, 5, 6, 7] rfl (l_X12_tryNext_a hl C N mo h6 d hd0 w hw b (by omega) a c (l_X12_tryNext_b hl C N mo h6 d hd0 w hw b a c _ ha rfl (fun a c h => ih (b + 1) a c (by omega) h) E) E 6 0 0 5 (by omega) rfl (fun z => absurd z (by decide)))
set_option maxRecDepth 100000 in
set_option maxHeartbeats 4000000 in
theorem c_X12_tryNext_ok (l : Launch) (B : zB) (s : zS) (t : zL) (N : Nat) (mo : mOk s N) (d : Nat) (hd0 : d < N) (M : Nat) (hM : s 114 7 = nI M) (hM6 : M ≤ 6) (hB : ∀ n, n < M → r8 (s 114 (33 + 4 * n + 1))) (g : wIn (nI d) (s 114 0 - 1) = true) (g2 : ¬ wCol (fun c => mFit (s 114) (nI d) (nI c) (mL s d) (mH s d) M) 6 = 0) : zD l B mX12_tryNext s t [.ref (B.1 + 113), .int (nI d)] (some (.int ((wTry (mTg s d (wCol (fun c => mFit (s 114) (nI d) (nI c) (mL s d) (mH s d) M) 6)) 1000000 255).1))) (zu (wHand s N) 118 d 5) t := by
  refine z_met (by decide) (Nat.le_of_ble_eq_true rfl) ?_
  intro X hl C E hnm
  show Zf X B mX12_tryNext s t 0 [(0, .ref (B.1 + 113)), (1, .int (nI d))] []
  refine z_aload_n C dX12_tryNext_0 0 rfl rfl ?_
  refine z_iload_n C dX12_tryNext_1 1 rfl rfl ?_
  refine f_callVr C hl (As := [.int (nI d)]) (rest := []) (c_X12_isDeputy l B s t (nI d)) zb_113 (zg_12 zk_113) rfl (zCB (nA := 1) C rfl rfl tw_893 tw_13 tw_890 (by decide +kernel) ⟨Nat.le_of_ble_eq_true rfl, Nat.le_of_ble_eq_true rfl⟩) tw_892 tp_38 rfl rfl (Nat.le_of_ble_eq_true rfl) dX12_tryNext_2 (Nat.zero_le _) ?_
  refine z_ifb_ne C 15 dX12_tryNext_5 (by decide) (fun _ => ?_) (fun hbr => Bool.noConfusion (show false = true from hbr.symm.trans g))
  refine z_aload_n C dX12_tryNext_15 0 rfl rfl ?_
  refine z_iload_n C dX12_tryNext_16 1 rfl rfl ?_
  refine f_callVr C hl (As := [.int (nI d)]) (rest := []) (c_X12_kindsOf l B s t N mo d hd0 M hM hM6 hB) zb_113 (zg_12 zk_113) rfl (zCB (nA := 1) C rfl rfl tw_980 tw_13 tw_977 (by decide +kernel) ⟨Nat.le_of_ble_eq_true rfl, Nat.le_of_ble_eq_true rfl⟩) tw_979 tp_43 rfl rfl (Nat.le_of_ble_eq_true rfl) dX12_tryNext_17 (Nat.zero_le _) ?_
  refine z_istore_n C [(2, .int (wCol (fun c => mFit (s 114) (nI d) (nI c) (mL s d) (mH s d) M) 6)), (0, .ref (B.1 + 113)), (1, .int (nI d))] dX12_tryNext_20 rfl (by decide) rfl ?_
  refine z_iconst C dX12_tryNext_21 ki_m1 ?_
  refine z_istore_n C [(3, .int (-1)), (2, .int (wCol (fun c => mFit (s 114) (nI d) (nI c) (mL s d) (mH s d) M) 6)), (0, .ref (B.1 + 113)), (1, .int (nI d))] dX12_tryNext_22 rfl (by decide) rfl ?_
  refine z_ldc C dX12_tryNext_23 tw_994 ?_
  refine z_istore C [(4, .int 1000000), (3, .int (-1)), (2, .int (wCol (fun c => mFit (s 114) (nI d) (nI c) (mL s d) (mH s d) M) 6)), (0, .ref (B.1 + 113)), (1, .int (nI d))] dX12_tryNext_25 (by decide) rfl ?_
  refine z_iconst C dX12_tryNext_27 ki_1 ?_
  refine z_istore C [(5, .int 1), (4, .int 1000000), (3, .int (-1)), (2, .int (wCol (fun c => mFit (s 114) (nI d) (nI c) (mL s d) (mH s d) M) 6)), (0, .ref (B.1 + 113)), (1, .int (nI d))] dX12_tryNext_28 (by decide) rfl ?_
  exact z_lv (lv2 := [(5, .int (nI (0 + 1))), (4, .int 1000000), (3, .int (-1)), (2, .int (wCol (fun c => mFit (s 114) (nI d) (nI c) (mL s d) (mH s d) M) 6)), (0, .ref (B.1 + 113)), (1, .int (nI d))]) [0, 1, 2, 3, 4, 5] rfl (l_X12_tryNext hl C N mo mo.2.1 d hd0 _ (wCol_r8 _ _ (by decide)) (r8_nle (wCol_r8 _ _ (by decide)) g2) E 255 0 _ _ (by omega) rfl)
abbrev mX12_gone : zM := (yX12_gone, cX12_gone, 7, (some .int), { frames := 5, cells := 0, slots := 0, locals := 115 })
set_option maxRecDepth 100000 in
set_option maxHeartbeats 4000000 in
theorem c_X12_gone_bad (l : Launch) (B : zB) (s : zS) (t : zL) (w : Int32) (g : wIn w 1 = false) : zD l B mX12_gone s t [.ref (B.1 + 113), .int w] (some (.int (-2))) (zu s 117 0 (s 117 0 + 1)) t := by
  refine z_met (by decide) (Nat.le_of_ble_eq_true rfl) ?_
  intro X hl C E hnm
  show Zf X B mX12_gone s t 0 [(0, .ref (B.1 + 113)), (1, .int w)] []
  refine z_iload_n C dX12_gone_0 1 rfl rfl ?_
  refine z_i2l C dX12_gone_1 ?_
  refine z_lconst C dX12_gone_2 kl_0 ?_
  refine z_lconst C dX12_gone_3 kl_1 ?_
  refine f_callSr C hl (As := [.long ((w : Int32).toInt64), .long 0, .long 1]) (rest := []) (c_X12_in0 l B s t w 1 ((w : Int32).toInt64) 1 rfl (by decide)) (zCB (nA := 3) C rfl rfl tw_810 tw_13 tw_808 (by decide +kernel) ⟨Nat.le_of_ble_eq_true rfl, Nat.le_of_ble_eq_true rfl⟩) tw_809 rfl rfl (Nat.le_of_ble_eq_true rfl) dX12_gone_4 (Nat.zero_le _) ?_
  refine z_ifb_ne C 17 dX12_gone_7 (by decide) (fun hbr => absurd hbr (by rw [g]; decide)) (fun _ => ?_)
  refine z_aload_n C dX12_gone_10 0 rfl rfl ?_
  refine z_bipush C dX12_gone_11 kb_m2 ?_
  refine f_callVr C hl (As := [.int (-2)]) (rest := []) (c_X12_bad l B s t (-2)) zb_113 (zg_12 zk_113) rfl (zCB (nA := 1) C rfl rfl tw_814 tw_13 tw_811 (by decide +kernel) ⟨Nat.le_of_ble_eq_true rfl, Nat.le_of_ble_eq_true rfl⟩) tw_813 tp_26 rfl rfl (Nat.le_of_ble_eq_true rfl) dX12_gone_13 (Nat.zero_le _) ?_
  refine z_iret C E rfl dX12_gone_16 rfl (Nat.le_refl _) ⟨rfl, rfl⟩
def mGv (s : zS) : Nat → Int32
  | 0 => mS s
  | i + 1 => mS s ||| wBit (nI i)
def mGf (s : zS) (N : Nat) (i : Nat) : Int32 := wPop (wBest (fun b => decide (wWho (mK s) (mL s) (mH s) (mS s ||| wBit (nI i)) (s 114 6) b N = 0)) (255 &&& ((s 114 1 ||| s 114 2) ^^^ (-1))) 255)
theorem hd_sil {s : zS} {N : Nat} {K Lo Ha : Nat → Int32} {sl dy v : Int32} (h : wHd s N K Lo Ha sl dy) (hv : r8 v) : wHd (zu s 113 9 v) N K Lo Ha v dy := by
  obtain ⟨h1, h2, h3, h4, h5, h6, h7⟩ := h
  refine ⟨by rw [zu_row _ _ (by decide)]; exact h1, h2, fun d hd => ?_, h4, zu_same _ _ _ _, hv, by rw [zu_ne _ _ (by omega)]; exact h7⟩
  rw [zu_row _ _ (by decide), zu_row _ _ (by decide), zu_row _ _ (by decide)]
  exact h3 d hd
theorem mS_r8 {s : zS} {N : Nat} (mo : mOk s N) : r8 (mS s) := r8_or mo.2.2.2.1 mo.2.2.2.2
set_option maxRecDepth 100000 in
set_option maxHeartbeats 4000000 in
theorem l_X12_gone0 {l : Launch} {B : zB} {s : zS} {t : zL} {X : zX} (hl : X.2.1 = l) (C : zC X B mX12_gone) (N : Nat) (mo : mOk s N) (h6 : N ≤ 6) (E : zE X B mX12_gone 124 0 0 (zR B (some (.int ((wGone (mGf s N) N).1))) (zu (wHand s N) 113 9 (mGv s N)) t)) : ∀ (m : Nat) (i : Nat) (a c : Int32), i + m = N → (a, c) = wGone (mGf s N) i → Zf X B mX12_gone (zu (wHand s N) 113 9 (mGv s i)) t 34 [(5, .int (nI i)), (4, .int (mS s)), (3, .int c), (2, .int a), (0, .ref (B.1 + 113)), (1, .int 0)] [] := by
  intro m
  induction m with
  | zero =>
    intro i a c hi ha
    refine z_iload C dX12_gone_34 0 rfl ?_
    refine z_aload_n C dX12_gone_36 4 rfl rfl ?_
    refine f_callVr C hl (As := []) (rest := [.int (nI i)]) (c_X12_many l B (zu (wHand s N) 113 9 (mGv s i)) t) zb_113 (zg_12 zk_113) rfl (zCB (nA := 0) C rfl rfl tw_818 tw_13 tw_815 (by decide +kernel) ⟨Nat.le_of_ble_eq_true rfl, Nat.le_of_ble_eq_true rfl⟩) tw_817 tp_27 rfl rfl (Nat.le_of_ble_eq_true rfl) dX12_gone_37 (Nat.zero_le _) ?_
    refine f_topi (y := nI N) (by rw [zu_row _ _ (by decide), wHand_114]; exact mo.1) ?_
    refine z_icmp_ge C 95 dX12_gone_40 (by decide) (fun _ => ?_) (fun hbr => absurd (nI_le (by omega) (by omega)) hbr)
    refine z_iload_n C dX12_gone_95 5 rfl rfl ?_
    refine z_if_ne C 103 dX12_gone_96 (by decide) (fun hbr => absurd (by decide) hbr) (fun _ => ?_)
    refine z_iload_n C dX12_gone_99 3 rfl rfl ?_
    refine z_goto C 104 dX12_gone_100 (by decide) ?_
    refine z_iret C E rfl dX12_gone_104 rfl (Nat.le_refl _) ⟨by rw [show i = N by omega] at ha; rw [← ha], by rw [show i = N by omega]⟩
  | succ m ih =>
    intro i a c hi0 ha
    have hi : i < N := by omega
    refine z_iload C dX12_gone_34 0 rfl ?_
    refine z_aload_n C dX12_gone_36 4 rfl rfl ?_
    refine f_callVr C hl (As := []) (rest := [.int (nI i)]) (c_X12_many l B (zu (wHand s N) 113 9 (mGv s i)) t) zb_113 (zg_12 zk_113) rfl (zCB (nA := 0) C rfl rfl tw_818 tw_13 tw_815 (by decide +kernel) ⟨Nat.le_of_ble_eq_true rfl, Nat.le_of_ble_eq_true rfl⟩) tw_817 tp_27 rfl rfl (Nat.le_of_ble_eq_true rfl) dX12_gone_37 (Nat.zero_le _) ?_
    refine f_topi (y := nI N) (by rw [zu_row _ _ (by decide), wHand_114]; exact mo.1) ?_
    refine z_icmp_ge C 95 dX12_gone_40 (by decide) (fun hbr => absurd hbr (nI_ge hi (by omega))) (fun _ => ?_)
    refine z_aload_n C dX12_gone_43 4 rfl rfl ?_
    refine z_iload C dX12_gone_44 1 rfl ?_
    refine z_iconst C dX12_gone_46 ki_1 ?_
    refine z_iload C dX12_gone_47 0 rfl ?_
    refine z_ishl C dX12_gone_49 ?_
    refine f_topi (y := wBit (nI i)) (wBit_nI (by omega)).symm ?_
    refine z_ior C dX12_gone_50 ?_
    refine f_put12_9 C tw_753 zk_113 zb_113 dX12_gone_51 ?_
    refine z_G (congrArg (fun z => zg B z t) (zu_zu _ 113 9 _ _)) ?_
    refine z_aload_n C dX12_gone_54 4 rfl rfl ?_
    refine f_callVr C hl (As := []) (rest := []) (c_X12_mostFree l B (zu (wHand s N) 113 9 (mS s ||| wBit (nI i))) t N (mK s) (mL s) (mH s) (mS s ||| wBit (nI i)) (s 114 6) (hd_sil (hd_hand mo) (r8_or (mS_r8 mo) (wBit_r (by omega))))) zb_113 (zg_12 zk_113) rfl (zCB (nA := 0) C rfl rfl tw_930 tw_13 tw_927 (by decide +kernel) ⟨Nat.le_of_ble_eq_true rfl, Nat.le_of_ble_eq_true rfl⟩) tw_929 tp_40 rfl rfl (Nat.le_of_ble_eq_true rfl) dX12_gone_55 (Nat.zero_le _) ?_
    refine f_topi (y := wBest (fun b => decide (wWho (mK s) (mL s) (mH s) (mS s ||| wBit (nI i)) (s 114 6) b N = 0)) (255 &&& ((s 114 1 ||| s 114 2) ^^^ (-1))) 255) (by rw [zu_row _ _ (by decide), wHand_114]) ?_
    refine f_callSr C hl (As := [.int (wBest (fun b => decide (wWho (mK s) (mL s) (mH s) (mS s ||| wBit (nI i)) (s 114 6) b N = 0)) (255 &&& ((s 114 1 ||| s 114 2) ^^^ (-1))) 255)]) (rest := []) (c_X12_bits l B (zu (wHand s N) 113 9 (mS s ||| wBit (nI i))) t (wBest (fun b => decide (wWho (mK s) (mL s) (mH s) (mS s ||| wBit (nI i)) (s 114 6) b N = 0)) (255 &&& ((s 114 1 ||| s 114 2) ^^^ (-1))) 255) (wBest_r8 _ _ _ (by decide))) (zCB (nA := 1) C rfl rfl tw_877 tw_13 tw_875 (by decide +kernel) ⟨Nat.le_of_ble_eq_true rfl, Nat.le_of_ble_eq_true rfl⟩) tw_876 rfl rfl (Nat.le_of_ble_eq_true rfl) dX12_gone_58 (Nat.zero_le _) ?_
    refine f_topi (y := mGf s N i) rfl ?_
    refine z_istore C [(6, .int (mGf s N i)), (5, .int (nI i)), (4, .int (mS s)), (3, .int c), (2, .int a), (0, .ref (B.1 + 113)), (1, .int 0)] dX12_gone_61 (by decide) rfl ?_
    refine z_iload C dX12_gone_63 0 rfl ?_
    refine z_iload_n C dX12_gone_65 3 rfl rfl ?_
    refine z_icmp_le C 74 dX12_gone_66 (by decide) (fun h66 => ?_) (fun h66 => ?_)
    · refine z_iload_n C dX12_gone_74 4 rfl rfl ?_
      refine z_istore_n C [(2, .int a), (6, .int (mGf s N i)), (5, .int (nI i)), (4, .int (mS s)), (3, .int c), (0, .ref (B.1 + 113)), (1, .int 0)] dX12_gone_75 rfl (by decide) rfl ?_
      refine z_iload C dX12_gone_76 1 rfl ?_
      refine z_iload_n C dX12_gone_78 4 rfl rfl ?_
      refine z_icmp_le C 87 dX12_gone_79 (by decide) (fun h79 => ?_) (fun h79 => ?_)
      · refine z_iload_n C dX12_gone_87 4 rfl rfl ?_
        refine z_istore_n C [(3, .int c), (2, .int a), (6, .int (mGf s N i)), (5, .int (nI i)), (4, .int (mS s)), (0, .ref (B.1 + 113)), (1, .int 0)] dX12_gone_88 rfl (by decide) rfl ?_
        refine z_iinc C [(5, .int (nI (i + 1))), (3, .int c), (2, .int a), (6, .int (mGf s N i)), (4, .int (mS s)), (0, .ref (B.1 + 113)), (1, .int 0)] dX12_gone_89 3 rfl (nI_inc i) (by decide) rfl ?_
        refine z_goto C 34 dX12_gone_92 (by decide) ?_
        exact z_lv [0, 4, 1, 2, 5, 6] rfl (ih (i + 1) _ _ (by omega) (by rw [wGone, if_pos (by rw [← ha]; exact h66)]; exact ha))
      · refine z_iload C dX12_gone_82 1 rfl ?_
        refine z_goto C 88 dX12_gone_84 (by decide) ?_
        refine z_istore_n C [(3, .int (mGf s N i)), (2, .int a), (6, .int (mGf s N i)), (5, .int (nI i)), (4, .int (mS s)), (0, .ref (B.1 + 113)), (1, .int 0)] dX12_gone_88 rfl (by decide) rfl ?_
        refine z_iinc C [(5, .int (nI (i + 1))), (3, .int (mGf s N i)), (2, .int a), (6, .int (mGf s N i)), (4, .int (mS s)), (0, .ref (B.1 + 113)), (1, .int 0)] dX12_gone_89 3 rfl (nI_inc i) (by decide) rfl ?_
        refine z_goto C 34 dX12_gone_92 (by decide) ?_
        exact absurd h66 h79
    · refine z_iload C dX12_gone_69 1 rfl ?_
      refine z_goto C 75 dX12_gone_71 (by decide) ?_
      refine z_istore_n C [(2, .int (nI i)), (6, .int (mGf s N i)), (5, .int (nI i)), (4, .int (mS s)), (3, .int c), (0, .ref (B.1 + 113)), (1, .int 0)] dX12_gone_75 rfl (by decide) rfl ?_
      refine z_iload C dX12_gone_76 1 rfl ?_
      refine z_iload_n C dX12_gone_78 4 rfl rfl ?_
      refine z_icmp_le C 87 dX12_gone_79 (by decide) (fun h79 => ?_) (fun h79 => ?_)
      · refine z_iload_n C dX12_gone_87 4 rfl rfl ?_
        refine z_istore_n C [(3, .int c), (2, .int (nI i)), (6, .int (mGf s N i)), (5, .int (nI i)), (4, .int (mS s)), (0, .ref (B.1 + 113)), (1, .int 0)] dX12_gone_88 rfl (by decide) rfl ?_
        refine z_iinc C [(5, .int (nI (i + 1))), (3, .int c), (2, .int (nI i)), (6, .int (mGf s N i)), (4, .int (mS s)), (0, .ref (B.1 + 113)), (1, .int 0)] dX12_gone_89 3 rfl (nI_inc i) (by decide) rfl ?_
        refine z_goto C 34 dX12_gone_92 (by decide) ?_
        exact absurd h79 h66
      · refine z_iload C dX12_gone_82 1 rfl ?_
        refine z_goto C 88 dX12_gone_84 (by decide) ?_
        refine z_istore_n C [(3, .int (mGf s N i)), (2, .int (nI i)), (6, .int (mGf s N i)), (5, .int (nI i)), (4, .int (mS s)), (0, .ref (B.1 + 113)), (1, .int 0)] dX12_gone_88 rfl (by decide) rfl ?_
        refine z_iinc C [(5, .int (nI (i + 1))), (3, .int (mGf s N i)), (2, .int (nI i)), (6, .int (mGf s N i)), (4, .int (mS s)), (0, .ref (B.1 + 113)), (1, .int 0)] dX12_gone_89 3 rfl (nI_inc i) (by decide) rfl ?_
        refine z_goto C 34 dX12_gone_92 (by decide) ?_
        exact z_lv [0, 4, 1, 2, 5, 6] rfl (ih (i + 1) _ _ (by omega) (by rw [wGone, if_neg (by rw [← ha]; exact h66)]))
set_option maxRecDepth 100000 in
set_option maxHeartbeats 4000000 in
theorem c_X12_gone_0 (l : Launch) (B : zB) (s : zS) (t : zL) (N : Nat) (mo : mOk s N) : zD l B mX12_gone s t [.ref (B.1 + 113), .int 0] (some (.int ((wGone (mGf s N) N).1))) (zu (wHand s N) 113 9 (mGv s N)) t := by
  have h6 := mo.2.1
  refine z_met (by decide) (Nat.le_of_ble_eq_true rfl) ?_
  intro X hl C E hnm
  show Zf X B mX12_gone s t 0 [(0, .ref (B.1 + 113)), (1, .int 0)] []
  refine z_iload_n C dX12_gone_0 1 rfl rfl ?_
  refine z_i2l C dX12_gone_1 ?_
  refine z_lconst C dX12_gone_2 kl_0 ?_
  refine z_lconst C dX12_gone_3 kl_1 ?_
  refine f_callSr C hl (As := [.long ((0 : Int32).toInt64), .long 0, .long 1]) (rest := []) (c_X12_in0 l B s t 0 1 ((0 : Int32).toInt64) 1 rfl (by decide)) (zCB (nA := 3) C rfl rfl tw_810 tw_13 tw_808 (by decide +kernel) ⟨Nat.le_of_ble_eq_true rfl, Nat.le_of_ble_eq_true rfl⟩) tw_809 rfl rfl (Nat.le_of_ble_eq_true rfl) dX12_gone_4 (Nat.zero_le _) ?_
  refine z_ifb_ne C 17 dX12_gone_7 (by decide) (fun _ => ?_) (fun hbr => Bool.noConfusion (show false = true from hbr.symm.trans (by decide)))
  refine z_iconst C dX12_gone_17 ki_m1 ?_
  refine z_istore_n C [(2, .int (-1)), (0, .ref (B.1 + 113)), (1, .int 0)] dX12_gone_18 rfl (by decide) rfl ?_
  refine z_iconst C dX12_gone_19 ki_m1 ?_
  refine z_istore_n C [(3, .int (-1)), (2, .int (-1)), (0, .ref (B.1 + 113)), (1, .int 0)] dX12_gone_20 rfl (by decide) rfl ?_
  refine z_aload_n C dX12_gone_21 2 rfl rfl ?_
  refine f_callVv C hl (As := []) (rest := []) (c_X12_layHand l B s t N mo.1 mo.2.1) zb_113 (zg_12 zk_113) rfl (zCB (nA := 0) C rfl rfl tw_851 tw_13 tw_848 (by decide +kernel) ⟨Nat.le_of_ble_eq_true rfl, Nat.le_of_ble_eq_true rfl⟩) tw_850 tp_31 rfl rfl (Nat.le_of_ble_eq_true rfl) dX12_gone_22 (Nat.zero_le _) ?_
  refine z_aload_n C dX12_gone_25 2 rfl rfl ?_
  refine f_get12 C 9 (v := .int ((wHand s N) 113 9)) (by decide) tw_753 rfl zk_113 zb_113 rfl dX12_gone_26 ?_
  refine f_topi (y := mS s) (hd_hand mo).2.2.2.2.1 ?_
  refine z_istore C [(4, .int (mS s)), (3, .int (-1)), (2, .int (-1)), (0, .ref (B.1 + 113)), (1, .int 0)] dX12_gone_29 (by decide) rfl ?_
  refine z_iconst C dX12_gone_31 ki_0 ?_
  refine z_istore C [(5, .int 0), (4, .int (mS s)), (3, .int (-1)), (2, .int (-1)), (0, .ref (B.1 + 113)), (1, .int 0)] dX12_gone_32 (by decide) rfl ?_
  refine z_G (congrArg (fun z => zg B z t) (show wHand s N = (zu (wHand s N) 113 9 (mGv s 0)) by rw [show mGv s 0 = wHand s N 113 9 from (hd_hand mo).2.2.2.2.1.symm, zu_self])) ?_
  exact z_lv [0, 1, 2, 3, 4, 5] rfl (l_X12_gone0 hl C N mo h6 E N 0 _ _ (by omega) rfl)
set_option maxRecDepth 100000 in
set_option maxHeartbeats 4000000 in
theorem l_X12_gone1 {l : Launch} {B : zB} {s : zS} {t : zL} {X : zX} (hl : X.2.1 = l) (C : zC X B mX12_gone) (N : Nat) (mo : mOk s N) (h6 : N ≤ 6) (E : zE X B mX12_gone 124 0 0 (zR B (some (.int ((wGone (mGf s N) N).2))) (zu (wHand s N) 113 9 (mGv s N)) t)) : ∀ (m : Nat) (i : Nat) (a c : Int32), i + m = N → (a, c) = wGone (mGf s N) i → Zf X B mX12_gone (zu (wHand s N) 113 9 (mGv s i)) t 34 [(5, .int (nI i)), (4, .int (mS s)), (3, .int c), (2, .int a), (0, .ref (B.1 + 113)), (1, .int 1)] [] := by
  intro m
  induction m with
  | zero =>
    intro i a c hi ha
    refine z_iload C dX12_gone_34 0 rfl ?_
    refine z_aload_n C dX12_gone_36 4 rfl rfl ?_
    refine f_callVr C hl (As := []) (rest := [.int (nI i)]) (c_X12_many l B (zu (wHand s N) 113 9 (mGv s i)) t) zb_113 (zg_12 zk_113) rfl (zCB (nA := 0) C rfl rfl tw_818 tw_13 tw_815 (by decide +kernel) ⟨Nat.le_of_ble_eq_true rfl, Nat.le_of_ble_eq_true rfl⟩) tw_817 tp_27 rfl rfl (Nat.le_of_ble_eq_true rfl) dX12_gone_37 (Nat.zero_le _) ?_
    refine f_topi (y := nI N) (by rw [zu_row _ _ (by decide), wHand_114]; exact mo.1) ?_
    refine z_icmp_ge C 95 dX12_gone_40 (by decide) (fun _ => ?_) (fun hbr => absurd (nI_le (by omega) (by omega)) hbr)
    refine z_iload_n C dX12_gone_95 5 rfl rfl ?_
    refine z_if_ne C 103 dX12_gone_96 (by decide) (fun _ => ?_) (fun hbr => absurd hbr (by decide))
    refine z_iload_n C dX12_gone_103 2 rfl rfl ?_
    refine z_iret C E rfl dX12_gone_104 rfl (Nat.le_refl _) ⟨by rw [show i = N by omega] at ha; rw [← ha], by rw [show i = N by omega]⟩
  | succ m ih =>
    intro i a c hi0 ha
    have hi : i < N := by omega
    refine z_iload C dX12_gone_34 0 rfl ?_
    refine z_aload_n C dX12_gone_36 4 rfl rfl ?_
    refine f_callVr C hl (As := []) (rest := [.int (nI i)]) (c_X12_many l B (zu (wHand s N) 113 9 (mGv s i)) t) zb_113 (zg_12 zk_113) rfl (zCB (nA := 0) C rfl rfl tw_818 tw_13 tw_815 (by decide +kernel) ⟨Nat.le_of_ble_eq_true rfl, Nat.le_of_ble_eq_true rfl⟩) tw_817 tp_27 rfl rfl (Nat.le_of_ble_eq_true rfl) dX12_gone_37 (Nat.zero_le _) ?_
    refine f_topi (y := nI N) (by rw [zu_row _ _ (by decide), wHand_114]; exact mo.1) ?_
    refine z_icmp_ge C 95 dX12_gone_40 (by decide) (fun hbr => absurd hbr (nI_ge hi (by omega))) (fun _ => ?_)
    refine z_aload_n C dX12_gone_43 4 rfl rfl ?_
    refine z_iload C dX12_gone_44 1 rfl ?_
    refine z_iconst C dX12_gone_46 ki_1 ?_
    refine z_iload C dX12_gone_47 0 rfl ?_
    refine z_ishl C dX12_gone_49 ?_
    refine f_topi (y := wBit (nI i)) (wBit_nI (by omega)).symm ?_
    refine z_ior C dX12_gone_50 ?_
    refine f_put12_9 C tw_753 zk_113 zb_113 dX12_gone_51 ?_
    refine z_G (congrArg (fun z => zg B z t) (zu_zu _ 113 9 _ _)) ?_
    refine z_aload_n C dX12_gone_54 4 rfl rfl ?_
    refine f_callVr C hl (As := []) (rest := []) (c_X12_mostFree l B (zu (wHand s N) 113 9 (mS s ||| wBit (nI i))) t N (mK s) (mL s) (mH s) (mS s ||| wBit (nI i)) (s 114 6) (hd_sil (hd_hand mo) (r8_or (mS_r8 mo) (wBit_r (by omega))))) zb_113 (zg_12 zk_113) rfl (zCB (nA := 0) C rfl rfl tw_930 tw_13 tw_927 (by decide +kernel) ⟨Nat.le_of_ble_eq_true rfl, Nat.le_of_ble_eq_true rfl⟩) tw_929 tp_40 rfl rfl (Nat.le_of_ble_eq_true rfl) dX12_gone_55 (Nat.zero_le _) ?_
    refine f_topi (y := wBest (fun b => decide (wWho (mK s) (mL s) (mH s) (mS s ||| wBit (nI i)) (s 114 6) b N = 0)) (255 &&& ((s 114 1 ||| s 114 2) ^^^ (-1))) 255) (by rw [zu_row _ _ (by decide), wHand_114]) ?_
    refine f_callSr C hl (As := [.int (wBest (fun b => decide (wWho (mK s) (mL s) (mH s) (mS s ||| wBit (nI i)) (s 114 6) b N = 0)) (255 &&& ((s 114 1 ||| s 114 2) ^^^ (-1))) 255)]) (rest := []) (c_X12_bits l B (zu (wHand s N) 113 9 (mS s ||| wBit (nI i))) t (wBest (fun b => decide (wWho (mK s) (mL s) (mH s) (mS s ||| wBit (nI i)) (s 114 6) b N = 0)) (255 &&& ((s 114 1 ||| s 114 2) ^^^ (-1))) 255) (wBest_r8 _ _ _ (by decide))) (zCB (nA := 1) C rfl rfl tw_877 tw_13 tw_875 (by decide +kernel) ⟨Nat.le_of_ble_eq_true rfl, Nat.le_of_ble_eq_true rfl⟩) tw_876 rfl rfl (Nat.le_of_ble_eq_true rfl) dX12_gone_58 (Nat.zero_le _) ?_
    refine f_topi (y := mGf s N i) rfl ?_
    refine z_istore C [(6, .int (mGf s N i)), (5, .int (nI i)), (4, .int (mS s)), (3, .int c), (2, .int a), (0, .ref (B.1 + 113)), (1, .int 1)] dX12_gone_61 (by decide) rfl ?_
    refine z_iload C dX12_gone_63 0 rfl ?_
    refine z_iload_n C dX12_gone_65 3 rfl rfl ?_
    refine z_icmp_le C 74 dX12_gone_66 (by decide) (fun h66 => ?_) (fun h66 => ?_)
    · refine z_iload_n C dX12_gone_74 4 rfl rfl ?_
      refine z_istore_n C [(2, .int a), (6, .int (mGf s N i)), (5, .int (nI i)), (4, .int (mS s)), (3, .int c), (0, .ref (B.1 + 113)), (1, .int 1)] dX12_gone_75 rfl (by decide) rfl ?_
      refine z_iload C dX12_gone_76 1 rfl ?_
      refine z_iload_n C dX12_gone_78 4 rfl rfl ?_
      refine z_icmp_le C 87 dX12_gone_79 (by decide) (fun h79 => ?_) (fun h79 => ?_)
      · refine z_iload_n C dX12_gone_87 4 rfl rfl ?_
        refine z_istore_n C [(3, .int c), (2, .int a), (6, .int (mGf s N i)), (5, .int (nI i)), (4, .int (mS s)), (0, .ref (B.1 + 113)), (1, .int 1)] dX12_gone_88 rfl (by decide) rfl ?_
        refine z_iinc C [(5, .int (nI (i + 1))), (3, .int c), (2, .int a), (6, .int (mGf s N i)), (4, .int (mS s)), (0, .ref (B.1 + 113)), (1, .int 1)] dX12_gone_89 3 rfl (nI_inc i) (by decide) rfl ?_
        refine z_goto C 34 dX12_gone_92 (by decide) ?_
        exact z_lv [0, 4, 1, 2, 5, 6] rfl (ih (i + 1) _ _ (by omega) (by rw [wGone, if_pos (by rw [← ha]; exact h66)]; exact ha))
      · refine z_iload C dX12_gone_82 1 rfl ?_
        refine z_goto C 88 dX12_gone_84 (by decide) ?_
        refine z_istore_n C [(3, .int (mGf s N i)), (2, .int a), (6, .int (mGf s N i)), (5, .int (nI i)), (4, .int (mS s)), (0, .ref (B.1 + 113)), (1, .int 1)] dX12_gone_88 rfl (by decide) rfl ?_
        refine z_iinc C [(5, .int (nI (i + 1))), (3, .int (mGf s N i)), (2, .int a), (6, .int (mGf s N i)), (4, .int (mS s)), (0, .ref (B.1 + 113)), (1, .int 1)] dX12_gone_89 3 rfl (nI_inc i) (by decide) rfl ?_
        refine z_goto C 34 dX12_gone_92 (by decide) ?_
        exact absurd h66 h79
    · refine z_iload C dX12_gone_69 1 rfl ?_
      refine z_goto C 75 dX12_gone_71 (by decide) ?_
      refine z_istore_n C [(2, .int (nI i)), (6, .int (mGf s N i)), (5, .int (nI i)), (4, .int (mS s)), (3, .int c), (0, .ref (B.1 + 113)), (1, .int 1)] dX12_gone_75 rfl (by decide) rfl ?_
      refine z_iload C dX12_gone_76 1 rfl ?_
      refine z_iload_n C dX12_gone_78 4 rfl rfl ?_
      refine z_icmp_le C 87 dX12_gone_79 (by decide) (fun h79 => ?_) (fun h79 => ?_)
      · refine z_iload_n C dX12_gone_87 4 rfl rfl ?_
        refine z_istore_n C [(3, .int c), (2, .int (nI i)), (6, .int (mGf s N i)), (5, .int (nI i)), (4, .int (mS s)), (0, .ref (B.1 + 113)), (1, .int 1)] dX12_gone_88 rfl (by decide) rfl ?_
        refine z_iinc C [(5, .int (nI (i + 1))), (3, .int c), (2, .int (nI i)), (6, .int (mGf s N i)), (4, .int (mS s)), (0, .ref (B.1 + 113)), (1, .int 1)] dX12_gone_89 3 rfl (nI_inc i) (by decide) rfl ?_
        refine z_goto C 34 dX12_gone_92 (by decide) ?_
        exact absurd h79 h66
      · refine z_iload C dX12_gone_82 1 rfl ?_
        refine z_goto C 88 dX12_gone_84 (by decide) ?_
        refine z_istore_n C [(3, .int (mGf s N i)), (2, .int (nI i)), (6, .int (mGf s N i)), (5, .int (nI i)), (4, .int (mS s)), (0, .ref (B.1 + 113)), (1, .int 1)] dX12_gone_88 rfl (by decide) rfl ?_
        refine z_iinc C [(5, .int (nI (i + 1))), (3, .int (mGf s N i)), (2, .int (nI i)), (6, .int (mGf s N i)), (4, .int (mS s)), (0, .ref (B.1 + 113)), (1, .int 1)] dX12_gone_89 3 rfl (nI_inc i) (by decide) rfl ?_
        refine z_goto C 34 dX12_gone_92 (by decide) ?_
        exact z_lv [0, 4, 1, 2, 5, 6] rfl (ih (i + 1) _ _ (by omega) (by rw [wGone, if_neg (by rw [← ha]; exact h66)]))
set_option maxRecDepth 100000 in
set_option maxHeartbeats 4000000 in
theorem c_X12_gone_1 (l : Launch) (B : zB) (s : zS) (t : zL) (N : Nat) (mo : mOk s N) : zD l B mX12_gone s t [.ref (B.1 + 113), .int 1] (some (.int ((wGone (mGf s N) N).2))) (zu (wHand s N) 113 9 (mGv s N)) t := by
  have h6 := mo.2.1
  refine z_met (by decide) (Nat.le_of_ble_eq_true rfl) ?_
  intro X hl C E hnm
  show Zf X B mX12_gone s t 0 [(0, .ref (B.1 + 113)), (1, .int 1)] []
  refine z_iload_n C dX12_gone_0 1 rfl rfl ?_
  refine z_i2l C dX12_gone_1 ?_
  refine z_lconst C dX12_gone_2 kl_0 ?_
  refine z_lconst C dX12_gone_3 kl_1 ?_
  refine f_callSr C hl (As := [.long ((1 : Int32).toInt64), .long 0, .long 1]) (rest := []) (c_X12_in0 l B s t 1 1 ((1 : Int32).toInt64) 1 rfl (by decide)) (zCB (nA := 3) C rfl rfl tw_810 tw_13 tw_808 (by decide +kernel) ⟨Nat.le_of_ble_eq_true rfl, Nat.le_of_ble_eq_true rfl⟩) tw_809 rfl rfl (Nat.le_of_ble_eq_true rfl) dX12_gone_4 (Nat.zero_le _) ?_
  refine z_ifb_ne C 17 dX12_gone_7 (by decide) (fun _ => ?_) (fun hbr => Bool.noConfusion (show false = true from hbr.symm.trans (by decide)))
  refine z_iconst C dX12_gone_17 ki_m1 ?_
  refine z_istore_n C [(2, .int (-1)), (0, .ref (B.1 + 113)), (1, .int 1)] dX12_gone_18 rfl (by decide) rfl ?_
  refine z_iconst C dX12_gone_19 ki_m1 ?_
  refine z_istore_n C [(3, .int (-1)), (2, .int (-1)), (0, .ref (B.1 + 113)), (1, .int 1)] dX12_gone_20 rfl (by decide) rfl ?_
  refine z_aload_n C dX12_gone_21 2 rfl rfl ?_
  refine f_callVv C hl (As := []) (rest := []) (c_X12_layHand l B s t N mo.1 mo.2.1) zb_113 (zg_12 zk_113) rfl (zCB (nA := 0) C rfl rfl tw_851 tw_13 tw_848 (by decide +kernel) ⟨Nat.le_of_ble_eq_true rfl, Nat.le_of_ble_eq_true rfl⟩) tw_850 tp_31 rfl rfl (Nat.le_of_ble_eq_true rfl) dX12_gone_22 (Nat.zero_le _) ?_
  refine z_aload_n C dX12_gone_25 2 rfl rfl ?_
  refine f_get12 C 9 (v := .int ((wHand s N) 113 9)) (by decide) tw_753 rfl zk_113 zb_113 rfl dX12_gone_26 ?_
  refine f_topi (y := mS s) (hd_hand mo).2.2.2.2.1 ?_
  refine z_istore C [(4, .int (mS s)), (3, .int (-1)), (2, .int (-1)), (0, .ref (B.1 + 113)), (1, .int 1)] dX12_gone_29 (by decide) rfl ?_
  refine z_iconst C dX12_gone_31 ki_0 ?_
  refine z_istore C [(5, .int 0), (4, .int (mS s)), (3, .int (-1)), (2, .int (-1)), (0, .ref (B.1 + 113)), (1, .int 1)] dX12_gone_32 (by decide) rfl ?_
  refine z_G (congrArg (fun z => zg B z t) (show wHand s N = (zu (wHand s N) 113 9 (mGv s 0)) by rw [show mGv s 0 = wHand s N 113 9 from (hd_hand mo).2.2.2.2.1.symm, zu_self])) ?_
  exact z_lv [0, 1, 2, 3, 4, 5] rfl (l_X12_gone1 hl C N mo h6 E N 0 _ _ (by omega) rfl)
