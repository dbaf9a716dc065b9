theorem zu_zu (s : zS) (k j : Nat) (v w : Int32) : zu (zu s k j v) k j w = zu s k j w := by
  funext a b
  simp only [zu]
  split <;> rfl
theorem zu_self (s : zS) (k j : Nat) : zu s k j (s k j) = s := by
  funext a b
  simp only [zu]
  split
  · next h => rw [h.1, h.2]
  · rfl
/-- one note fits, as the model's row says -/
def mNote (q : Nat → Int32) (dep k lo ha : Int32) (n : Nat) : Bool := decide (¬ q (33 + 4 * n) = dep) || (wStop k lo ha (q (33 + 4 * n + 1)) (q (33 + 4 * n + 2)) == decide (q (33 + 4 * n + 3) = 1))
def mFit (q : Nat → Int32) (dep k lo ha : Int32) (M : Nat) : Bool := wAll (mNote q dep k lo ha) M
abbrev mX12_areSo : zM := (yX12_areSo, cX12_areSo, 5, (some .boolean), { frames := 3, cells := 0, slots := 0, locals := 69 })
set_option maxRecDepth 100000 in
set_option maxHeartbeats 4000000 in
theorem l_X12_areSo {l : Launch} {B : zB} {s : zS} {t : zL} {X : zX} (hl : X.2.1 = l) (C : zC X B mX12_areSo) (d : Nat) (hd : d < 6) (k lo ha : Int32) (e1 : s 118 d = k) (e2 : s 119 d = lo) (e3 : s 120 d = ha) (hk : ∃ c, c < 6 ∧ k = nI c) (q : Nat → Int32) (M : Nat) (hM : q 7 = nI M) (hM6 : M ≤ 6) (hB : ∀ n, n < M → r8 (q (33 + 4 * n + 1))) (hq : s 114 = q) (hday : s 113 10 = q 6) (E : zE X B mX12_areSo 124 0 0 (zR B (some (.int (zi (mFit q (nI d) k lo ha M)))) s t)) : ∀ (m : Nat) (i : Nat) (r : Bool) (v : Int32), i + m = M → r = wAll (mNote q (nI d) k lo ha) i → Zf X B mX12_areSo (zu s 113 10 v) t 4 [(3, .int (nI i)), (2, .int (zi r)), (0, .ref (B.1 + 113)), (1, .int (nI d))] [] := by
  intro m
  induction m with
  | zero =>
    intro i r v hi hr
    refine z_iload_n C dX12_areSo_4 0 rfl rfl ?_
    refine z_aload_n C dX12_areSo_5 2 rfl rfl ?_
    refine f_get12 C 0 (v := .ref (B.1 + 114)) (by decide) tw_744 rfl zk_113 zb_113 rfl dX12_areSo_6 ?_
    refine z_bipush C dX12_areSo_9 kb_7 ?_
    refine f_ialdL C zk_114 zb_114 (by unfold vp_in; decide) (j := 7) (by decide) dX12_areSo_11 ?_
    refine f_topi (y := nI M) (by rw [zu_row _ _ (by decide), hq]; exact hM) ?_
    refine z_icmp_ge C 98 dX12_areSo_12 (by decide) (fun _ => ?_) (fun hbr => absurd (nI_le (by omega) (by omega)) hbr)
    refine z_aload_n C dX12_areSo_98 2 rfl rfl ?_
    refine z_aload_n C dX12_areSo_99 2 rfl rfl ?_
    refine f_get12 C 0 (v := .ref (B.1 + 114)) (by decide) tw_744 rfl zk_113 zb_113 rfl dX12_areSo_100 ?_
    refine z_bipush C dX12_areSo_103 kb_6 ?_
    refine f_ialdL C zk_114 zb_114 (by unfold vp_in; decide) (j := 6) (by decide) dX12_areSo_105 ?_
    refine f_topi (y := q 6) (by rw [zu_row _ _ (by decide), hq]) ?_
    refine f_put12_10 C tw_754 zk_113 zb_113 dX12_areSo_106 ?_
    refine z_iload_n C dX12_areSo_109 1 rfl rfl ?_
    refine z_zret C E rfl dX12_areSo_110 (zi_nar _) rfl (Nat.le_refl _) ⟨by rw [hr, show i = M by omega]; rfl, congrArg (fun z => zg B z t) (by rw [zu_zu, ← hday, zu_self])⟩
  | succ m ih =>
    intro i r v hi0 hr
    have hi : i < M := by omega
    refine z_iload_n C dX12_areSo_4 0 rfl rfl ?_
    refine z_aload_n C dX12_areSo_5 2 rfl rfl ?_
    refine f_get12 C 0 (v := .ref (B.1 + 114)) (by decide) tw_744 rfl zk_113 zb_113 rfl dX12_areSo_6 ?_
    refine z_bipush C dX12_areSo_9 kb_7 ?_
    refine f_ialdL C zk_114 zb_114 (by unfold vp_in; decide) (j := 7) (by decide) dX12_areSo_11 ?_
    refine f_topi (y := nI M) (by rw [zu_row _ _ (by decide), hq]; exact hM) ?_
    refine z_icmp_ge C 98 dX12_areSo_12 (by decide) (fun hbr => absurd hbr (nI_ge hi (by omega))) (fun _ => ?_)
    refine z_bipush C dX12_areSo_15 kb_33 ?_
    refine z_iconst C dX12_areSo_17 ki_4 ?_
    refine z_iload_n C dX12_areSo_18 0 rfl rfl ?_
    refine z_imul C dX12_areSo_19 ?_
    refine z_iadd C dX12_areSo_20 ?_
    refine f_topi (y := nI (33 + 4 * i)) (nA (a := 33) rfl (nM (a := 4) rfl rfl rfl) rfl) ?_
    refine z_istore C [(4, .int (nI (33 + 4 * i))), (3, .int (nI i)), (2, .int (zi r)), (0, .ref (B.1 + 113)), (1, .int (nI d))] dX12_areSo_21 (by decide) rfl ?_
    refine z_aload_n C dX12_areSo_23 3 rfl rfl ?_
    refine z_aload_n C dX12_areSo_24 3 rfl rfl ?_
    refine f_get12 C 0 (v := .ref (B.1 + 114)) (by decide) tw_744 rfl zk_113 zb_113 rfl dX12_areSo_25 ?_
    refine z_iload C dX12_areSo_28 0 rfl ?_
    refine z_iconst C dX12_areSo_30 ki_2 ?_
    refine z_iadd C dX12_areSo_31 ?_
    refine f_ialdL C zk_114 zb_114 (ixN (n := 105) (nA rfl (b := 2) rfl rfl) (by omega) (by decide)).1 (j := (33 + 4 * i + 2)) (ixN (n := 105) (nA rfl (b := 2) rfl rfl) (by omega) (by decide)).2 dX12_areSo_32 ?_
    refine f_topi (y := q (33 + 4 * i + 2)) (by rw [zu_row _ _ (by decide), hq]) ?_
    refine f_put12_10 C tw_754 zk_113 zb_113 dX12_areSo_33 ?_
    refine z_G (congrArg (fun z => zg B z t) (zu_zu s 113 10 _ _)) ?_
    refine z_iload_n C dX12_areSo_36 2 rfl rfl ?_
    refine z_ifb_eq C 90 dX12_areSo_37 (by decide) (fun h37 => ?_) (fun h37 => ?_)
    · refine z_iconst C dX12_areSo_90 ki_0 ?_
      refine z_istore_n C [(2, .int 0), (4, .int (nI (33 + 4 * i))), (3, .int (nI i)), (0, .ref (B.1 + 113)), (1, .int (nI d))] dX12_areSo_91 rfl (by decide) rfl ?_
      refine z_iinc C [(3, .int (nI (i + 1))), (2, .int 0), (4, .int (nI (33 + 4 * i))), (0, .ref (B.1 + 113)), (1, .int (nI d))] dX12_areSo_92 2 rfl (nI_inc i) (by decide) rfl ?_
      refine z_goto C 4 dX12_areSo_95 (by decide) ?_
      exact z_lv (lv2 := [(3, .int (nI (i + 1))), (2, .int (zi false)), (0, .ref (B.1 + 113)), (1, .int (nI d))]) [0, 1, 3, 4] rfl (ih (i + 1) _ _ (by omega) (by rw [wAll, ← hr, h37]; rfl))
    · refine z_aload_n C dX12_areSo_40 3 rfl rfl ?_
      refine f_get12 C 0 (v := .ref (B.1 + 114)) (by decide) tw_744 rfl zk_113 zb_113 rfl dX12_areSo_41 ?_
      refine z_iload C dX12_areSo_44 0 rfl ?_
      refine f_ialdL C zk_114 zb_114 (ixN (n := 105) rfl (by omega) (by decide)).1 (j := (33 + 4 * i)) (ixN (n := 105) rfl (by omega) (by decide)).2 dX12_areSo_46 ?_
      refine f_topi (y := q (33 + 4 * i)) (by rw [zu_row _ _ (by decide), hq]) ?_
      refine z_iload_n C dX12_areSo_47 4 rfl rfl ?_
      refine z_icmp_ne C 86 dX12_areSo_48 (by decide) (fun h48 => ?_) (fun h48 => ?_)
      · refine z_iconst C dX12_areSo_86 ki_1 ?_
        refine z_goto C 91 dX12_areSo_87 (by decide) ?_
        refine z_istore_n C [(2, .int 1), (4, .int (nI (33 + 4 * i))), (3, .int (nI i)), (0, .ref (B.1 + 113)), (1, .int (nI d))] dX12_areSo_91 rfl (by decide) rfl ?_
        refine z_iinc C [(3, .int (nI (i + 1))), (2, .int 1), (4, .int (nI (33 + 4 * i))), (0, .ref (B.1 + 113)), (1, .int (nI d))] dX12_areSo_92 2 rfl (nI_inc i) (by decide) rfl ?_
        refine z_goto C 4 dX12_areSo_95 (by decide) ?_
        exact z_lv (lv2 := [(3, .int (nI (i + 1))), (2, .int (zi true)), (0, .ref (B.1 + 113)), (1, .int (nI d))]) [0, 1, 3, 4] rfl (ih (i + 1) _ _ (by omega) (by rw [wAll, ← hr, h37, mNote, decide_eq_true h48]; rfl))
      · refine z_aload_n C dX12_areSo_51 3 rfl rfl ?_
        refine z_iload_n C dX12_areSo_52 4 rfl rfl ?_
        refine z_aload_n C dX12_areSo_53 3 rfl rfl ?_
        refine f_get12 C 0 (v := .ref (B.1 + 114)) (by decide) tw_744 rfl zk_113 zb_113 rfl dX12_areSo_54 ?_
        refine z_iload C dX12_areSo_57 0 rfl ?_
        refine z_iconst C dX12_areSo_59 ki_1 ?_
        refine z_iadd C dX12_areSo_60 ?_
        refine f_ialdL C zk_114 zb_114 (ixN (n := 105) (nA rfl (b := 1) rfl rfl) (by omega) (by decide)).1 (j := (33 + 4 * i + 1)) (ixN (n := 105) (nA rfl (b := 1) rfl rfl) (by omega) (by decide)).2 dX12_areSo_61 ?_
        refine f_topi (y := q (33 + 4 * i + 1)) (by rw [zu_row _ _ (by decide), hq]) ?_
        refine f_callVr C hl (As := [.int (nI d), .int (q (33 + 4 * i + 1))]) (rest := []) (c_X12_stopsOf l B (zu s 113 10 (q (33 + 4 * i + 2))) t d hd k lo ha (q (33 + 4 * i + 2)) (by rw [zu_row _ _ (by decide)]; exact e1) (by rw [zu_row _ _ (by decide)]; exact e2) (by rw [zu_row _ _ (by decide)]; exact e3) (zu_same _ _ _ _) (q (33 + 4 * i + 1)) (hB i hi) hk) zb_113 (zg_12 zk_113) rfl (zCB (nA := 2) C rfl rfl tw_870 tw_13 tw_867 (by decide +kernel) ⟨Nat.le_of_ble_eq_true rfl, Nat.le_of_ble_eq_true rfl⟩) tw_869 tp_35 rfl rfl (Nat.le_of_ble_eq_true rfl) dX12_areSo_62 (Nat.zero_le _) ?_
        refine z_aload_n C dX12_areSo_65 3 rfl rfl ?_
        refine f_get12 C 0 (v := .ref (B.1 + 114)) (by decide) tw_744 rfl zk_113 zb_113 rfl dX12_areSo_66 ?_
        refine z_iload C dX12_areSo_69 0 rfl ?_
        refine z_iconst C dX12_areSo_71 ki_3 ?_
        refine z_iadd C dX12_areSo_72 ?_
        refine f_ialdL C zk_114 zb_114 (ixN (n := 105) (nA rfl (b := 3) rfl rfl) (by omega) (by decide)).1 (j := (33 + 4 * i + 3)) (ixN (n := 105) (nA rfl (b := 3) rfl rfl) (by omega) (by decide)).2 dX12_areSo_73 ?_
        refine f_topi (y := q (33 + 4 * i + 3)) (by rw [zu_row _ _ (by decide), hq]) ?_
        refine z_iconst C dX12_areSo_74 ki_1 ?_
        refine z_icmp_ne C 82 dX12_areSo_75 (by decide) (fun h75 => ?_) (fun h75 => ?_)
        · refine z_iconst C dX12_areSo_82 ki_0 ?_
          refine z_icmp_ne C 90 dX12_areSo_83 (by decide) (fun h83 => ?_) (fun h83 => ?_)
          · refine z_iconst C dX12_areSo_90 ki_0 ?_
            refine z_istore_n C [(2, .int 0), (4, .int (nI (33 + 4 * i))), (3, .int (nI i)), (0, .ref (B.1 + 113)), (1, .int (nI d))] dX12_areSo_91 rfl (by decide) rfl ?_
            refine z_iinc C [(3, .int (nI (i + 1))), (2, .int 0), (4, .int (nI (33 + 4 * i))), (0, .ref (B.1 + 113)), (1, .int (nI d))] dX12_areSo_92 2 rfl (nI_inc i) (by decide) rfl ?_
            refine z_goto C 4 dX12_areSo_95 (by decide) ?_
            exact z_lv (lv2 := [(3, .int (nI (i + 1))), (2, .int (zi false)), (0, .ref (B.1 + 113)), (1, .int (nI d))]) [0, 1, 3, 4] rfl (ih (i + 1) _ _ (by omega) (by rw [wAll, ← hr, h37, mNote, show decide (¬ q (33 + 4 * i) = nI d) = false from decide_eq_false (fun z => z h48), decide_eq_false h75]; revert h83; cases (wStop k lo ha (q (33 + 4 * i + 1)) (q (33 + 4 * i + 2))) <;> decide))
          · refine z_iconst C dX12_areSo_86 ki_1 ?_
            refine z_goto C 91 dX12_areSo_87 (by decide) ?_
            refine z_istore_n C [(2, .int 1), (4, .int (nI (33 + 4 * i))), (3, .int (nI i)), (0, .ref (B.1 + 113)), (1, .int (nI d))] dX12_areSo_91 rfl (by decide) rfl ?_
            refine z_iinc C [(3, .int (nI (i + 1))), (2, .int 1), (4, .int (nI (33 + 4 * i))), (0, .ref (B.1 + 113)), (1, .int (nI d))] dX12_areSo_92 2 rfl (nI_inc i) (by decide) rfl ?_
            refine z_goto C 4 dX12_areSo_95 (by decide) ?_
            exact z_lv (lv2 := [(3, .int (nI (i + 1))), (2, .int (zi true)), (0, .ref (B.1 + 113)), (1, .int (nI d))]) [0, 1, 3, 4] rfl (ih (i + 1) _ _ (by omega) (by rw [wAll, ← hr, h37, mNote, show decide (¬ q (33 + 4 * i) = nI d) = false from decide_eq_false (fun z => z h48), decide_eq_false h75]; revert h83; cases (wStop k lo ha (q (33 + 4 * i + 1)) (q (33 + 4 * i + 2))) <;> decide))
        · refine z_iconst C dX12_areSo_78 ki_1 ?_
          refine z_goto C 83 dX12_areSo_79 (by decide) ?_
          refine z_icmp_ne C 90 dX12_areSo_83 (by decide) (fun h83 => ?_) (fun h83 => ?_)
          · refine z_iconst C dX12_areSo_90 ki_0 ?_
            refine z_istore_n C [(2, .int 0), (4, .int (nI (33 + 4 * i))), (3, .int (nI i)), (0, .ref (B.1 + 113)), (1, .int (nI d))] dX12_areSo_91 rfl (by decide) rfl ?_
            refine z_iinc C [(3, .int (nI (i + 1))), (2, .int 0), (4, .int (nI (33 + 4 * i))), (0, .ref (B.1 + 113)), (1, .int (nI d))] dX12_areSo_92 2 rfl (nI_inc i) (by decide) rfl ?_
            refine z_goto C 4 dX12_areSo_95 (by decide) ?_
            exact z_lv (lv2 := [(3, .int (nI (i + 1))), (2, .int (zi false)), (0, .ref (B.1 + 113)), (1, .int (nI d))]) [0, 1, 3, 4] rfl (ih (i + 1) _ _ (by omega) (by rw [wAll, ← hr, h37, mNote, show decide (¬ q (33 + 4 * i) = nI d) = false from decide_eq_false (fun z => z h48), decide_eq_true h75]; revert h83; cases (wStop k lo ha (q (33 + 4 * i + 1)) (q (33 + 4 * i + 2))) <;> decide))
          · refine z_iconst C dX12_areSo_86 ki_1 ?_
            refine z_goto C 91 dX12_areSo_87 (by decide) ?_
            refine z_istore_n C [(2, .int 1), (4, .int (nI (33 + 4 * i))), (3, .int (nI i)), (0, .ref (B.1 + 113)), (1, .int (nI d))] dX12_areSo_91 rfl (by decide) rfl ?_
            refine z_iinc C [(3, .int (nI (i + 1))), (2, .int 1), (4, .int (nI (33 + 4 * i))), (0, .ref (B.1 + 113)), (1, .int (nI d))] dX12_areSo_92 2 rfl (nI_inc i) (by decide) rfl ?_
            refine z_goto C 4 dX12_areSo_95 (by decide) ?_
            exact z_lv (lv2 := [(3, .int (nI (i + 1))), (2, .int (zi true)), (0, .ref (B.1 + 113)), (1, .int (nI d))]) [0, 1, 3, 4] rfl (ih (i + 1) _ _ (by omega) (by rw [wAll, ← hr, h37, mNote, show decide (¬ q (33 + 4 * i) = nI d) = false from decide_eq_false (fun z => z h48), decide_eq_true h75]; revert h83; cases (wStop k lo ha (q (33 + 4 * i + 1)) (q (33 + 4 * i + 2))) <;> decide))
set_option maxRecDepth 100000 in
set_option maxHeartbeats 4000000 in
theorem c_X12_areSo (l : Launch) (B : zB) (s : zS) (t : zL) (d : Nat) (hd : d < 6) (k lo ha : Int32) (e1 : s 118 d = k) (e2 : s 119 d = lo) (e3 : s 120 d = ha) (hk : ∃ c, c < 6 ∧ k = nI c) (q : Nat → Int32) (M : Nat) (hM : q 7 = nI M) (hM6 : M ≤ 6) (hB : ∀ n, n < M → r8 (q (33 + 4 * n + 1))) (hq : s 114 = q) (hday : s 113 10 = q 6) : zD l B mX12_areSo s t [.ref (B.1 + 113), .int (nI d)] (some (.int (zi (mFit q (nI d) k lo ha M)))) s t := by
  refine z_met (by decide) (Nat.le_of_ble_eq_true rfl) ?_
  intro X hl C E hnm
  show Zf X B mX12_areSo s t 0 [(0, .ref (B.1 + 113)), (1, .int (nI d))] []
  refine z_iconst C dX12_areSo_0 ki_1 ?_
  refine z_istore_n C [(2, .int 1), (0, .ref (B.1 + 113)), (1, .int (nI d))] dX12_areSo_1 rfl (by decide) rfl ?_
  refine z_iconst C dX12_areSo_2 ki_0 ?_
  refine z_istore_n C [(3, .int 0), (2, .int 1), (0, .ref (B.1 + 113)), (1, .int (nI d))] dX12_areSo_3 rfl (by decide) rfl ?_
  refine z_G (congrArg (fun z => zg B z t) (zu_self s 113 10).symm) ?_
  exact z_lv (lv2 := [(3, .int (nI 0)), (2, .int (zi true)), (0, .ref (B.1 + 113)), (1, .int (nI d))]) [0, 1, 2, 3] rfl (l_X12_areSo hl C d hd k lo ha e1 e2 e3 hk q M hM hM6 hB hq hday E M 0 true _ (by omega) rfl)
abbrev mX12_kindsOf : zM := (yX12_kindsOf, cX12_kindsOf, 4, (some .int), { frames := 4, cells := 0, slots := 0, locals := 93 })
theorem hd_day {s : zS} {N : Nat} (mo : mOk s N) : wHand s N 113 10 = s 114 6 := (hd_hand mo).2.2.2.2.2.2
theorem r8_1 : r8 1 := by unfold r8; decide
set_option maxRecDepth 100000 in
set_option maxHeartbeats 4000000 in
theorem l_X12_kindsOf {l : Launch} {B : zB} {s : zS} {t : zL} {X : zX} (hl : X.2.1 = l) (C : zC X B mX12_kindsOf) (N : Nat) (mo : mOk s N) (h6 : N ≤ 6) (d : Nat) (hd0 : d < N) (M : Nat) (hM : s 114 7 = nI M) (hM6 : M ≤ 6) (hB : ∀ n, n < M → r8 (s 114 (33 + 4 * n + 1))) (E : zE X B mX12_kindsOf 124 0 0 (zR B (some (.int (wCol (fun c => mFit (s 114) (nI d) (nI c) (mL s d) (mH s d) M) 6))) (zu (wHand s N) 118 d 5) t)) : ∀ (m : Nat) (i : Nat) (a v : Int32), i + m = 6 → a = wCol (fun c => mFit (s 114) (nI d) (nI c) (mL s d) (mH s d) M) i → (0 < i → v = nI (i - 1)) → Zf X B mX12_kindsOf (zu (wHand s N) 118 d v) t 8 [(3, .int (nI i)), (2, .int a), (0, .ref (B.1 + 113)), (1, .int (nI d))] [] := by
  intro m
  induction m with
  | zero =>
    intro i a v hi ha hv
    obtain rfl : i = 6 := by omega
    refine z_iload_n C dX12_kindsOf_8 0 rfl rfl ?_
    refine z_bipush C dX12_kindsOf_9 kb_6 ?_
    refine z_icmp_ge C 45 dX12_kindsOf_11 (by decide) (fun _ => ?_) (fun hbr => absurd (by decide) hbr)
    refine z_iload_n C dX12_kindsOf_45 1 rfl rfl ?_
    refine z_iret C E rfl dX12_kindsOf_46 rfl (Nat.le_refl _) ⟨by rw [ha], congrArg (fun z => zg B z t) (by rw [hv (by decide)]; rfl)⟩
  | succ m ih =>
    intro i a v hi0 ha hv
    have hi : i < 6 := by omega
    refine z_iload_n C dX12_kindsOf_8 0 rfl rfl ?_
    refine z_bipush C dX12_kindsOf_9 kb_6 ?_
    refine z_icmp_ge C 45 dX12_kindsOf_11 (by decide) (fun hbr => absurd hbr (show ¬ nI 6 ≤ nI i from nI_ge hi (by decide))) (fun _ => ?_)
    refine z_aload_n C dX12_kindsOf_14 2 rfl rfl ?_
    refine f_get12 C 6 (v := .ref (B.1 + 118)) (by decide) tw_750 rfl zk_113 zb_113 rfl dX12_kindsOf_15 ?_
    refine z_iload_n C dX12_kindsOf_18 3 rfl rfl ?_
    refine z_iload_n C dX12_kindsOf_19 0 rfl rfl ?_
    refine f_iastL C zk_118 zb_118 (ixN (n := 6) rfl (by omega) (by decide)).1 (j := d) (ixN (n := 6) rfl (by omega) (by decide)).2 dX12_kindsOf_20 ?_
    refine z_G (congrArg (fun z => zg B z t) (zu_zu _ 118 d _ _)) ?_
    refine z_iload_n C dX12_kindsOf_21 1 rfl rfl ?_
    refine z_aload_n C dX12_kindsOf_22 2 rfl rfl ?_
    refine z_iload_n C dX12_kindsOf_23 3 rfl rfl ?_
    refine f_callVr C hl (As := [.int (nI d)]) (rest := [.int a]) (c_X12_areSo l B (zu (wHand s N) 118 d (nI i)) t d (by omega) (nI i) (mL s d) (mH s d) (zu_same _ _ _ _) (by rw [zu_row _ _ (by decide)]; exact ((hd_hand mo).2.2.1 d hd0).2.1) (by rw [zu_row _ _ (by decide)]; exact ((hd_hand mo).2.2.1 d hd0).2.2) ⟨i, hi, rfl⟩ (s 114) M hM hM6 hB (by rw [zu_row _ _ (by decide), wHand_114]) (by rw [zu_row _ _ (by decide)]; exact hd_day mo)) zb_113 (zg_12 zk_113) rfl (zCB (nA := 1) C rfl rfl tw_984 tw_13 tw_981 (by decide +kernel) ⟨Nat.le_of_ble_eq_true rfl, Nat.le_of_ble_eq_true rfl⟩) tw_983 tp_44 rfl rfl (Nat.le_of_ble_eq_true rfl) dX12_kindsOf_24 (Nat.zero_le _) ?_
    refine z_ifb_eq C 36 dX12_kindsOf_27 (by decide) (fun h27 => ?_) (fun h27 => ?_)
    · refine z_iconst C dX12_kindsOf_36 ki_0 ?_
      refine z_ior C dX12_kindsOf_37 ?_
      refine z_istore_n C [(2, .int (a ||| 0)), (3, .int (nI i)), (0, .ref (B.1 + 113)), (1, .int (nI d))] dX12_kindsOf_38 rfl (by decide) rfl ?_
      refine z_iinc C [(3, .int (nI (i + 1))), (2, .int (a ||| 0)), (0, .ref (B.1 + 113)), (1, .int (nI d))] dX12_kindsOf_39 1 rfl (nI_inc i) (by decide) rfl ?_
      refine z_goto C 8 dX12_kindsOf_42 (by decide) ?_
      exact z_lv [0, 1, 2, 3] rfl (ih (i + 1) _ _ (by omega) (by rw [Int32.or_zero]; exact wCol_n ha h27) (fun _ => rfl))
    · refine z_iconst C dX12_kindsOf_30 ki_1 ?_
      refine z_iload_n C dX12_kindsOf_31 0 rfl rfl ?_
      refine z_ishl C dX12_kindsOf_32 ?_
      refine z_goto C 37 dX12_kindsOf_33 (by decide) ?_
      refine z_ior C dX12_kindsOf_37 ?_
      refine z_istore_n C [(2, .int (a ||| (1 <<< ((nI i) &&& 31)))), (3, .int (nI i)), (0, .ref (B.1 + 113)), (1, .int (nI d))] dX12_kindsOf_38 rfl (by decide) rfl ?_
      refine z_iinc C [(3, .int (nI (i + 1))), (2, .int (a ||| (1 <<< ((nI i) &&& 31)))), (0, .ref (B.1 + 113)), (1, .int (nI d))] dX12_kindsOf_39 1 rfl (nI_inc i) (by decide) rfl ?_
      refine z_goto C 8 dX12_kindsOf_42 (by decide) ?_
      exact z_lv [0, 1, 2, 3] rfl (ih (i + 1) _ _ (by omega) (by rw [← wBit_nI (by omega)]; exact wCol_y ha h27) (fun _ => rfl))
set_option maxRecDepth 100000 in
set_option maxHeartbeats 4000000 in
theorem c_X12_kindsOf (l : Launch) (B : zB) (s : zS) (t : zL) (N : Nat) (mo : mOk s N) (d : Nat) (hd0 : d < N) (M : Nat) (hM : s 114 7 = nI M) (hM6 : M ≤ 6) (hB : ∀ n, n < M → r8 (s 114 (33 + 4 * n + 1))) : zD l B mX12_kindsOf s t [.ref (B.1 + 113), .int (nI d)] (some (.int (wCol (fun c => mFit (s 114) (nI d) (nI c) (mL s d) (mH s d) M) 6))) (zu (wHand s N) 118 d 5) t := by
  have h6 := mo.2.1
  refine z_met (by decide) (Nat.le_of_ble_eq_true rfl) ?_
  intro X hl C E hnm
  show Zf X B mX12_kindsOf s t 0 [(0, .ref (B.1 + 113)), (1, .int (nI d))] []
  refine z_iconst C dX12_kindsOf_0 ki_0 ?_
  refine z_istore_n C [(2, .int 0), (0, .ref (B.1 + 113)), (1, .int (nI d))] dX12_kindsOf_1 rfl (by decide) rfl ?_
  refine z_aload_n C dX12_kindsOf_2 1 rfl rfl ?_
  refine f_callVv C hl (As := []) (rest := []) (c_X12_layHand l B s t N mo.1 mo.2.1) zb_113 (zg_12 zk_113) rfl (zCB (nA := 0) C rfl rfl tw_851 tw_13 tw_848 (by decide +kernel) ⟨Nat.le_of_ble_eq_true rfl, Nat.le_of_ble_eq_true rfl⟩) tw_850 tp_31 rfl rfl (Nat.le_of_ble_eq_true rfl) dX12_kindsOf_3 (Nat.zero_le _) ?_
  refine z_iconst C dX12_kindsOf_6 ki_0 ?_
  refine z_istore_n C [(3, .int 0), (2, .int 0), (0, .ref (B.1 + 113)), (1, .int (nI d))] dX12_kindsOf_7 rfl (by decide) rfl ?_
  refine z_G (congrArg (fun z => zg B z t) (zu_self _ 118 d).symm) ?_
  exact z_lv [0, 1, 2, 3] rfl (l_X12_kindsOf hl C N mo h6 d hd0 M hM hM6 hB E 6 0 0 _ (by omega) rfl (fun z => absurd z (by decide)))
abbrev mX12_is : zM := (yX12_is, cX12_is, 2, (some .int), { frames := 5, cells := 0, slots := 0, locals := 116 })
set_option maxRecDepth 100000 in
set_option maxHeartbeats 4000000 in
theorem c_X12_is_bad (l : Launch) (B : zB) (s : zS) (t : zL) (x : Int32) (g : wIn x (s 114 0 - 1) = false) : zD l B mX12_is s t [.ref (B.1 + 113), .int x] (some (.int (-2))) (zu s 117 0 (s 117 0 + 1)) t := by
  refine z_met (by decide) (Nat.le_of_ble_eq_true rfl) ?_
  intro X hl C E hnm
  show Zf X B mX12_is s t 0 [(0, .ref (B.1 + 113)), (1, .int x)] []
  refine z_aload_n C dX12_is_0 0 rfl rfl ?_
  refine z_iload_n C dX12_is_1 1 rfl rfl ?_
  refine f_callVr C hl (As := [.int x]) (rest := []) (c_X12_isDeputy l B s t x) zb_113 (zg_12 zk_113) rfl (zCB (nA := 1) C rfl rfl tw_893 tw_13 tw_890 (by decide +kernel) ⟨Nat.le_of_ble_eq_true rfl, Nat.le_of_ble_eq_true rfl⟩) tw_892 tp_38 rfl rfl (Nat.le_of_ble_eq_true rfl) dX12_is_2 (Nat.zero_le _) ?_
  refine z_ifb_eq C 16 dX12_is_5 (by decide) (fun _ => ?_) (fun hbr => Bool.noConfusion (show true = false from hbr.symm.trans g))
  refine z_aload_n C dX12_is_16 0 rfl rfl ?_
  refine z_bipush C dX12_is_17 kb_m2 ?_
  refine f_callVr C hl (As := [.int (-2)]) (rest := []) (c_X12_bad l B s t (-2)) zb_113 (zg_12 zk_113) rfl (zCB (nA := 1) C rfl rfl tw_814 tw_13 tw_811 (by decide +kernel) ⟨Nat.le_of_ble_eq_true rfl, Nat.le_of_ble_eq_true rfl⟩) tw_813 tp_26 rfl rfl (Nat.le_of_ble_eq_true rfl) dX12_is_19 (Nat.zero_le _) ?_
  refine z_iret C E rfl dX12_is_22 rfl (Nat.le_refl _) ⟨rfl, rfl⟩
set_option maxRecDepth 100000 in
set_option maxHeartbeats 4000000 in
theorem c_X12_is_ok (l : Launch) (B : zB) (s : zS) (t : zL) (N : Nat) (mo : mOk s N) (d : Nat) (hd0 : d < N) (M : Nat) (hM : s 114 7 = nI M) (hM6 : M ≤ 6) (hB : ∀ n, n < M → r8 (s 114 (33 + 4 * n + 1))) (g : wIn (nI d) (s 114 0 - 1) = true) : zD l B mX12_is s t [.ref (B.1 + 113), .int (nI d)] (some (.int (wCol (fun c => mFit (s 114) (nI d) (nI c) (mL s d) (mH s d) M) 6))) (zu (wHand s N) 118 d 5) t := by
  refine z_met (by decide) (Nat.le_of_ble_eq_true rfl) ?_
  intro X hl C E hnm
  show Zf X B mX12_is s t 0 [(0, .ref (B.1 + 113)), (1, .int (nI d))] []
  refine z_aload_n C dX12_is_0 0 rfl rfl ?_
  refine z_iload_n C dX12_is_1 1 rfl rfl ?_
  refine f_callVr C hl (As := [.int (nI d)]) (rest := []) (c_X12_isDeputy l B s t (nI d)) zb_113 (zg_12 zk_113) rfl (zCB (nA := 1) C rfl rfl tw_893 tw_13 tw_890 (by decide +kernel) ⟨Nat.le_of_ble_eq_true rfl, Nat.le_of_ble_eq_true rfl⟩) tw_892 tp_38 rfl rfl (Nat.le_of_ble_eq_true rfl) dX12_is_2 (Nat.zero_le _) ?_
  refine z_ifb_eq C 16 dX12_is_5 (by decide) (fun hbr => absurd hbr (by rw [g]; decide)) (fun _ => ?_)
  refine z_aload_n C dX12_is_8 0 rfl rfl ?_
  refine z_iload_n C dX12_is_9 1 rfl rfl ?_
  refine f_callVr C hl (As := [.int (nI d)]) (rest := []) (c_X12_kindsOf l B s t N mo d hd0 M hM hM6 hB) zb_113 (zg_12 zk_113) rfl (zCB (nA := 1) C rfl rfl tw_980 tw_13 tw_977 (by decide +kernel) ⟨Nat.le_of_ble_eq_true rfl, Nat.le_of_ble_eq_true rfl⟩) tw_979 tp_43 rfl rfl (Nat.le_of_ble_eq_true rfl) dX12_is_10 (Nat.zero_le _) ?_
  refine z_goto C 22 dX12_is_13 (by decide) ?_
  refine z_iret C E rfl dX12_is_22 rfl (Nat.le_refl _) ⟨rfl, rfl⟩
abbrev mX12_holds : zM := (yX12_holds, cX12_holds, 5, (some .int), { frames := 4, cells := 0, slots := 0, locals := 93 })
set_option maxRecDepth 100000 in
set_option maxHeartbeats 4000000 in
theorem c_X12_holds_bad (l : Launch) (B : zB) (s : zS) (t : zL) (x w : Int32) (h : (wIn x (s 114 0 - 1) && wIn w 7) = false) : zD l B mX12_holds s t [.ref (B.1 + 113), .int x, .int w] (some (.int (-2))) (zu s 117 0 (s 117 0 + 1)) t := by
  refine z_met (by decide) (Nat.le_of_ble_eq_true rfl) ?_
  intro X hl C E hnm
  show Zf X B mX12_holds s t 0 [(0, .ref (B.1 + 113)), (1, .int x), (2, .int w)] []
  refine z_aload_n C dX12_holds_0 0 rfl rfl ?_
  refine z_iload_n C dX12_holds_1 1 rfl rfl ?_
  refine f_callVr C hl (As := [.int x]) (rest := []) (c_X12_isDeputy l B s t x) zb_113 (zg_12 zk_113) rfl (zCB (nA := 1) C rfl rfl tw_893 tw_13 tw_890 (by decide +kernel) ⟨Nat.le_of_ble_eq_true rfl, Nat.le_of_ble_eq_true rfl⟩) tw_892 tp_38 rfl rfl (Nat.le_of_ble_eq_true rfl) dX12_holds_2 (Nat.zero_le _) ?_
  refine z_ifb_eq C 20 dX12_holds_5 (by decide) (fun h5 => ?_) (fun h5 => ?_)
  · refine z_aload_n C dX12_holds_20 0 rfl rfl ?_
    refine z_bipush C dX12_holds_21 kb_m2 ?_
    refine f_callVr C hl (As := [.int (-2)]) (rest := []) (c_X12_bad l B s t (-2)) zb_113 (zg_12 zk_113) rfl (zCB (nA := 1) C rfl rfl tw_814 tw_13 tw_811 (by decide +kernel) ⟨Nat.le_of_ble_eq_true rfl, Nat.le_of_ble_eq_true rfl⟩) tw_813 tp_26 rfl rfl (Nat.le_of_ble_eq_true rfl) dX12_holds_23 (Nat.zero_le _) ?_
    refine z_iret C E rfl dX12_holds_26 rfl (Nat.le_refl _) ⟨rfl, rfl⟩
  · refine z_iload_n C dX12_holds_8 2 rfl rfl ?_
    refine z_i2l C dX12_holds_9 ?_
    refine z_lconst C dX12_holds_10 kl_0 ?_
    refine z_ldc2 C dX12_holds_11 tw_989 ?_
    refine f_callSr C hl (As := [.long ((w : Int32).toInt64), .long 0, .long 7]) (rest := []) (c_X12_in0 l B s t w 7 ((w : Int32).toInt64) 7 rfl (by decide)) (zCB (nA := 3) C rfl rfl tw_810 tw_13 tw_808 (by decide +kernel) ⟨Nat.le_of_ble_eq_true rfl, Nat.le_of_ble_eq_true rfl⟩) tw_809 rfl rfl (Nat.le_of_ble_eq_true rfl) dX12_holds_14 (Nat.zero_le _) ?_
    refine z_ifb_ne C 27 dX12_holds_17 (by decide) (fun h17 => ?_) (fun h17 => ?_)
    · exact absurd h (by rw [h5, h17]; decide)
    · refine z_aload_n C dX12_holds_20 0 rfl rfl ?_
      refine z_bipush C dX12_holds_21 kb_m2 ?_
      refine f_callVr C hl (As := [.int (-2)]) (rest := []) (c_X12_bad l B s t (-2)) zb_113 (zg_12 zk_113) rfl (zCB (nA := 1) C rfl rfl tw_814 tw_13 tw_811 (by decide +kernel) ⟨Nat.le_of_ble_eq_true rfl, Nat.le_of_ble_eq_true rfl⟩) tw_813 tp_26 rfl rfl (Nat.le_of_ble_eq_true rfl) dX12_holds_23 (Nat.zero_le _) ?_
      refine z_iret C E rfl dX12_holds_26 rfl (Nat.le_refl _) ⟨rfl, rfl⟩
def mHo (s : zS) (d : Nat) (a b : Int32) : zS := zu (zu s 119 d a) 120 d b
theorem mHo_mHo (s : zS) (d : Nat) (a b a2 b2 : Int32) : zu (zu (mHo s d a b) 119 d a2) 120 d b2 = mHo s d a2 b2 := by
  funext x y
  simp only [mHo, zu]
  by_cases h1 : x = 120 ∧ y = d
  · rw [if_pos h1, if_pos h1]
  · rw [if_neg h1, if_neg h1]
    split
    · rfl
    · rfl
theorem mHo_self (s : zS) (d : Nat) : mHo s d (s 119 d) (s 120 d) = s := by
  rw [mHo, zu_self]
  exact zu_self s 120 d
theorem mHo_row (s : zS) {d k : Nat} {a b : Int32} (h1 : k ≠ 119) (h2 : k ≠ 120) : mHo s d a b k = s k := by rw [mHo, zu_row _ _ h2, zu_row _ _ h1]
set_option maxRecDepth 100000 in
set_option maxHeartbeats 4000000 in
theorem l_X12_holds3 {l : Launch} {B : zB} {s : zS} {t : zL} {X : zX} (hl : X.2.1 = l) (C : zC X B mX12_holds) (N : Nat) (mo : mOk s N) (h6 : N ≤ 6) (d : Nat) (hd0 : d < N) (M : Nat) (hM : s 114 7 = nI M) (hM6 : M ≤ 6) (hB : ∀ n, n < M → r8 (s 114 (33 + 4 * n + 1))) (w : Int32) (E : zE X B mX12_holds 124 0 0 (zR B (some (.int ((((0 : Int32) ||| zi (mFit (s 114) (nI d) (mK s d) ((mL s d &&& (((1 : Int32) <<< (w &&& 31)) ^^^ (-1))) ||| ((1 : Int32) <<< (w &&& 31))) ((mH s d &&& (((1 : Int32) <<< (w &&& 31)) ^^^ (-1))) ||| 0) M)) ||| (zi (mFit (s 114) (nI d) (mK s d) ((mL s d &&& (((1 : Int32) <<< (w &&& 31)) ^^^ (-1))) ||| 0) ((mH s d &&& (((1 : Int32) <<< (w &&& 31)) ^^^ (-1))) ||| ((1 : Int32) <<< (w &&& 31))) M) <<< ((1 : Int32) &&& 31))) ||| (zi (mFit (s 114) (nI d) (mK s d) ((mL s d &&& (((1 : Int32) <<< (w &&& 31)) ^^^ (-1))) ||| 0) ((mH s d &&& (((1 : Int32) <<< (w &&& 31)) ^^^ (-1))) ||| 0) M) <<< ((2 : Int32) &&& 31))))) (mHo (wHand s N) d ((mL s d &&& (((1 : Int32) <<< (w &&& 31)) ^^^ (-1))) ||| 0) ((mH s d &&& (((1 : Int32) <<< (w &&& 31)) ^^^ (-1))) ||| 0)) t)) : Zf X B mX12_holds (mHo (wHand s N) d ((mL s d &&& (((1 : Int32) <<< (w &&& 31)) ^^^ (-1))) ||| 0) ((mH s d &&& (((1 : Int32) <<< (w &&& 31)) ^^^ (-1))) ||| 0)) t 36 [(4, .int 3), (3, .int ((((0 : Int32) ||| zi (mFit (s 114) (nI d) (mK s d) ((mL s d &&& (((1 : Int32) <<< (w &&& 31)) ^^^ (-1))) ||| ((1 : Int32) <<< (w &&& 31))) ((mH s d &&& (((1 : Int32) <<< (w &&& 31)) ^^^ (-1))) ||| 0) M)) ||| (zi (mFit (s 114) (nI d) (mK s d) ((mL s d &&& (((1 : Int32) <<< (w &&& 31)) ^^^ (-1))) ||| 0) ((mH s d &&& (((1 : Int32) <<< (w &&& 31)) ^^^ (-1))) ||| ((1 : Int32) <<< (w &&& 31))) M) <<< ((1 : Int32) &&& 31))) ||| (zi (mFit (s 114) (nI d) (mK s d) ((mL s d &&& (((1 : Int32) <<< (w &&& 31)) ^^^ (-1))) ||| 0) ((mH s d &&& (((1 : Int32) <<< (w &&& 31)) ^^^ (-1))) ||| 0) M) <<< ((2 : Int32) &&& 31)))), (0, .ref (B.1 + 113)), (1, .int (nI d)), (2, .int w)] [] := by
  refine z_iload C dX12_holds_36 0 rfl ?_
  refine z_iconst C dX12_holds_38 ki_3 ?_
  refine z_icmp_ge C 130 dX12_holds_39 (by decide) (fun _ => ?_) (fun hbr => absurd (by decide) hbr)
  refine z_iload_n C dX12_holds_130 1 rfl rfl ?_
  refine z_iret C E rfl dX12_holds_131 rfl (Nat.le_refl _) ⟨rfl, rfl⟩
set_option maxRecDepth 100000 in
set_option maxHeartbeats 4000000 in
theorem l_X12_holds2 {l : Launch} {B : zB} {s : zS} {t : zL} {X : zX} (hl : X.2.1 = l) (C : zC X B mX12_holds) (N : Nat) (mo : mOk s N) (h6 : N ≤ 6) (d : Nat) (hd0 : d < N) (M : Nat) (hM : s 114 7 = nI M) (hM6 : M ≤ 6) (hB : ∀ n, n < M → r8 (s 114 (33 + 4 * n + 1))) (w : Int32) (u v : Int32) (E : zE X B mX12_holds 124 0 0 (zR B (some (.int ((((0 : Int32) ||| zi (mFit (s 114) (nI d) (mK s d) ((mL s d &&& (((1 : Int32) <<< (w &&& 31)) ^^^ (-1))) ||| ((1 : Int32) <<< (w &&& 31))) ((mH s d &&& (((1 : Int32) <<< (w &&& 31)) ^^^ (-1))) ||| 0) M)) ||| (zi (mFit (s 114) (nI d) (mK s d) ((mL s d &&& (((1 : Int32) <<< (w &&& 31)) ^^^ (-1))) ||| 0) ((mH s d &&& (((1 : Int32) <<< (w &&& 31)) ^^^ (-1))) ||| ((1 : Int32) <<< (w &&& 31))) M) <<< ((1 : Int32) &&& 31))) ||| (zi (mFit (s 114) (nI d) (mK s d) ((mL s d &&& (((1 : Int32) <<< (w &&& 31)) ^^^ (-1))) ||| 0) ((mH s d &&& (((1 : Int32) <<< (w &&& 31)) ^^^ (-1))) ||| 0) M) <<< ((2 : Int32) &&& 31))))) (mHo (wHand s N) d ((mL s d &&& (((1 : Int32) <<< (w &&& 31)) ^^^ (-1))) ||| 0) ((mH s d &&& (((1 : Int32) <<< (w &&& 31)) ^^^ (-1))) ||| 0)) t)) : Zf X B mX12_holds (mHo (wHand s N) d u v) t 36 [(4, .int 2), (3, .int (((0 : Int32) ||| zi (mFit (s 114) (nI d) (mK s d) ((mL s d &&& (((1 : Int32) <<< (w &&& 31)) ^^^ (-1))) ||| ((1 : Int32) <<< (w &&& 31))) ((mH s d &&& (((1 : Int32) <<< (w &&& 31)) ^^^ (-1))) ||| 0) M)) ||| (zi (mFit (s 114) (nI d) (mK s d) ((mL s d &&& (((1 : Int32) <<< (w &&& 31)) ^^^ (-1))) ||| 0) ((mH s d &&& (((1 : Int32) <<< (w &&& 31)) ^^^ (-1))) ||| ((1 : Int32) <<< (w &&& 31))) M) <<< ((1 : Int32) &&& 31)))), (0, .ref (B.1 + 113)), (1, .int (nI d)), (2, .int w)] [] := by
  refine z_iload C dX12_holds_36 0 rfl ?_
  refine z_iconst C dX12_holds_38 ki_3 ?_
  refine z_icmp_ge C 130 dX12_holds_39 (by decide) (fun hbr => absurd hbr (by decide)) (fun _ => ?_)
  refine z_aload_n C dX12_holds_42 2 rfl rfl ?_
  refine f_get12 C 7 (v := .ref (B.1 + 119)) (by decide) tw_751 rfl zk_113 zb_113 rfl dX12_holds_43 ?_
  refine z_iload_n C dX12_holds_46 3 rfl rfl ?_
  refine z_aload_n C dX12_holds_47 2 rfl rfl ?_
  refine z_iload_n C dX12_holds_48 3 rfl rfl ?_
  refine z_iconst C dX12_holds_49 ki_1 ?_
  refine f_callVr C hl (As := [.int (nI d), .int 1]) (rest := [.int (nI d), .ref (B.1 + 119)]) (c_X12_get l B (mHo (wHand s N) d u v) t d 1 (by omega) (by decide)) zb_113 (zg_12 zk_113) rfl (zCB (nA := 2) C rfl rfl tw_855 tw_13 tw_852 (by decide +kernel) ⟨Nat.le_of_ble_eq_true rfl, Nat.le_of_ble_eq_true rfl⟩) tw_854 tp_32 rfl rfl (Nat.le_of_ble_eq_true rfl) dX12_holds_50 (Nat.zero_le _) ?_
  refine f_topi (y := mL s d) (by rw [mHo_row _ (by decide) (by decide), wHand_114]; rfl) ?_
  refine z_iconst C dX12_holds_53 ki_1 ?_
  refine z_iload_n C dX12_holds_54 4 rfl rfl ?_
  refine z_ishl C dX12_holds_55 ?_
  refine f_topi (y := ((1 : Int32) <<< (w &&& 31))) rfl ?_
  refine z_iconst C dX12_holds_56 ki_m1 ?_
  refine z_ixor C dX12_holds_57 ?_
  refine z_iand C dX12_holds_58 ?_
  refine z_iload C dX12_holds_59 0 rfl ?_
  refine z_if_ne C 70 dX12_holds_61 (by decide) (fun _ => ?_) (fun hbr => absurd hbr (by decide))
  refine z_iconst C dX12_holds_70 ki_0 ?_
  refine z_ior C dX12_holds_71 ?_
  refine f_iastL C zk_119 zb_119 (ixN (n := 6) rfl (by omega) (by decide)).1 (j := d) (ixN (n := 6) rfl (by omega) (by decide)).2 dX12_holds_72 ?_
  refine z_aload_n C dX12_holds_73 2 rfl rfl ?_
  refine f_get12 C 8 (v := .ref (B.1 + 120)) (by decide) tw_752 rfl zk_113 zb_113 rfl dX12_holds_74 ?_
  refine z_iload_n C dX12_holds_77 3 rfl rfl ?_
  refine z_aload_n C dX12_holds_78 2 rfl rfl ?_
  refine z_iload_n C dX12_holds_79 3 rfl rfl ?_
  refine z_iconst C dX12_holds_80 ki_2 ?_
  refine f_callVr C hl (As := [.int (nI d), .int 2]) (rest := [.int (nI d), .ref (B.1 + 120)]) (c_X12_get l B (zu (mHo (wHand s N) d u v) 119 d (((mL s d) &&& (((1 : Int32) <<< (w &&& 31)) ^^^ (-1))) ||| 0)) t d 2 (by omega) (by decide)) zb_113 (zg_12 zk_113) rfl (zCB (nA := 2) C rfl rfl tw_855 tw_13 tw_852 (by decide +kernel) ⟨Nat.le_of_ble_eq_true rfl, Nat.le_of_ble_eq_true rfl⟩) tw_854 tp_32 rfl rfl (Nat.le_of_ble_eq_true rfl) dX12_holds_81 (Nat.zero_le _) ?_
  refine f_topi (y := mH s d) (by rw [zu_row _ _ (by decide), mHo_row _ (by decide) (by decide), wHand_114]; rfl) ?_
  refine z_iconst C dX12_holds_84 ki_1 ?_
  refine z_iload_n C dX12_holds_85 4 rfl rfl ?_
  refine z_ishl C dX12_holds_86 ?_
  refine f_topi (y := ((1 : Int32) <<< (w &&& 31))) rfl ?_
  refine z_iconst C dX12_holds_87 ki_m1 ?_
  refine z_ixor C dX12_holds_88 ?_
  refine z_iand C dX12_holds_89 ?_
  refine z_iload C dX12_holds_90 0 rfl ?_
  refine z_iconst C dX12_holds_92 ki_1 ?_
  refine z_icmp_ne C 102 dX12_holds_93 (by decide) (fun _ => ?_) (fun hbr => absurd hbr (by decide))
  refine z_iconst C dX12_holds_102 ki_0 ?_
  refine z_ior C dX12_holds_103 ?_
  refine f_iastL C zk_120 zb_120 (ixN (n := 6) rfl (by omega) (by decide)).1 (j := d) (ixN (n := 6) rfl (by omega) (by decide)).2 dX12_holds_104 ?_
  refine z_G (congrArg (fun z => zg B z t) (mHo_mHo (wHand s N) d _ _ _ _)) ?_
  refine z_iload_n C dX12_holds_105 1 rfl rfl ?_
  refine z_aload_n C dX12_holds_106 2 rfl rfl ?_
  refine z_iload_n C dX12_holds_107 3 rfl rfl ?_
  refine f_callVr C hl (As := [.int (nI d)]) (rest := [.int (((0 : Int32) ||| zi (mFit (s 114) (nI d) (mK s d) ((mL s d &&& (((1 : Int32) <<< (w &&& 31)) ^^^ (-1))) ||| ((1 : Int32) <<< (w &&& 31))) ((mH s d &&& (((1 : Int32) <<< (w &&& 31)) ^^^ (-1))) ||| 0) M)) ||| (zi (mFit (s 114) (nI d) (mK s d) ((mL s d &&& (((1 : Int32) <<< (w &&& 31)) ^^^ (-1))) ||| 0) ((mH s d &&& (((1 : Int32) <<< (w &&& 31)) ^^^ (-1))) ||| ((1 : Int32) <<< (w &&& 31))) M) <<< ((1 : Int32) &&& 31)))]) (c_X12_areSo l B (mHo (wHand s N) d ((mL s d &&& (((1 : Int32) <<< (w &&& 31)) ^^^ (-1))) ||| 0) ((mH s d &&& (((1 : Int32) <<< (w &&& 31)) ^^^ (-1))) ||| 0)) t d (by omega) (mK s d) ((mL s d &&& (((1 : Int32) <<< (w &&& 31)) ^^^ (-1))) ||| 0) ((mH s d &&& (((1 : Int32) <<< (w &&& 31)) ^^^ (-1))) ||| 0) (by rw [mHo_row _ (by decide) (by decide)]; exact ((hd_hand mo).2.2.1 d hd0).1) (by simp [mHo, zu]) (by simp [mHo, zu]) ((hd_hand mo).2.2.2.1 d hd0) (s 114) M hM hM6 hB (by rw [mHo_row _ (by decide) (by decide), wHand_114]) (by rw [mHo_row _ (by decide) (by decide)]; exact hd_day mo)) zb_113 (zg_12 zk_113) rfl (zCB (nA := 1) C rfl rfl tw_984 tw_13 tw_981 (by decide +kernel) ⟨Nat.le_of_ble_eq_true rfl, Nat.le_of_ble_eq_true rfl⟩) tw_983 tp_44 rfl rfl (Nat.le_of_ble_eq_true rfl) dX12_holds_108 (Nat.zero_le _) ?_
  refine z_ifb_eq C 121 dX12_holds_111 (by decide) (fun h111 => ?_) (fun h111 => ?_)
  · refine z_iconst C dX12_holds_121 ki_0 ?_
    refine f_topi (y := zi false <<< ((2 : Int32) &&& 31)) (by decide) ?_
    refine z_ior C dX12_holds_122 ?_
    refine z_istore_n C [(3, .int ((((0 : Int32) ||| zi (mFit (s 114) (nI d) (mK s d) ((mL s d &&& (((1 : Int32) <<< (w &&& 31)) ^^^ (-1))) ||| ((1 : Int32) <<< (w &&& 31))) ((mH s d &&& (((1 : Int32) <<< (w &&& 31)) ^^^ (-1))) ||| 0) M)) ||| (zi (mFit (s 114) (nI d) (mK s d) ((mL s d &&& (((1 : Int32) <<< (w &&& 31)) ^^^ (-1))) ||| 0) ((mH s d &&& (((1 : Int32) <<< (w &&& 31)) ^^^ (-1))) ||| ((1 : Int32) <<< (w &&& 31))) M) <<< ((1 : Int32) &&& 31))) ||| (zi false <<< ((2 : Int32) &&& 31)))), (4, .int 2), (0, .ref (B.1 + 113)), (1, .int (nI d)), (2, .int w)] dX12_holds_123 rfl (by decide) rfl ?_
    refine z_iinc C [(4, .int 3), (3, .int ((((0 : Int32) ||| zi (mFit (s 114) (nI d) (mK s d) ((mL s d &&& (((1 : Int32) <<< (w &&& 31)) ^^^ (-1))) ||| ((1 : Int32) <<< (w &&& 31))) ((mH s d &&& (((1 : Int32) <<< (w &&& 31)) ^^^ (-1))) ||| 0) M)) ||| (zi (mFit (s 114) (nI d) (mK s d) ((mL s d &&& (((1 : Int32) <<< (w &&& 31)) ^^^ (-1))) ||| 0) ((mH s d &&& (((1 : Int32) <<< (w &&& 31)) ^^^ (-1))) ||| ((1 : Int32) <<< (w &&& 31))) M) <<< ((1 : Int32) &&& 31))) ||| (zi false <<< ((2 : Int32) &&& 31)))), (0, .ref (B.1 + 113)), (1, .int (nI d)), (2, .int w)] dX12_holds_124 1 rfl (by decide) (by decide) rfl ?_
    refine z_goto C 36 dX12_holds_127 (by decide) ?_
    refine z_lv (lv2 := [(4, .int 3), (3, .int ((((0 : Int32) ||| zi (mFit (s 114) (nI d) (mK s d) ((mL s d &&& (((1 : Int32) <<< (w &&& 31)) ^^^ (-1))) ||| ((1 : Int32) <<< (w &&& 31))) ((mH s d &&& (((1 : Int32) <<< (w &&& 31)) ^^^ (-1))) ||| 0) M)) ||| (zi (mFit (s 114) (nI d) (mK s d) ((mL s d &&& (((1 : Int32) <<< (w &&& 31)) ^^^ (-1))) ||| 0) ((mH s d &&& (((1 : Int32) <<< (w &&& 31)) ^^^ (-1))) ||| ((1 : Int32) <<< (w &&& 31))) M) <<< ((1 : Int32) &&& 31))) ||| (zi false <<< ((2 : Int32) &&& 31)))), (0, .ref (B.1 + 113)), (1, .int (nI d)), (2, .int w)]) [0, 1, 2, 3, 4] (by rfl) ?_
    rw [← h111]
    exact l_X12_holds3 hl C N mo h6 d hd0 M hM hM6 hB w E
  · refine z_iconst C dX12_holds_114 ki_1 ?_
    refine z_iload C dX12_holds_115 0 rfl ?_
    refine z_ishl C dX12_holds_117 ?_
    refine z_goto C 122 dX12_holds_118 (by decide) ?_
    refine f_topi (y := zi true <<< ((2 : Int32) &&& 31)) (by decide) ?_
    refine z_ior C dX12_holds_122 ?_
    refine z_istore_n C [(3, .int ((((0 : Int32) ||| zi (mFit (s 114) (nI d) (mK s d) ((mL s d &&& (((1 : Int32) <<< (w &&& 31)) ^^^ (-1))) ||| ((1 : Int32) <<< (w &&& 31))) ((mH s d &&& (((1 : Int32) <<< (w &&& 31)) ^^^ (-1))) ||| 0) M)) ||| (zi (mFit (s 114) (nI d) (mK s d) ((mL s d &&& (((1 : Int32) <<< (w &&& 31)) ^^^ (-1))) ||| 0) ((mH s d &&& (((1 : Int32) <<< (w &&& 31)) ^^^ (-1))) ||| ((1 : Int32) <<< (w &&& 31))) M) <<< ((1 : Int32) &&& 31))) ||| (zi true <<< ((2 : Int32) &&& 31)))), (4, .int 2), (0, .ref (B.1 + 113)), (1, .int (nI d)), (2, .int w)] dX12_holds_123 rfl (by decide) rfl ?_
    refine z_iinc C [(4, .int 3), (3, .int ((((0 : Int32) ||| zi (mFit (s 114) (nI d) (mK s d) ((mL s d &&& (((1 : Int32) <<< (w &&& 31)) ^^^ (-1))) ||| ((1 : Int32) <<< (w &&& 31))) ((mH s d &&& (((1 : Int32) <<< (w &&& 31)) ^^^ (-1))) ||| 0) M)) ||| (zi (mFit (s 114) (nI d) (mK s d) ((mL s d &&& (((1 : Int32) <<< (w &&& 31)) ^^^ (-1))) ||| 0) ((mH s d &&& (((1 : Int32) <<< (w &&& 31)) ^^^ (-1))) ||| ((1 : Int32) <<< (w &&& 31))) M) <<< ((1 : Int32) &&& 31))) ||| (zi true <<< ((2 : Int32) &&& 31)))), (0, .ref (B.1 + 113)), (1, .int (nI d)), (2, .int w)] dX12_holds_124 1 rfl (by decide) (by decide) rfl ?_
    refine z_goto C 36 dX12_holds_127 (by decide) ?_
    refine z_lv (lv2 := [(4, .int 3), (3, .int ((((0 : Int32) ||| zi (mFit (s 114) (nI d) (mK s d) ((mL s d &&& (((1 : Int32) <<< (w &&& 31)) ^^^ (-1))) ||| ((1 : Int32) <<< (w &&& 31))) ((mH s d &&& (((1 : Int32) <<< (w &&& 31)) ^^^ (-1))) ||| 0) M)) ||| (zi (mFit (s 114) (nI d) (mK s d) ((mL s d &&& (((1 : Int32) <<< (w &&& 31)) ^^^ (-1))) ||| 0) ((mH s d &&& (((1 : Int32) <<< (w &&& 31)) ^^^ (-1))) ||| ((1 : Int32) <<< (w &&& 31))) M) <<< ((1 : Int32) &&& 31))) ||| (zi true <<< ((2 : Int32) &&& 31)))), (0, .ref (B.1 + 113)), (1, .int (nI d)), (2, .int w)]) [0, 1, 2, 3, 4] (by rfl) ?_
    rw [← h111]
    exact l_X12_holds3 hl C N mo h6 d hd0 M hM hM6 hB w E
set_option maxRecDepth 100000 in
set_option maxHeartbeats 4000000 in
theorem l_X12_holds1 {l : Launch} {B : zB} {s : zS} {t : zL} {X : zX} (hl : X.2.1 = l) (C : zC X B mX12_holds) (N : Nat) (mo : mOk s N) (h6 : N ≤ 6) (d : Nat) (hd0 : d < N) (M : Nat) (hM : s 114 7 = nI M) (hM6 : M ≤ 6) (hB : ∀ n, n < M → r8 (s 114 (33 + 4 * n + 1))) (w : Int32) (u v : Int32) (E : zE X B mX12_holds 124 0 0 (zR B (some (.int ((((0 : Int32) ||| zi (mFit (s 114) (nI d) (mK s d) ((mL s d &&& (((1 : Int32) <<< (w &&& 31)) ^^^ (-1))) ||| ((1 : Int32) <<< (w &&& 31))) ((mH s d &&& (((1 : Int32) <<< (w &&& 31)) ^^^ (-1))) ||| 0) M)) ||| (zi (mFit (s 114) (nI d) (mK s d) ((mL s d &&& (((1 : Int32) <<< (w &&& 31)) ^^^ (-1))) ||| 0) ((mH s d &&& (((1 : Int32) <<< (w &&& 31)) ^^^ (-1))) ||| ((1 : Int32) <<< (w &&& 31))) M) <<< ((1 : Int32) &&& 31))) ||| (zi (mFit (s 114) (nI d) (mK s d) ((mL s d &&& (((1 : Int32) <<< (w &&& 31)) ^^^ (-1))) ||| 0) ((mH s d &&& (((1 : Int32) <<< (w &&& 31)) ^^^ (-1))) ||| 0) M) <<< ((2 : Int32) &&& 31))))) (mHo (wHand s N) d ((mL s d &&& (((1 : Int32) <<< (w &&& 31)) ^^^ (-1))) ||| 0) ((mH s d &&& (((1 : Int32) <<< (w &&& 31)) ^^^ (-1))) ||| 0)) t)) : Zf X B mX12_holds (mHo (wHand s N) d u v) t 36 [(4, .int 1), (3, .int ((0 : Int32) ||| zi (mFit (s 114) (nI d) (mK s d) ((mL s d &&& (((1 : Int32) <<< (w &&& 31)) ^^^ (-1))) ||| ((1 : Int32) <<< (w &&& 31))) ((mH s d &&& (((1 : Int32) <<< (w &&& 31)) ^^^ (-1))) ||| 0) M))), (0, .ref (B.1 + 113)), (1, .int (nI d)), (2, .int w)] [] := by
  refine z_iload C dX12_holds_36 0 rfl ?_
  refine z_iconst C dX12_holds_38 ki_3 ?_
  refine z_icmp_ge C 130 dX12_holds_39 (by decide) (fun hbr => absurd hbr (by decide)) (fun _ => ?_)
  refine z_aload_n C dX12_holds_42 2 rfl rfl ?_
  refine f_get12 C 7 (v := .ref (B.1 + 119)) (by decide) tw_751 rfl zk_113 zb_113 rfl dX12_holds_43 ?_
  refine z_iload_n C dX12_holds_46 3 rfl rfl ?_
  refine z_aload_n C dX12_holds_47 2 rfl rfl ?_
  refine z_iload_n C dX12_holds_48 3 rfl rfl ?_
  refine z_iconst C dX12_holds_49 ki_1 ?_
  refine f_callVr C hl (As := [.int (nI d), .int 1]) (rest := [.int (nI d), .ref (B.1 + 119)]) (c_X12_get l B (mHo (wHand s N) d u v) t d 1 (by omega) (by decide)) zb_113 (zg_12 zk_113) rfl (zCB (nA := 2) C rfl rfl tw_855 tw_13 tw_852 (by decide +kernel) ⟨Nat.le_of_ble_eq_true rfl, Nat.le_of_ble_eq_true rfl⟩) tw_854 tp_32 rfl rfl (Nat.le_of_ble_eq_true rfl) dX12_holds_50 (Nat.zero_le _) ?_
  refine f_topi (y := mL s d) (by rw [mHo_row _ (by decide) (by decide), wHand_114]; rfl) ?_
  refine z_iconst C dX12_holds_53 ki_1 ?_
  refine z_iload_n C dX12_holds_54 4 rfl rfl ?_
  refine z_ishl C dX12_holds_55 ?_
  refine f_topi (y := ((1 : Int32) <<< (w &&& 31))) rfl ?_
  refine z_iconst C dX12_holds_56 ki_m1 ?_
  refine z_ixor C dX12_holds_57 ?_
  refine z_iand C dX12_holds_58 ?_
  refine z_iload C dX12_holds_59 0 rfl ?_
  refine z_if_ne C 70 dX12_holds_61 (by decide) (fun _ => ?_) (fun hbr => absurd hbr (by decide))
  refine z_iconst C dX12_holds_70 ki_0 ?_
  refine z_ior C dX12_holds_71 ?_
  refine f_iastL C zk_119 zb_119 (ixN (n := 6) rfl (by omega) (by decide)).1 (j := d) (ixN (n := 6) rfl (by omega) (by decide)).2 dX12_holds_72 ?_
  refine z_aload_n C dX12_holds_73 2 rfl rfl ?_
  refine f_get12 C 8 (v := .ref (B.1 + 120)) (by decide) tw_752 rfl zk_113 zb_113 rfl dX12_holds_74 ?_
  refine z_iload_n C dX12_holds_77 3 rfl rfl ?_
  refine z_aload_n C dX12_holds_78 2 rfl rfl ?_
  refine z_iload_n C dX12_holds_79 3 rfl rfl ?_
  refine z_iconst C dX12_holds_80 ki_2 ?_
  refine f_callVr C hl (As := [.int (nI d), .int 2]) (rest := [.int (nI d), .ref (B.1 + 120)]) (c_X12_get l B (zu (mHo (wHand s N) d u v) 119 d (((mL s d) &&& (((1 : Int32) <<< (w &&& 31)) ^^^ (-1))) ||| 0)) t d 2 (by omega) (by decide)) zb_113 (zg_12 zk_113) rfl (zCB (nA := 2) C rfl rfl tw_855 tw_13 tw_852 (by decide +kernel) ⟨Nat.le_of_ble_eq_true rfl, Nat.le_of_ble_eq_true rfl⟩) tw_854 tp_32 rfl rfl (Nat.le_of_ble_eq_true rfl) dX12_holds_81 (Nat.zero_le _) ?_
  refine f_topi (y := mH s d) (by rw [zu_row _ _ (by decide), mHo_row _ (by decide) (by decide), wHand_114]; rfl) ?_
  refine z_iconst C dX12_holds_84 ki_1 ?_
  refine z_iload_n C dX12_holds_85 4 rfl rfl ?_
  refine z_ishl C dX12_holds_86 ?_
  refine f_topi (y := ((1 : Int32) <<< (w &&& 31))) rfl ?_
  refine z_iconst C dX12_holds_87 ki_m1 ?_
  refine z_ixor C dX12_holds_88 ?_
  refine z_iand C dX12_holds_89 ?_
  refine z_iload C dX12_holds_90 0 rfl ?_
  refine z_iconst C dX12_holds_92 ki_1 ?_
  refine z_icmp_ne C 102 dX12_holds_93 (by decide) (fun hbr => absurd (by decide) hbr) (fun _ => ?_)
  refine z_iconst C dX12_holds_96 ki_1 ?_
  refine z_iload_n C dX12_holds_97 4 rfl rfl ?_
  refine z_ishl C dX12_holds_98 ?_
  refine f_topi (y := ((1 : Int32) <<< (w &&& 31))) rfl ?_
  refine z_goto C 103 dX12_holds_99 (by decide) ?_
  refine z_ior C dX12_holds_103 ?_
  refine f_iastL C zk_120 zb_120 (ixN (n := 6) rfl (by omega) (by decide)).1 (j := d) (ixN (n := 6) rfl (by omega) (by decide)).2 dX12_holds_104 ?_
  refine z_G (congrArg (fun z => zg B z t) (mHo_mHo (wHand s N) d _ _ _ _)) ?_
  refine z_iload_n C dX12_holds_105 1 rfl rfl ?_
  refine z_aload_n C dX12_holds_106 2 rfl rfl ?_
  refine z_iload_n C dX12_holds_107 3 rfl rfl ?_
  refine f_callVr C hl (As := [.int (nI d)]) (rest := [.int ((0 : Int32) ||| zi (mFit (s 114) (nI d) (mK s d) ((mL s d &&& (((1 : Int32) <<< (w &&& 31)) ^^^ (-1))) ||| ((1 : Int32) <<< (w &&& 31))) ((mH s d &&& (((1 : Int32) <<< (w &&& 31)) ^^^ (-1))) ||| 0) M))]) (c_X12_areSo l B (mHo (wHand s N) d ((mL s d &&& (((1 : Int32) <<< (w &&& 31)) ^^^ (-1))) ||| 0) ((mH s d &&& (((1 : Int32) <<< (w &&& 31)) ^^^ (-1))) ||| ((1 : Int32) <<< (w &&& 31)))) t d (by omega) (mK s d) ((mL s d &&& (((1 : Int32) <<< (w &&& 31)) ^^^ (-1))) ||| 0) ((mH s d &&& (((1 : Int32) <<< (w &&& 31)) ^^^ (-1))) ||| ((1 : Int32) <<< (w &&& 31))) (by rw [mHo_row _ (by decide) (by decide)]; exact ((hd_hand mo).2.2.1 d hd0).1) (by simp [mHo, zu]) (by simp [mHo, zu]) ((hd_hand mo).2.2.2.1 d hd0) (s 114) M hM hM6 hB (by rw [mHo_row _ (by decide) (by decide), wHand_114]) (by rw [mHo_row _ (by decide) (by decide)]; exact hd_day mo)) zb_113 (zg_12 zk_113) rfl (zCB (nA := 1) C rfl rfl tw_984 tw_13 tw_981 (by decide +kernel) ⟨Nat.le_of_ble_eq_true rfl, Nat.le_of_ble_eq_true rfl⟩) tw_983 tp_44 rfl rfl (Nat.le_of_ble_eq_true rfl) dX12_holds_108 (Nat.zero_le _) ?_
  refine z_ifb_eq C 121 dX12_holds_111 (by decide) (fun h111 => ?_) (fun h111 => ?_)
  · refine z_iconst C dX12_holds_121 ki_0 ?_
    refine f_topi (y := zi false <<< ((1 : Int32) &&& 31)) (by decide) ?_
    refine z_ior C dX12_holds_122 ?_
    refine z_istore_n C [(3, .int (((0 : Int32) ||| zi (mFit (s 114) (nI d) (mK s d) ((mL s d &&& (((1 : Int32) <<< (w &&& 31)) ^^^ (-1))) ||| ((1 : Int32) <<< (w &&& 31))) ((mH s d &&& (((1 : Int32) <<< (w &&& 31)) ^^^ (-1))) ||| 0) M)) ||| (zi false <<< ((1 : Int32) &&& 31)))), (4, .int 1), (0, .ref (B.1 + 113)), (1, .int (nI d)), (2, .int w)] dX12_holds_123 rfl (by decide) rfl ?_
    refine z_iinc C [(4, .int 2), (3, .int (((0 : Int32) ||| zi (mFit (s 114) (nI d) (mK s d) ((mL s d &&& (((1 : Int32) <<< (w &&& 31)) ^^^ (-1))) ||| ((1 : Int32) <<< (w &&& 31))) ((mH s d &&& (((1 : Int32) <<< (w &&& 31)) ^^^ (-1))) ||| 0) M)) ||| (zi false <<< ((1 : Int32) &&& 31)))), (0, .ref (B.1 + 113)), (1, .int (nI d)), (2, .int w)] dX12_holds_124 1 rfl (by decide) (by decide) rfl ?_
    refine z_goto C 36 dX12_holds_127 (by decide) ?_
    refine z_lv (lv2 := [(4, .int 2), (3, .int (((0 : Int32) ||| zi (mFit (s 114) (nI d) (mK s d) ((mL s d &&& (((1 : Int32) <<< (w &&& 31)) ^^^ (-1))) ||| ((1 : Int32) <<< (w &&& 31))) ((mH s d &&& (((1 : Int32) <<< (w &&& 31)) ^^^ (-1))) ||| 0) M)) ||| (zi false <<< ((1 : Int32) &&& 31)))), (0, .ref (B.1 + 113)), (1, .int (nI d)), (2, .int w)]) [0, 1, 2, 3, 4] (by rfl) ?_
    rw [← h111]
    exact l_X12_holds2 hl C N mo h6 d hd0 M hM hM6 hB w ((mL s d &&& (((1 : Int32) <<< (w &&& 31)) ^^^ (-1))) ||| 0) ((mH s d &&& (((1 : Int32) <<< (w &&& 31)) ^^^ (-1))) ||| ((1 : Int32) <<< (w &&& 31))) E
  · refine z_iconst C dX12_holds_114 ki_1 ?_
    refine z_iload C dX12_holds_115 0 rfl ?_
    refine z_ishl C dX12_holds_117 ?_
    refine z_goto C 122 dX12_holds_118 (by decide) ?_
    refine f_topi (y := zi true <<< ((1 : Int32) &&& 31)) (by decide) ?_
    refine z_ior C dX12_holds_122 ?_
    refine z_istore_n C [(3, .int (((0 : Int32) ||| zi (mFit (s 114) (nI d) (mK s d) ((mL s d &&& (((1 : Int32) <<< (w &&& 31)) ^^^ (-1))) ||| ((1 : Int32) <<< (w &&& 31))) ((mH s d &&& (((1 : Int32) <<< (w &&& 31)) ^^^ (-1))) ||| 0) M)) ||| (zi true <<< ((1 : Int32) &&& 31)))), (4, .int 1), (0, .ref (B.1 + 113)), (1, .int (nI d)), (2, .int w)] dX12_holds_123 rfl (by decide) rfl ?_
    refine z_iinc C [(4, .int 2), (3, .int (((0 : Int32) ||| zi (mFit (s 114) (nI d) (mK s d) ((mL s d &&& (((1 : Int32) <<< (w &&& 31)) ^^^ (-1))) ||| ((1 : Int32) <<< (w &&& 31))) ((mH s d &&& (((1 : Int32) <<< (w &&& 31)) ^^^ (-1))) ||| 0) M)) ||| (zi true <<< ((1 : Int32) &&& 31)))), (0, .ref (B.1 + 113)), (1, .int (nI d)), (2, .int w)] dX12_holds_124 1 rfl (by decide) (by decide) rfl ?_
    refine z_goto C 36 dX12_holds_127 (by decide) ?_
    refine z_lv (lv2 := [(4, .int 2), (3, .int (((0 : Int32) ||| zi (mFit (s 114) (nI d) (mK s d) ((mL s d &&& (((1 : Int32) <<< (w &&& 31)) ^^^ (-1))) ||| ((1 : Int32) <<< (w &&& 31))) ((mH s d &&& (((1 : Int32) <<< (w &&& 31)) ^^^ (-1))) ||| 0) M)) ||| (zi true <<< ((1 : Int32) &&& 31)))), (0, .ref (B.1 + 113)), (1, .int (nI d)), (2, .int w)]) [0, 1, 2, 3, 4] (by rfl) ?_
    rw [← h111]
    exact l_X12_holds2 hl C N mo h6 d hd0 M hM hM6 hB w ((mL s d &&& (((1 : Int32) <<< (w &&& 31)) ^^^ (-1))) ||| 0) ((mH s d &&& (((1 : Int32) <<< (w &&& 31)) ^^^ (-1))) ||| ((1 : Int32) <<< (w &&& 31))) E
set_option maxRecDepth 100000 in
set_option maxHeartbeats 4000000 in
theorem l_X12_holds0 {l : Launch} {B : zB} {s : zS} {t : zL} {X : zX} (hl : X.2.1 = l) (C : zC X B mX12_holds) (N : Nat) (mo : mOk s N) (h6 : N ≤ 6) (d : Nat) (hd0 : d < N) (M : Nat) (hM : s 114 7 = nI M) (hM6 : M ≤ 6) (hB : ∀ n, n < M → r8 (s 114 (33 + 4 * n + 1))) (w : Int32) (u v : Int32) (E : zE X B mX12_holds 124 0 0 (zR B (some (.int ((((0 : Int32) ||| zi (mFit (s 114) (nI d) (mK s d) ((mL s d &&& (((1 : Int32) <<< (w &&& 31)) ^^^ (-1))) ||| ((1 : Int32) <<< (w &&& 31))) ((mH s d &&& (((1 : Int32) <<< (w &&& 31)) ^^^ (-1))) ||| 0) M)) ||| (zi (mFit (s 114) (nI d) (mK s d) ((mL s d &&& (((1 : Int32) <<< (w &&& 31)) ^^^ (-1))) ||| 0) ((mH s d &&& (((1 : Int32) <<< (w &&& 31)) ^^^ (-1))) ||| ((1 : Int32) <<< (w &&& 31))) M) <<< ((1 : Int32) &&& 31))) ||| (zi (mFit (s 114) (nI d) (mK s d) ((mL s d &&& (((1 : Int32) <<< (w &&& 31)) ^^^ (-1))) ||| 0) ((mH s d &&& (((1 : Int32) <<< (w &&& 31)) ^^^ (-1))) ||| 0) M) <<< ((2 : Int32) &&& 31))))) (mHo (wHand s N) d ((mL s d &&& (((1 : Int32) <<< (w &&& 31)) ^^^ (-1))) ||| 0) ((mH s d &&& (((1 : Int32) <<< (w &&& 31)) ^^^ (-1))) ||| 0)) t)) : Zf X B mX12_holds (mHo (wHand s N) d u v) t 36 [(4, .int 0), (3, .int 0), (0, .ref (B.1 + 113)), (1, .int (nI d)), (2, .int w)] [] := by
  refine z_iload C dX12_holds_36 0 rfl ?_
  refine z_iconst C dX12_holds_38 ki_3 ?_
  refine z_icmp_ge C 130 dX12_holds_39 (by decide) (fun hbr => absurd hbr (by decide)) (fun _ => ?_)
  refine z_aload_n C dX12_holds_42 2 rfl rfl ?_
  refine f_get12 C 7 (v := .ref (B.1 + 119)) (by decide) tw_751 rfl zk_113 zb_113 rfl dX12_holds_43 ?_
  refine z_iload_n C dX12_holds_46 3 rfl rfl ?_
  refine z_aload_n C dX12_holds_47 2 rfl rfl ?_
  refine z_iload_n C dX12_holds_48 3 rfl rfl ?_
  refine z_iconst C dX12_holds_49 ki_1 ?_
  refine f_callVr C hl (As := [.int (nI d), .int 1]) (rest := [.int (nI d), .ref (B.1 + 119)]) (c_X12_get l B (mHo (wHand s N) d u v) t d 1 (by omega) (by decide)) zb_113 (zg_12 zk_113) rfl (zCB (nA := 2) C rfl rfl tw_855 tw_13 tw_852 (by decide +kernel) ⟨Nat.le_of_ble_eq_true rfl, Nat.le_of_ble_eq_true rfl⟩) tw_854 tp_32 rfl rfl (Nat.le_of_ble_eq_true rfl) dX12_holds_50 (Nat.zero_le _) ?_
  refine f_topi (y := mL s d) (by rw [mHo_row _ (by decide) (by decide), wHand_114]; rfl) ?_
  refine z_iconst C dX12_holds_53 ki_1 ?_
  refine z_iload_n C dX12_holds_54 4 rfl rfl ?_
  refine z_ishl C dX12_holds_55 ?_
  refine f_topi (y := ((1 : Int32) <<< (w &&& 31))) rfl ?_
  refine z_iconst C dX12_holds_56 ki_m1 ?_
  refine z_ixor C dX12_holds_57 ?_
  refine z_iand C dX12_holds_58 ?_
  refine z_iload C dX12_holds_59 0 rfl ?_
  refine z_if_ne C 70 dX12_holds_61 (by decide) (fun hbr => absurd (by decide) hbr) (fun _ => ?_)
  refine z_iconst C dX12_holds_64 ki_1 ?_
  refine z_iload_n C dX12_holds_65 4 rfl rfl ?_
  refine z_ishl C dX12_holds_66 ?_
  refine f_topi (y := ((1 : Int32) <<< (w &&& 31))) rfl ?_
  refine z_goto C 71 dX12_holds_67 (by decide) ?_
  refine z_ior C dX12_holds_71 ?_
  refine f_iastL C zk_119 zb_119 (ixN (n := 6) rfl (by omega) (by decide)).1 (j := d) (ixN (n := 6) rfl (by omega) (by decide)).2 dX12_holds_72 ?_
  refine z_aload_n C dX12_holds_73 2 rfl rfl ?_
  refine f_get12 C 8 (v := .ref (B.1 + 120)) (by decide) tw_752 rfl zk_113 zb_113 rfl dX12_holds_74 ?_
  refine z_iload_n C dX12_holds_77 3 rfl rfl ?_
  refine z_aload_n C dX12_holds_78 2 rfl rfl ?_
  refine z_iload_n C dX12_holds_79 3 rfl rfl ?_
  refine z_iconst C dX12_holds_80 ki_2 ?_
  refine f_callVr C hl (As := [.int (nI d), .int 2]) (rest := [.int (nI d), .ref (B.1 + 120)]) (c_X12_get l B (zu (mHo (wHand s N) d u v) 119 d (((mL s d) &&& (((1 : Int32) <<< (w &&& 31)) ^^^ (-1))) ||| ((1 : Int32) <<< (w &&& 31)))) t d 2 (by omega) (by decide)) zb_113 (zg_12 zk_113) rfl (zCB (nA := 2) C rfl rfl tw_855 tw_13 tw_852 (by decide +kernel) ⟨Nat.le_of_ble_eq_true rfl, Nat.le_of_ble_eq_true rfl⟩) tw_854 tp_32 rfl rfl (Nat.le_of_ble_eq_true rfl) dX12_holds_81 (Nat.zero_le _) ?_
  refine f_topi (y := mH s d) (by rw [zu_row _ _ (by decide), mHo_row _ (by decide) (by decide), wHand_114]; rfl) ?_
  refine z_iconst C dX12_holds_84 ki_1 ?_
  refine z_iload_n C dX12_holds_85 4 rfl rfl ?_
  refine z_ishl C dX12_holds_86 ?_
  refine f_topi (y := ((1 : Int32) <<< (w &&& 31))) rfl ?_
  refine z_iconst C dX12_holds_87 ki_m1 ?_
  refine z_ixor C dX12_holds_88 ?_
  refine z_iand C dX12_holds_89 ?_
  refine z_iload C dX12_holds_90 0 rfl ?_
  refine z_iconst C dX12_holds_92 ki_1 ?_
  refine z_icmp_ne C 102 dX12_holds_93 (by decide) (fun _ => ?_) (fun hbr => absurd hbr (by decide))
  refine z_iconst C dX12_holds_102 ki_0 ?_
  refine z_ior C dX12_holds_103 ?_
  refine f_iastL C zk_120 zb_120 (ixN (n := 6) rfl (by omega) (by decide)).1 (j := d) (ixN (n := 6) rfl (by omega) (by decide)).2 dX12_holds_104 ?_
  refine z_G (congrArg (fun z => zg B z t) (mHo_mHo (wHand s N) d _ _ _ _)) ?_
  refine z_iload_n C dX12_holds_105 1 rfl rfl ?_
  refine z_aload_n C dX12_holds_106 2 rfl rfl ?_
  refine z_iload_n C dX12_holds_107 3 rfl rfl ?_
  refine f_callVr C hl (As := [.int (nI d)]) (rest := [.int 0]) (c_X12_areSo l B (mHo (wHand s N) d ((mL s d &&& (((1 : Int32) <<< (w &&& 31)) ^^^ (-1))) ||| ((1 : Int32) <<< (w &&& 31))) ((mH s d &&& (((1 : Int32) <<< (w &&& 31)) ^^^ (-1))) ||| 0)) t d (by omega) (mK s d) ((mL s d &&& (((1 : Int32) <<< (w &&& 31)) ^^^ (-1))) ||| ((1 : Int32) <<< (w &&& 31))) ((mH s d &&& (((1 : Int32) <<< (w &&& 31)) ^^^ (-1))) ||| 0) (by rw [mHo_row _ (by decide) (by decide)]; exact ((hd_hand mo).2.2.1 d hd0).1) (by simp [mHo, zu]) (by simp [mHo, zu]) ((hd_hand mo).2.2.2.1 d hd0) (s 114) M hM hM6 hB (by rw [mHo_row _ (by decide) (by decide), wHand_114]) (by rw [mHo_row _ (by decide) (by decide)]; exact hd_day mo)) zb_113 (zg_12 zk_113) rfl (zCB (nA := 1) C rfl rfl tw_984 tw_13 tw_981 (by decide +kernel) ⟨Nat.le_of_ble_eq_true rfl, Nat.le_of_ble_eq_true rfl⟩) tw_983 tp_44 rfl rfl (Nat.le_of_ble_eq_true rfl) dX12_holds_108 (Nat.zero_le _) ?_
  refine z_ifb_eq C 121 dX12_holds_111 (by decide) (fun h111 => ?_) (fun h111 => ?_)
  · refine z_iconst C dX12_holds_121 ki_0 ?_
    refine f_topi (y := zi false) (by decide) ?_
    refine z_ior C dX12_holds_122 ?_
    refine z_istore_n C [(3, .int (0 ||| (zi false))), (4, .int 0), (0, .ref (B.1 + 113)), (1, .int (nI d)), (2, .int w)] dX12_holds_123 rfl (by decide) rfl ?_
    refine z_iinc C [(4, .int 1), (3, .int (0 ||| (zi false))), (0, .ref (B.1 + 113)), (1, .int (nI d)), (2, .int w)] dX12_holds_124 1 rfl (by decide) (by decide) rfl ?_
    refine z_goto C 36 dX12_holds_127 (by decide) ?_
    refine z_lv (lv2 := [(4, .int 1), (3, .int ((0 : Int32) ||| zi false)), (0, .ref (B.1 + 113)), (1, .int (nI d)), (2, .int w)]) [0, 1, 2, 3, 4] (by rfl) ?_
    rw [← h111]
    exact l_X12_holds1 hl C N mo h6 d hd0 M hM hM6 hB w ((mL s d &&& (((1 : Int32) <<< (w &&& 31)) ^^^ (-1))) ||| ((1 : Int32) <<< (w &&& 31))) ((mH s d &&& (((1 : Int32) <<< (w &&& 31)) ^^^ (-1))) ||| 0) E
  · refine z_iconst C dX12_holds_114 ki_1 ?_
    refine z_iload C dX12_holds_115 0 rfl ?_
    refine z_ishl C dX12_holds_117 ?_
    refine z_goto C 122 dX12_holds_118 (by decide) ?_
    refine f_topi (y := zi true) (by decide) ?_
    refine z_ior C dX12_holds_122 ?_
    refine z_istore_n C [(3, .int (0 ||| (zi true))), (4, .int 0), (0, .ref (B.1 + 113)), (1, .int (nI d)), (2, .int w)] dX12_holds_123 rfl (by decide) rfl ?_
    refine z_iinc C [(4, .int 1), (3, .int (0 ||| (zi true))), (0, .ref (B.1 + 113)), (1, .int (nI d)), (2, .int w)] dX12_holds_124 1 rfl (by decide) (by decide) rfl ?_
    refine z_goto C 36 dX12_holds_127 (by decide) ?_
    refine z_lv (lv2 := [(4, .int 1), (3, .int ((0 : Int32) ||| zi true)), (0, .ref (B.1 + 113)), (1, .int (nI d)), (2, .int w)]) [0, 1, 2, 3, 4] (by rfl) ?_
    rw [← h111]
    exact l_X12_holds1 hl C N mo h6 d hd0 M hM hM6 hB w ((mL s d &&& (((1 : Int32) <<< (w &&& 31)) ^^^ (-1))) ||| ((1 : Int32) <<< (w &&& 31))) ((mH s d &&& (((1 : Int32) <<< (w &&& 31)) ^^^ (-1))) ||| 0) E
set_option maxRecDepth 100000 in
set_option maxHeartbeats 4000000 in
theorem c_X12_holds_ok (l : Launch) (B : zB) (s : zS) (t : zL) (N : Nat) (mo : mOk s N) (d : Nat) (hd0 : d < N) (M : Nat) (hM : s 114 7 = nI M) (hM6 : M ≤ 6) (hB : ∀ n, n < M → r8 (s 114 (33 + 4 * n + 1))) (w : Int32) (g : wIn (nI d) (s 114 0 - 1) = true) (g2 : wIn w 7 = true) : zD l B mX12_holds s t [.ref (B.1 + 113), .int (nI d), .int w] (some (.int ((((0 : Int32) ||| zi (mFit (s 114) (nI d) (mK s d) ((mL s d &&& (((1 : Int32) <<< (w &&& 31)) ^^^ (-1))) ||| ((1 : Int32) <<< (w &&& 31))) ((mH s d &&& (((1 : Int32) <<< (w &&& 31)) ^^^ (-1))) ||| 0) M)) ||| (zi (mFit (s 114) (nI d) (mK s d) ((mL s d &&& (((1 : Int32) <<< (w &&& 31)) ^^^ (-1))) ||| 0) ((mH s d &&& (((1 : Int32) <<< (w &&& 31)) ^^^ (-1))) ||| ((1 : Int32) <<< (w &&& 31))) M) <<< ((1 : Int32) &&& 31))) ||| (zi (mFit (s 114) (nI d) (mK s d) ((mL s d &&& (((1 : Int32) <<< (w &&& 31)) ^^^ (-1))) ||| 0) ((mH s d &&& (((1 : Int32) <<< (w &&& 31)) ^^^ (-1))) ||| 0) M) <<< ((2 : Int32) &&& 31))))) (mHo (wHand s N) d ((mL s d &&& (((1 : Int32) <<< (w &&& 31)) ^^^ (-1))) ||| 0) ((mH s d &&& (((1 : Int32) <<< (w &&& 31)) ^^^ (-1))) ||| 0)) t := by
  have h6 := mo.2.1
  refine z_met (by decide) (Nat.le_of_ble_eq_true rfl) ?_
  intro X hl C E hnm
  show Zf X B mX12_holds s t 0 [(0, .ref (B.1 + 113)), (1, .int (nI d)), (2, .int w)] []
  refine z_aload_n C dX12_holds_0 0 rfl rfl ?_
  refine z_iload_n C dX12_holds_1 1 rfl rfl ?_
  refine f_callVr C hl (As := [.int (nI d)]) (rest := []) (c_X12_isDeputy l B s t (nI d)) zb_113 (zg_12 zk_113) rfl (zCB (nA := 1) C rfl rfl tw_893 tw_13 tw_890 (by decide +kernel) ⟨Nat.le_of_ble_eq_true rfl, Nat.le_of_ble_eq_true rfl⟩) tw_892 tp_38 rfl rfl (Nat.le_of_ble_eq_true rfl) dX12_holds_2 (Nat.zero_le _) ?_
  refine z_ifb_eq C 20 dX12_holds_5 (by decide) (fun hbr => absurd hbr (by rw [g]; decide)) (fun _ => ?_)
  refine z_iload_n C dX12_holds_8 2 rfl rfl ?_
  refine z_i2l C dX12_holds_9 ?_
  refine z_lconst C dX12_holds_10 kl_0 ?_
  refine z_ldc2 C dX12_holds_11 tw_989 ?_
  refine f_callSr C hl (As := [.long ((w : Int32).toInt64), .long 0, .long 7]) (rest := []) (c_X12_in0 l B s t w 7 ((w : Int32).toInt64) 7 rfl (by decide)) (zCB (nA := 3) C rfl rfl tw_810 tw_13 tw_808 (by decide +kernel) ⟨Nat.le_of_ble_eq_true rfl, Nat.le_of_ble_eq_true rfl⟩) tw_809 rfl rfl (Nat.le_of_ble_eq_true rfl) dX12_holds_14 (Nat.zero_le _) ?_
  refine z_ifb_ne C 27 dX12_holds_17 (by decide) (fun _ => ?_) (fun hbr => Bool.noConfusion (show false = true from hbr.symm.trans g2))
  refine z_iconst C dX12_holds_27 ki_0 ?_
  refine z_istore_n C [(3, .int 0), (0, .ref (B.1 + 113)), (1, .int (nI d)), (2, .int w)] dX12_holds_28 rfl (by decide) rfl ?_
  refine z_aload_n C dX12_holds_29 1 rfl rfl ?_
  refine f_callVv C hl (As := []) (rest := []) (c_X12_layHand l B s t N mo.1 mo.2.1) zb_113 (zg_12 zk_113) rfl (zCB (nA := 0) C rfl rfl tw_851 tw_13 tw_848 (by decide +kernel) ⟨Nat.le_of_ble_eq_true rfl, Nat.le_of_ble_eq_true rfl⟩) tw_850 tp_31 rfl rfl (Nat.le_of_ble_eq_true rfl) dX12_holds_30 (Nat.zero_le _) ?_
  refine z_iconst C dX12_holds_33 ki_0 ?_
  refine z_istore C [(4, .int 0), (3, .int 0), (0, .ref (B.1 + 113)), (1, .int (nI d)), (2, .int w)] dX12_holds_34 (by decide) rfl ?_
  refine z_G (congrArg (fun z => zg B z t) (mHo_self _ d).symm) ?_
  exact z_lv [0, 1, 2, 3, 4] rfl (l_X12_holds0 hl C N mo h6 d hd0 M hM hM6 hB w _ _ E)
