def mBet (lk : Int32) (N : Nat) (bu w bo hi : Int32) : Bool := decide (¬ bu = 0) && (decide (¬ w &&& (((1 : Int32) <<< (bo &&& 31)) ^^^ (-1)) = 0) || ((decide (¬ nI N ≤ hi) && decide (¬ hi = bo)) && !wHas lk hi))
theorem mBet_0 {lk bu w bo hi : Int32} {N : Nat} (h : bu = 0) : (0 : Int32) = zi (mBet lk N bu w bo hi) := by simp [mBet, h, zi]
theorem mBet_1 {lk bu w bo hi : Int32} {N : Nat} (h : ¬ bu = 0) (h1 : ¬ w &&& (((1 : Int32) <<< (bo &&& 31)) ^^^ (-1)) = 0) : (1 : Int32) = zi (mBet lk N bu w bo hi) := by rw [mBet, decide_eq_true h, decide_eq_true h1]; rfl
theorem mBet_2 {lk bu w bo hi : Int32} {N : Nat} {v : Bool} (h : ¬ bu = 0) (h1 : w &&& (((1 : Int32) <<< (bo &&& 31)) ^^^ (-1)) = 0) (h2 : ((decide (¬ nI N ≤ hi) && decide (¬ hi = bo)) && !wHas lk hi) = v) : zi v = zi (mBet lk N bu w bo hi) := by rw [mBet, decide_eq_true h, decide_eq_false (fun q => q h1), h2]; rfl
abbrev mX12_isStopped : zM := (yX12_isStopped, cX12_isStopped, 7, (some .boolean), { frames := 1, cells := 0, slots := 0, locals := 21 })
set_option maxRecDepth 100000 in
set_option maxHeartbeats 4000000 in
theorem c_X12_isStopped (l : Launch) (B : zB) (s : zS) (t : zL) (N : Nat) (hN : s 114 0 = nI N) (w bu bo hi : Int32) : zD l B mX12_isStopped s t [.ref (B.1 + 113), .int w, .int bu, .int bo, .int hi] (some (.int (zi (mBet (s 114 4) N bu w bo hi)))) s t := by
  refine z_met (by decide) (Nat.le_of_ble_eq_true rfl) ?_
  intro X hl C E hnm
  show Zf X B mX12_isStopped s t 0 [(0, .ref (B.1 + 113)), (1, .int w), (2, .int bu), (3, .int bo), (4, .int hi)] []
  refine z_iload_n C dX12_isStopped_0 1 rfl rfl ?_
  refine z_iconst C dX12_isStopped_1 ki_1 ?_
  refine z_iload_n C dX12_isStopped_2 3 rfl rfl ?_
  refine z_ishl C dX12_isStopped_3 ?_
  refine z_iconst C dX12_isStopped_4 ki_m1 ?_
  refine z_ixor C dX12_isStopped_5 ?_
  refine z_iand C dX12_isStopped_6 ?_
  refine z_istore C [(5, .int (w &&& ((1 <<< (bo &&& 31)) ^^^ (-1)))), (0, .ref (B.1 + 113)), (1, .int w), (2, .int bu), (3, .int bo), (4, .int hi)] dX12_isStopped_7 (by decide) rfl ?_
  refine z_iload C dX12_isStopped_9 5 rfl ?_
  refine z_aload_n C dX12_isStopped_11 1 rfl rfl ?_
  refine f_callVr C hl (As := []) (rest := [.int hi]) (c_X12_many l B s t) zb_113 (zg_12 zk_113) rfl (zCB (nA := 0) C rfl rfl tw_818 tw_13 tw_815 (by decide +kernel) ⟨Nat.le_of_ble_eq_true rfl, Nat.le_of_ble_eq_true rfl⟩) tw_817 tp_27 rfl rfl (Nat.le_of_ble_eq_true rfl) dX12_isStopped_12 (Nat.zero_le _) ?_
  refine f_topi (y := nI N) hN ?_
  refine z_icmp_ge C 42 dX12_isStopped_15 (by decide) (fun h15 => ?_) (fun h15 => ?_)
  · refine z_iconst C dX12_isStopped_42 ki_0 ?_
    refine z_istore C [(6, .int 0), (5, .int (w &&& ((1 <<< (bo &&& 31)) ^^^ (-1)))), (0, .ref (B.1 + 113)), (1, .int w), (2, .int bu), (3, .int bo), (4, .int hi)] dX12_isStopped_43 (by decide) rfl ?_
    refine z_iload_n C dX12_isStopped_45 4 rfl rfl ?_
    refine z_if_eq C 63 dX12_isStopped_46 (by decide) (fun h46 => ?_) (fun h46 => ?_)
    · refine z_iconst C dX12_isStopped_63 ki_0 ?_
      refine z_zret C E rfl dX12_isStopped_64 rfl rfl (Nat.le_refl _) ⟨congrArg (fun z => some (Value.int z)) (mBet_0 h46), rfl⟩
    · refine z_iload C dX12_isStopped_49 1 rfl ?_
      refine z_if_ne C 59 dX12_isStopped_51 (by decide) (fun h51 => ?_) (fun h51 => ?_)
      · refine z_iconst C dX12_isStopped_59 ki_1 ?_
        refine z_goto C 64 dX12_isStopped_60 (by decide) ?_
        refine z_zret C E rfl dX12_isStopped_64 rfl rfl (Nat.le_refl _) ⟨congrArg (fun z => some (Value.int z)) (mBet_1 h46 h51), rfl⟩
      · refine z_iload C dX12_isStopped_54 0 rfl ?_
        refine z_if_eq C 63 dX12_isStopped_56 (by decide) (fun _ => ?_) (fun hbr => absurd (by decide) hbr)
        refine z_iconst C dX12_isStopped_63 ki_0 ?_
        refine z_zret C E rfl dX12_isStopped_64 rfl rfl (Nat.le_refl _) ⟨congrArg (fun z => some (Value.int z)) (mBet_2 (v := false) h46 h51 (by rw [show decide (¬ nI N ≤ hi) = false from decide_eq_false (fun q => q h15)]; rfl)), rfl⟩
  · refine z_iload C dX12_isStopped_18 5 rfl ?_
    refine z_iload_n C dX12_isStopped_20 4 rfl rfl ?_
    refine z_icmp_eq C 42 dX12_isStopped_21 (by decide) (fun h21 => ?_) (fun h21 => ?_)
    · refine z_iconst C dX12_isStopped_42 ki_0 ?_
      refine z_istore C [(6, .int 0), (5, .int (w &&& ((1 <<< (bo &&& 31)) ^^^ (-1)))), (0, .ref (B.1 + 113)), (1, .int w), (2, .int bu), (3, .int bo), (4, .int hi)] dX12_isStopped_43 (by decide) rfl ?_
      refine z_iload_n C dX12_isStopped_45 4 rfl rfl ?_
      refine z_if_eq C 63 dX12_isStopped_46 (by decide) (fun h46 => ?_) (fun h46 => ?_)
      · refine z_iconst C dX12_isStopped_63 ki_0 ?_
        refine z_zret C E rfl dX12_isStopped_64 rfl rfl (Nat.le_refl _) ⟨congrArg (fun z => some (Value.int z)) (mBet_0 h46), rfl⟩
      · refine z_iload C dX12_isStopped_49 1 rfl ?_
        refine z_if_ne C 59 dX12_isStopped_51 (by decide) (fun h51 => ?_) (fun h51 => ?_)
        · refine z_iconst C dX12_isStopped_59 ki_1 ?_
          refine z_goto C 64 dX12_isStopped_60 (by decide) ?_
          refine z_zret C E rfl dX12_isStopped_64 rfl rfl (Nat.le_refl _) ⟨congrArg (fun z => some (Value.int z)) (mBet_1 h46 h51), rfl⟩
        · refine z_iload C dX12_isStopped_54 0 rfl ?_
          refine z_if_eq C 63 dX12_isStopped_56 (by decide) (fun _ => ?_) (fun hbr => absurd (by decide) hbr)
          refine z_iconst C dX12_isStopped_63 ki_0 ?_
          refine z_zret C E rfl dX12_isStopped_64 rfl rfl (Nat.le_refl _) ⟨congrArg (fun z => some (Value.int z)) (mBet_2 (v := false) h46 h51 (by rw [show decide (¬ hi = bo) = false from decide_eq_false (fun q => q h21), Bool.and_false]; rfl)), rfl⟩
    · refine z_aload_n C dX12_isStopped_24 1 rfl rfl ?_
      refine f_get12 C 0 (v := .ref (B.1 + 114)) (by decide) tw_744 rfl zk_113 zb_113 rfl dX12_isStopped_25 ?_
      refine z_iconst C dX12_isStopped_28 ki_4 ?_
      refine f_ialdL C zk_114 zb_114 (by unfold vp_in; decide) (j := 4) (by decide) dX12_isStopped_29 ?_
      refine z_iload C dX12_isStopped_30 5 rfl ?_
      refine f_callSr C hl (As := [.int (s 114 4), .int hi]) (rest := []) (c_X12_has l B s t (s 114 4) hi) (zCB (nA := 2) C rfl rfl tw_866 tw_13 tw_864 (by decide +kernel) ⟨Nat.le_of_ble_eq_true rfl, Nat.le_of_ble_eq_true rfl⟩) tw_865 rfl rfl (Nat.le_of_ble_eq_true rfl) dX12_isStopped_32 (Nat.zero_le _) ?_
      refine z_ifb_ne C 42 dX12_isStopped_35 (by decide) (fun h35 => ?_) (fun h35 => ?_)
      · refine z_iconst C dX12_isStopped_42 ki_0 ?_
        refine z_istore C [(6, .int 0), (5, .int (w &&& ((1 <<< (bo &&& 31)) ^^^ (-1)))), (0, .ref (B.1 + 113)), (1, .int w), (2, .int bu), (3, .int bo), (4, .int hi)] dX12_isStopped_43 (by decide) rfl ?_
        refine z_iload_n C dX12_isStopped_45 4 rfl rfl ?_
        refine z_if_eq C 63 dX12_isStopped_46 (by decide) (fun h46 => ?_) (fun h46 => ?_)
        · refine z_iconst C dX12_isStopped_63 ki_0 ?_
          refine z_zret C E rfl dX12_isStopped_64 rfl rfl (Nat.le_refl _) ⟨congrArg (fun z => some (Value.int z)) (mBet_0 h46), rfl⟩
        · refine z_iload C dX12_isStopped_49 1 rfl ?_
          refine z_if_ne C 59 dX12_isStopped_51 (by decide) (fun h51 => ?_) (fun h51 => ?_)
          · refine z_iconst C dX12_isStopped_59 ki_1 ?_
            refine z_goto C 64 dX12_isStopped_60 (by decide) ?_
            refine z_zret C E rfl dX12_isStopped_64 rfl rfl (Nat.le_refl _) ⟨congrArg (fun z => some (Value.int z)) (mBet_1 h46 h51), rfl⟩
          · refine z_iload C dX12_isStopped_54 0 rfl ?_
            refine z_if_eq C 63 dX12_isStopped_56 (by decide) (fun _ => ?_) (fun hbr => absurd (by decide) hbr)
            refine z_iconst C dX12_isStopped_63 ki_0 ?_
            refine z_zret C E rfl dX12_isStopped_64 rfl rfl (Nat.le_refl _) ⟨congrArg (fun z => some (Value.int z)) (mBet_2 (v := false) h46 h51 (by rw [h35, Bool.not_true, Bool.and_false])), rfl⟩
      · refine z_iconst C dX12_isStopped_38 ki_1 ?_
        refine z_goto C 43 dX12_isStopped_39 (by decide) ?_
        refine z_istore C [(6, .int 1), (5, .int (w &&& ((1 <<< (bo &&& 31)) ^^^ (-1)))), (0, .ref (B.1 + 113)), (1, .int w), (2, .int bu), (3, .int bo), (4, .int hi)] dX12_isStopped_43 (by decide) rfl ?_
        refine z_iload_n C dX12_isStopped_45 4 rfl rfl ?_
        refine z_if_eq C 63 dX12_isStopped_46 (by decide) (fun h46 => ?_) (fun h46 => ?_)
        · refine z_iconst C dX12_isStopped_63 ki_0 ?_
          refine z_zret C E rfl dX12_isStopped_64 rfl rfl (Nat.le_refl _) ⟨congrArg (fun z => some (Value.int z)) (mBet_0 h46), rfl⟩
        · refine z_iload C dX12_isStopped_49 1 rfl ?_
          refine z_if_ne C 59 dX12_isStopped_51 (by decide) (fun h51 => ?_) (fun h51 => ?_)
          · refine z_iconst C dX12_isStopped_59 ki_1 ?_
            refine z_goto C 64 dX12_isStopped_60 (by decide) ?_
            refine z_zret C E rfl dX12_isStopped_64 rfl rfl (Nat.le_refl _) ⟨congrArg (fun z => some (Value.int z)) (mBet_1 h46 h51), rfl⟩
          · refine z_iload C dX12_isStopped_54 0 rfl ?_
            refine z_if_eq C 63 dX12_isStopped_56 (by decide) (fun hbr => absurd hbr (by decide)) (fun _ => ?_)
            refine z_iconst C dX12_isStopped_59 ki_1 ?_
            refine z_goto C 64 dX12_isStopped_60 (by decide) ?_
            refine z_zret C E rfl dX12_isStopped_64 rfl rfl (Nat.le_refl _) ⟨congrArg (fun z => some (Value.int z)) (mBet_2 (v := true) h46 h51 (by rw [decide_eq_true h15, decide_eq_true h21, h35]; rfl)), rfl⟩
abbrev mX12_courts : zM := (yX12_courts, cX12_courts, 9, (some .int), { frames := 4, cells := 0, slots := 0, locals := 92 })
set_option maxRecDepth 100000 in
set_option maxHeartbeats 4000000 in
theorem c_X12_courts_bad (l : Launch) (B : zB) (s : zS) (t : zL) (b : Int32) (g : wIn b 255 = false) : zD l B mX12_courts s t [.ref (B.1 + 113), .int b] (some (.int (-2))) (zu s 117 0 (s 117 0 + 1)) t := by
  refine z_met (by decide) (Nat.le_of_ble_eq_true rfl) ?_
  intro X hl C E hnm
  show Zf X B mX12_courts s t 0 [(0, .ref (B.1 + 113)), (1, .int b)] []
  refine z_iload_n C dX12_courts_0 1 rfl rfl ?_
  refine f_callSr C hl (As := [.int b]) (rest := []) (c_X12_isBundle l B s t b) (zCB (nA := 1) C rfl rfl tw_826 tw_13 tw_824 (by decide +kernel) ⟨Nat.le_of_ble_eq_true rfl, Nat.le_of_ble_eq_true rfl⟩) tw_825 rfl rfl (Nat.le_of_ble_eq_true rfl) dX12_courts_1 (Nat.zero_le _) ?_
  refine z_ifb_ne C 14 dX12_courts_4 (by decide) (fun hbr => absurd hbr (by rw [g]; decide)) (fun _ => ?_)
  refine z_aload_n C dX12_courts_7 0 rfl rfl ?_
  refine z_bipush C dX12_courts_8 kb_m2 ?_
  refine f_callVr C hl (As := [.int (-2)]) (rest := []) (c_X12_bad l B s t (-2)) zb_113 (zg_12 zk_113) rfl (zCB (nA := 1) C rfl rfl tw_814 tw_13 tw_811 (by decide +kernel) ⟨Nat.le_of_ble_eq_true rfl, Nat.le_of_ble_eq_true rfl⟩) tw_813 tp_26 rfl rfl (Nat.le_of_ble_eq_true rfl) dX12_courts_10 (Nat.zero_le _) ?_
  refine z_iret C E rfl dX12_courts_13 rfl (Nat.le_refl _) ⟨rfl, rfl⟩
def mOw (lk : Int32) (N : Nat) (bu w : Int32) (i j o : Nat) : Bool := if mBet lk N bu w (nI i) (nI j) = true then mBet lk N bu w (nI o) (nI j) else !mBet lk N bu w (nI i) (nI o)
def mPair (lk : Int32) (N : Nat) (bu w : Int32) (i j : Nat) : Bool := wAll (mOw lk N bu w i j) (N + 1)
theorem nI_gt {a b : Nat} (h : a < b) (hb : b < 2 ^ 31) : nI a < nI b := nI_lt h hb
set_option maxRecDepth 100000 in
set_option maxHeartbeats 4000000 in
theorem l_X12_courts_a {l : Launch} {B : zB} {s : zS} {t : zL} {X : zX} (hl : X.2.1 = l) (C : zC X B mX12_courts) (N : Nat) (hN : s 114 0 = nI N) (h6 : N ≤ 6) (b w : Int32) (i j : Nat) (a : Int32) (ha : a = wAdd (fun i => wAdd (fun j => zi (mPair (s 114 4) N b w i j)) (N + 1)) i + wAdd (fun j => zi (mPair (s 114 4) N b w i j)) j) (kk : ∀ a : Int32, a = wAdd (fun i => wAdd (fun j => zi (mPair (s 114 4) N b w i j)) (N + 1)) i + wAdd (fun j => zi (mPair (s 114 4) N b w i j)) (j + 1) → Zf X B mX12_courts s t 41 [(5, .int (nI (j + 1))), (4, .int (nI i)), (3, .int w), (2, .int a), (0, .ref (B.1 + 113)), (1, .int b)] []) (E : zE X B mX12_courts 124 0 0 (zR B (some (.int (wAdd (fun i => wAdd (fun j => zi (mPair (s 114 4) N b w i j)) (N + 1)) (N + 1)))) s t)) : ∀ (m : Nat) (o : Nat) (r : Bool), o + m = N + 1 → r = wAll (mOw (s 114 4) N b w i j) o → Zf X B mX12_courts s t 68 [(8, .int (nI o)), (7, .int (zi r)), (6, .int (zi (mBet (s 114 4) N b w (nI i) (nI j)))), (5, .int (nI j)), (4, .int (nI i)), (3, .int w), (2, .int a), (0, .ref (B.1 + 113)), (1, .int b)] [] := by
  intro m
  induction m with
  | zero =>
    intro o r ho hr
    refine z_iload C dX12_courts_68 0 rfl ?_
    refine z_aload_n C dX12_courts_70 7 rfl rfl ?_
    refine f_callVr C hl (As := []) (rest := [.int (nI o)]) (c_X12_many l B s t) zb_113 (zg_12 zk_113) rfl (zCB (nA := 0) C rfl rfl tw_818 tw_13 tw_815 (by decide +kernel) ⟨Nat.le_of_ble_eq_true rfl, Nat.le_of_ble_eq_true rfl⟩) tw_817 tp_27 rfl rfl (Nat.le_of_ble_eq_true rfl) dX12_courts_71 (Nat.zero_le _) ?_
    refine f_topi (y := nI N) hN ?_
    refine z_icmp_gt C 129 dX12_courts_74 (by decide) (fun _ => ?_) (fun hbr => absurd (nI_gt (by omega) (by omega)) hbr)
    refine z_iload_n C dX12_courts_129 6 rfl rfl ?_
    refine z_iload C dX12_courts_130 1 rfl ?_
    refine z_ifb_eq C 139 dX12_courts_132 (by decide) (fun h132 => ?_) (fun h132 => ?_)
    · refine z_iconst C dX12_courts_139 ki_0 ?_
      refine z_iadd C dX12_courts_140 ?_
      refine z_istore_n C [(2, .int (a + 0)), (8, .int (nI o)), (7, .int (zi r)), (6, .int (zi (mBet (s 114 4) N b w (nI i) (nI j)))), (5, .int (nI j)), (4, .int (nI i)), (3, .int w), (0, .ref (B.1 + 113)), (1, .int b)] dX12_courts_141 rfl (by decide) rfl ?_
      refine z_iinc C [(5, .int (nI (j + 1))), (2, .int (a + 0)), (8, .int (nI o)), (7, .int (zi r)), (6, .int (zi (mBet (s 114 4) N b w (nI i) (nI j)))), (4, .int (nI i)), (3, .int w), (0, .ref (B.1 + 113)), (1, .int b)] dX12_courts_142 4 rfl (nI_inc j) (by decide) rfl ?_
      refine z_goto C 41 dX12_courts_145 (by decide) ?_
      exact z_lv [0, 5, 6, 1, 7, 8] rfl (kk _ (by have e : mPair (s 114 4) N b w i j = false := (by rw [mPair, show N + 1 = o by omega, ← hr, h132]); rw [ha]; show _ = _ + (_ + zi (mPair (s 114 4) N b w i j)); rw [e, ← Int32.add_assoc]; rfl))
    · refine z_iconst C dX12_courts_135 ki_1 ?_
      refine z_goto C 140 dX12_courts_136 (by decide) ?_
      refine z_iadd C dX12_courts_140 ?_
      refine z_istore_n C [(2, .int (a + 1)), (8, .int (nI o)), (7, .int (zi r)), (6, .int (zi (mBet (s 114 4) N b w (nI i) (nI j)))), (5, .int (nI j)), (4, .int (nI i)), (3, .int w), (0, .ref (B.1 + 113)), (1, .int b)] dX12_courts_141 rfl (by decide) rfl ?_
      refine z_iinc C [(5, .int (nI (j + 1))), (2, .int (a + 1)), (8, .int (nI o)), (7, .int (zi r)), (6, .int (zi (mBet (s 114 4) N b w (nI i) (nI j)))), (4, .int (nI i)), (3, .int w), (0, .ref (B.1 + 113)), (1, .int b)] dX12_courts_142 4 rfl (nI_inc j) (by decide) rfl ?_
      refine z_goto C 41 dX12_courts_145 (by decide) ?_
      exact z_lv [0, 5, 6, 1, 7, 8] rfl (kk _ (by have e : mPair (s 114 4) N b w i j = true := (by rw [mPair, show N + 1 = o by omega, ← hr, h132]); rw [ha]; show _ = _ + (_ + zi (mPair (s 114 4) N b w i j)); rw [e, ← Int32.add_assoc]; rfl))
  | succ m ih =>
    intro o r ho hr
    refine z_iload C dX12_courts_68 0 rfl ?_
    refine z_aload_n C dX12_courts_70 7 rfl rfl ?_
    refine f_callVr C hl (As := []) (rest := [.int (nI o)]) (c_X12_many l B s t) zb_113 (zg_12 zk_113) rfl (zCB (nA := 0) C rfl rfl tw_818 tw_13 tw_815 (by decide +kernel) ⟨Nat.le_of_ble_eq_true rfl, Nat.le_of_ble_eq_true rfl⟩) tw_817 tp_27 rfl rfl (Nat.le_of_ble_eq_true rfl) dX12_courts_71 (Nat.zero_le _) ?_
    refine f_topi (y := nI N) hN ?_
    refine z_icmp_gt C 129 dX12_courts_74 (by decide) (fun hbr => absurd hbr (nI_nlt (by omega) (by omega))) (fun _ => ?_)
    refine z_iload C dX12_courts_77 1 rfl ?_
    refine z_ifb_eq C 120 dX12_courts_79 (by decide) (fun h79 => ?_) (fun h79 => ?_)
    · refine z_iconst C dX12_courts_120 ki_0 ?_
      refine z_istore C [(7, .int 0), (8, .int (nI o)), (6, .int (zi (mBet (s 114 4) N b w (nI i) (nI j)))), (5, .int (nI j)), (4, .int (nI i)), (3, .int w), (2, .int a), (0, .ref (B.1 + 113)), (1, .int b)] dX12_courts_121 (by decide) rfl ?_
      refine z_iinc C [(8, .int (nI (o + 1))), (7, .int 0), (6, .int (zi (mBet (s 114 4) N b w (nI i) (nI j)))), (5, .int (nI j)), (4, .int (nI i)), (3, .int w), (2, .int a), (0, .ref (B.1 + 113)), (1, .int b)] dX12_courts_123 1 rfl (nI_inc o) (by decide) rfl ?_
      refine z_goto C 68 dX12_courts_126 (by decide) ?_
      exact z_lv (lv2 := [(8, .int (nI (o + 1))), (7, .int (zi false)), (6, .int (zi (mBet (s 114 4) N b w (nI i) (nI j)))), (5, .int (nI j)), (4, .int (nI i)), (3, .int w), (2, .int a), (0, .ref (B.1 + 113)), (1, .int b)]) [0, 1, 2, 3, 4, 5, 6, 7, 8] rfl (ih (o + 1) _ (by omega) (by rw [wAll, ← hr, h79]; rfl))
    · refine z_iload C dX12_courts_82 2 rfl ?_
      refine z_ifb_eq C 103 dX12_courts_84 (by decide) (fun h84 => ?_) (fun h84 => ?_)
      · refine z_aload_n C dX12_courts_103 7 rfl rfl ?_
        refine z_iload_n C dX12_courts_104 5 rfl rfl ?_
        refine z_iload_n C dX12_courts_105 8 rfl rfl ?_
        refine z_iload C dX12_courts_106 4 rfl ?_
        refine z_iload C dX12_courts_108 0 rfl ?_
        refine f_callVr C hl (As := [.int w, .int b, .int (nI i), .int (nI o)]) (rest := []) (c_X12_isStopped l B s t N hN w b (nI i) (nI o)) zb_113 (zg_12 zk_113) rfl (zCB (nA := 4) C rfl rfl tw_960 tw_13 tw_957 (by decide +kernel) ⟨Nat.le_of_ble_eq_true rfl, Nat.le_of_ble_eq_true rfl⟩) tw_959 tp_42 rfl rfl (Nat.le_of_ble_eq_true rfl) dX12_courts_110 (Nat.zero_le _) ?_
        refine z_ifb_ne C 120 dX12_courts_113 (by decide) (fun h113 => ?_) (fun h113 => ?_)
        · refine z_iconst C dX12_courts_120 ki_0 ?_
          refine z_istore C [(7, .int 0), (8, .int (nI o)), (6, .int (zi (mBet (s 114 4) N b w (nI i) (nI j)))), (5, .int (nI j)), (4, .int (nI i)), (3, .int w), (2, .int a), (0, .ref (B.1 + 113)), (1, .int b)] dX12_courts_121 (by decide) rfl ?_
          refine z_iinc C [(8, .int (nI (o + 1))), (7, .int 0), (6, .int (zi (mBet (s 114 4) N b w (nI i) (nI j)))), (5, .int (nI j)), (4, .int (nI i)), (3, .int w), (2, .int a), (0, .ref (B.1 + 113)), (1, .int b)] dX12_courts_123 1 rfl (nI_inc o) (by decide) rfl ?_
          refine z_goto C 68 dX12_courts_126 (by decide) ?_
          exact z_lv (lv2 := [(8, .int (nI (o + 1))), (7, .int (zi false)), (6, .int (zi (mBet (s 114 4) N b w (nI i) (nI j)))), (5, .int (nI j)), (4, .int (nI i)), (3, .int w), (2, .int a), (0, .ref (B.1 + 113)), (1, .int b)]) [0, 1, 2, 3, 4, 5, 6, 7, 8] rfl (ih (o + 1) _ (by omega) (by rw [wAll, ← hr, h79, mOw, if_neg (by rw [h84]; decide), h113]; rfl))
        · refine z_iconst C dX12_courts_116 ki_1 ?_
          refine z_goto C 121 dX12_courts_117 (by decide) ?_
          refine z_istore C [(7, .int 1), (8, .int (nI o)), (6, .int (zi (mBet (s 114 4) N b w (nI i) (nI j)))), (5, .int (nI j)), (4, .int (nI i)), (3, .int w), (2, .int a), (0, .ref (B.1 + 113)), (1, .int b)] dX12_courts_121 (by decide) rfl ?_
          refine z_iinc C [(8, .int (nI (o + 1))), (7, .int 1), (6, .int (zi (mBet (s 114 4) N b w (nI i) (nI j)))), (5, .int (nI j)), (4, .int (nI i)), (3, .int w), (2, .int a), (0, .ref (B.1 + 113)), (1, .int b)] dX12_courts_123 1 rfl (nI_inc o) (by decide) rfl ?_
          refine z_goto C 68 dX12_courts_126 (by decide) ?_
          exact z_lv (lv2 := [(8, .int (nI (o + 1))), (7, .int (zi true)), (6, .int (zi (mBet (s 114 4) N b w (nI i) (nI j)))), (5, .int (nI j)), (4, .int (nI i)), (3, .int w), (2, .int a), (0, .ref (B.1 + 113)), (1, .int b)]) [0, 1, 2, 3, 4, 5, 6, 7, 8] rfl (ih (o + 1) _ (by omega) (by rw [wAll, ← hr, h79, mOw, if_neg (by rw [h84]; decide), h113]; rfl))
      · refine z_aload_n C dX12_courts_87 7 rfl rfl ?_
        refine z_iload_n C dX12_courts_88 5 rfl rfl ?_
        refine z_iload_n C dX12_courts_89 8 rfl rfl ?_
        refine z_iload C dX12_courts_90 0 rfl ?_
        refine z_iload C dX12_courts_92 3 rfl ?_
        refine f_callVr C hl (As := [.int w, .int b, .int (nI o), .int (nI j)]) (rest := []) (c_X12_isStopped l B s t N hN w b (nI o) (nI j)) zb_113 (zg_12 zk_113) rfl (zCB (nA := 4) C rfl rfl tw_960 tw_13 tw_957 (by decide +kernel) ⟨Nat.le_of_ble_eq_true rfl, Nat.le_of_ble_eq_true rfl⟩) tw_959 tp_42 rfl rfl (Nat.le_of_ble_eq_true rfl) dX12_courts_94 (Nat.zero_le _) ?_
        refine z_ifb_eq C 120 dX12_courts_97 (by decide) (fun h97 => ?_) (fun h97 => ?_)
        · refine z_iconst C dX12_courts_120 ki_0 ?_
          refine z_istore C [(7, .int 0), (8, .int (nI o)), (6, .int (zi (mBet (s 114 4) N b w (nI i) (nI j)))), (5, .int (nI j)), (4, .int (nI i)), (3, .int w), (2, .int a), (0, .ref (B.1 + 113)), (1, .int b)] dX12_courts_121 (by decide) rfl ?_
          refine z_iinc C [(8, .int (nI (o + 1))), (7, .int 0), (6, .int (zi (mBet (s 114 4) N b w (nI i) (nI j)))), (5, .int (nI j)), (4, .int (nI i)), (3, .int w), (2, .int a), (0, .ref (B.1 + 113)), (1, .int b)] dX12_courts_123 1 rfl (nI_inc o) (by decide) rfl ?_
          refine z_goto C 68 dX12_courts_126 (by decide) ?_
          exact z_lv (lv2 := [(8, .int (nI (o + 1))), (7, .int (zi false)), (6, .int (zi (mBet (s 114 4) N b w (nI i) (nI j)))), (5, .int (nI j)), (4, .int (nI i)), (3, .int w), (2, .int a), (0, .ref (B.1 + 113)), (1, .int b)]) [0, 1, 2, 3, 4, 5, 6, 7, 8] rfl (ih (o + 1) _ (by omega) (by rw [wAll, ← hr, h79, mOw, if_pos h84, h97]; rfl))
        · refine z_goto C 116 dX12_courts_100 (by decide) ?_
          refine z_iconst C dX12_courts_116 ki_1 ?_
          refine z_goto C 121 dX12_courts_117 (by decide) ?_
          refine z_istore C [(7, .int 1), (8, .int (nI o)), (6, .int (zi (mBet (s 114 4) N b w (nI i) (nI j)))), (5, .int (nI j)), (4, .int (nI i)), (3, .int w), (2, .int a), (0, .ref (B.1 + 113)), (1, .int b)] dX12_courts_121 (by decide) rfl ?_
          refine z_iinc C [(8, .int (nI (o + 1))), (7, .int 1), (6, .int (zi (mBet (s 114 4) N b w (nI i) (nI j)))), (5, .int (nI j)), (4, .int (nI i)), (3, .int w), (2, .int a), (0, .ref (B.1 + 113)), (1, .int b)] dX12_courts_123 1 rfl (nI_inc o) (by decide) rfl ?_
          refine z_goto C 68 dX12_courts_126 (by decide) ?_
          exact z_lv (lv2 := [(8, .int (nI (o + 1))), (7, .int (zi true)), (6, .int (zi (mBet (s 114 4) N b w (nI i) (nI j)))), (5, .int (nI j)), (4, .int (nI i)), (3, .int w), (2, .int a), (0, .ref (B.1 + 113)), (1, .int b)]) [0, 1, 2, 3, 4, 5, 6, 7, 8] rfl (ih (o + 1) _ (by omega) (by rw [wAll, ← hr, h79, mOw, if_pos h84, h97]; rfl))
set_option maxRecDepth 100000 in
set_option maxHeartbeats 4000000 in
theorem l_X12_courts_b {l : Launch} {B : zB} {s : zS} {t : zL} {X : zX} (hl : X.2.1 = l) (C : zC X B mX12_courts) (N : Nat) (hN : s 114 0 = nI N) (h6 : N ≤ 6) (b w : Int32) (i : Nat) (kk : ∀ a : Int32, a = wAdd (fun i => wAdd (fun j => zi (mPair (s 114 4) N b w i j)) (N + 1)) (i + 1) → Zf X B mX12_courts s t 29 [(4, .int (nI (i + 1))), (3, .int w), (2, .int a), (0, .ref (B.1 + 113)), (1, .int b)] []) (E : zE X B mX12_courts 124 0 0 (zR B (some (.int (wAdd (fun i => wAdd (fun j => zi (mPair (s 114 4) N b w i j)) (N + 1)) (N + 1)))) s t)) : ∀ (m : Nat) (j : Nat) (a : Int32), j + m = N + 1 → a = wAdd (fun i => wAdd (fun j => zi (mPair (s 114 4) N b w i j)) (N + 1)) i + wAdd (fun j => zi (mPair (s 114 4) N b w i j)) j → Zf X B mX12_courts s t 41 [(5, .int (nI j)), (4, .int (nI i)), (3, .int w), (2, .int a), (0, .ref (B.1 + 113)), (1, .int b)] [] := by
  intro m
  induction m with
  | zero =>
    intro j a hj ha
    refine z_iload C dX12_courts_41 0 rfl ?_
    refine z_aload_n C dX12_courts_43 4 rfl rfl ?_
    refine f_callVr C hl (As := []) (rest := [.int (nI j)]) (c_X12_many l B s t) zb_113 (zg_12 zk_113) rfl (zCB (nA := 0) C rfl rfl tw_818 tw_13 tw_815 (by decide +kernel) ⟨Nat.le_of_ble_eq_true rfl, Nat.le_of_ble_eq_true rfl⟩) tw_817 tp_27 rfl rfl (Nat.le_of_ble_eq_true rfl) dX12_courts_44 (Nat.zero_le _) ?_
    refine f_topi (y := nI N) hN ?_
    refine z_icmp_gt C 148 dX12_courts_47 (by decide) (fun _ => ?_) (fun hbr => absurd (nI_gt (by omega) (by omega)) hbr)
    refine z_iinc C [(4, .int (nI (i + 1))), (5, .int (nI j)), (3, .int w), (2, .int a), (0, .ref (B.1 + 113)), (1, .int b)] dX12_courts_148 1 rfl (nI_inc i) (by decide) rfl ?_
    refine z_goto C 29 dX12_courts_151 (by decide) ?_
    exact z_lv [0, 2, 3, 4, 5] rfl (kk _ (by rw [ha, show j = N + 1 by omega]; rfl))
  | succ m ih =>
    intro j a hj ha
    refine z_iload C dX12_courts_41 0 rfl ?_
    refine z_aload_n C dX12_courts_43 4 rfl rfl ?_
    refine f_callVr C hl (As := []) (rest := [.int (nI j)]) (c_X12_many l B s t) zb_113 (zg_12 zk_113) rfl (zCB (nA := 0) C rfl rfl tw_818 tw_13 tw_815 (by decide +kernel) ⟨Nat.le_of_ble_eq_true rfl, Nat.le_of_ble_eq_true rfl⟩) tw_817 tp_27 rfl rfl (Nat.le_of_ble_eq_true rfl) dX12_courts_44 (Nat.zero_le _) ?_
    refine f_topi (y := nI N) hN ?_
    refine z_icmp_gt C 148 dX12_courts_47 (by decide) (fun hbr => absurd hbr (nI_nlt (by omega) (by omega))) (fun _ => ?_)
    refine z_aload_n C dX12_courts_50 4 rfl rfl ?_
    refine z_iload_n C dX12_courts_51 2 rfl rfl ?_
    refine z_iload_n C dX12_courts_52 5 rfl rfl ?_
    refine z_iload C dX12_courts_53 1 rfl ?_
    refine z_iload C dX12_courts_55 0 rfl ?_
    refine f_callVr C hl (As := [.int w, .int b, .int (nI i), .int (nI j)]) (rest := []) (c_X12_isStopped l B s t N hN w b (nI i) (nI j)) zb_113 (zg_12 zk_113) rfl (zCB (nA := 4) C rfl rfl tw_960 tw_13 tw_957 (by decide +kernel) ⟨Nat.le_of_ble_eq_true rfl, Nat.le_of_ble_eq_true rfl⟩) tw_959 tp_42 rfl rfl (Nat.le_of_ble_eq_true rfl) dX12_courts_57 (Nat.zero_le _) ?_
    refine z_istore C [(6, .int (zi (mBet (s 114 4) N b w (nI i) (nI j)))), (5, .int (nI j)), (4, .int (nI i)), (3, .int w), (2, .int a), (0, .ref (B.1 + 113)), (1, .int b)] dX12_courts_60 (by decide) rfl ?_
    refine z_iconst C dX12_courts_62 ki_1 ?_
    refine z_istore C [(7, .int 1), (6, .int (zi (mBet (s 114 4) N b w (nI i) (nI j)))), (5, .int (nI j)), (4, .int (nI i)), (3, .int w), (2, .int a), (0, .ref (B.1 + 113)), (1, .int b)] dX12_courts_63 (by decide) rfl ?_
    refine z_iconst C dX12_courts_65 ki_0 ?_
    refine z_istore C [(8, .int 0), (7, .int 1), (6, .int (zi (mBet (s 114 4) N b w (nI i) (nI j)))), (5, .int (nI j)), (4, .int (nI i)), (3, .int w), (2, .int a), (0, .ref (B.1 + 113)), (1, .int b)] dX12_courts_66 (by decide) rfl ?_
    exact z_lv (lv2 := [(8, .int (nI 0)), (7, .int (zi true)), (6, .int (zi (mBet (s 114 4) N b w (nI i) (nI j)))), (5, .int (nI j)), (4, .int (nI i)), (3, .int w), (2, .int a), (0, .ref (B.1 + 113)), (1, .int b)]) [0, 1, 2, 3, 4, 5, 6, 7, 8] rfl (l_X12_courts_a hl C N hN h6 b w i j a ha (fun a h => ih (j + 1) a (by omega) h) E (N + 1) 0 true (by omega) rfl)
set_option maxRecDepth 100000 in
set_option maxHeartbeats 4000000 in
theorem l_X12_courts {l : Launch} {B : zB} {s : zS} {t : zL} {X : zX} (hl : X.2.1 = l) (C : zC X B mX12_courts) (N : Nat) (hN : s 114 0 = nI N) (h6 : N ≤ 6) (b w : Int32) (E : zE X B mX12_courts 124 0 0 (zR B (some (.int (wAdd (fun i => wAdd (fun j => zi (mPair (s 114 4) N b w i j)) (N + 1)) (N + 1)))) s t)) : ∀ (m : Nat) (i : Nat) (a : Int32), i + m = N + 1 → a = wAdd (fun i => wAdd (fun j => zi (mPair (s 114 4) N b w i j)) (N + 1)) i → Zf X B mX12_courts s t 29 [(4, .int (nI i)), (3, .int w), (2, .int a), (0, .ref (B.1 + 113)), (1, .int b)] [] := by
  intro m
  induction m with
  | zero =>
    intro i a hi ha
    refine z_iload C dX12_courts_29 0 rfl ?_
    refine z_aload_n C dX12_courts_31 3 rfl rfl ?_
    refine f_callVr C hl (As := []) (rest := [.int (nI i)]) (c_X12_many l B s t) zb_113 (zg_12 zk_113) rfl (zCB (nA := 0) C rfl rfl tw_818 tw_13 tw_815 (by decide +kernel) ⟨Nat.le_of_ble_eq_true rfl, Nat.le_of_ble_eq_true rfl⟩) tw_817 tp_27 rfl rfl (Nat.le_of_ble_eq_true rfl) dX12_courts_32 (Nat.zero_le _) ?_
    refine f_topi (y := nI N) hN ?_
    refine z_icmp_gt C 154 dX12_courts_35 (by decide) (fun _ => ?_) (fun hbr => absurd (nI_gt (by omega) (by omega)) hbr)
    refine z_iload_n C dX12_courts_154 2 rfl rfl ?_
    refine z_iret C E rfl dX12_courts_155 rfl (Nat.le_refl _) ⟨by rw [ha, show i = N + 1 by omega], rfl⟩
  | succ m ih =>
    intro i a hi ha
    refine z_iload C dX12_courts_29 0 rfl ?_
    refine z_aload_n C dX12_courts_31 3 rfl rfl ?_
    refine f_callVr C hl (As := []) (rest := [.int (nI i)]) (c_X12_many l B s t) zb_113 (zg_12 zk_113) rfl (zCB (nA := 0) C rfl rfl tw_818 tw_13 tw_815 (by decide +kernel) ⟨Nat.le_of_ble_eq_true rfl, Nat.le_of_ble_eq_true rfl⟩) tw_817 tp_27 rfl rfl (Nat.le_of_ble_eq_true rfl) dX12_courts_32 (Nat.zero_le _) ?_
    refine f_topi (y := nI N) hN ?_
    refine z_icmp_gt C 154 dX12_courts_35 (by decide) (fun hbr => absurd hbr (nI_nlt (by omega) (by omega))) (fun _ => ?_)
    refine z_iconst C dX12_courts_38 ki_0 ?_
    refine z_istore C [(5, .int 0), (4, .int (nI i)), (3, .int w), (2, .int a), (0, .ref (B.1 + 113)), (1, .int b)] dX12_courts_39 (by decide) rfl ?_
    exact z_lv (lv2 := [(5, .int (nI 0)), (4, .int (nI i)), (3, .int w), (2, .int a), (0, .ref (B.1 + 113)), (1, .int b)]) [0, 1, 2, 3, 4, 5] rfl (l_X12_courts_b hl C N hN h6 b w i (fun a h => ih (i + 1) a (by omega) h) E (N + 1) 0 a (by omega) (by rw [ha, wAdd, Int32.add_zero]))
set_option maxRecDepth 100000 in
set_option maxHeartbeats 4000000 in
theorem c_X12_courts_ok (l : Launch) (B : zB) (s : zS) (t : zL) (N : Nat) (mo : mOk s N) (b : Int32) (g : wIn b 255 = true) : zD l B mX12_courts s t [.ref (B.1 + 113), .int b] (some (.int (wAdd (fun i => wAdd (fun j => zi (mPair (s 114 4) N b (mW s N b) i j)) (N + 1)) (N + 1)))) (wHand s N) t := by
  have h6 := mo.2.1
  refine z_met (by decide) (Nat.le_of_ble_eq_true rfl) ?_
  intro X hl C E hnm
  show Zf X B mX12_courts s t 0 [(0, .ref (B.1 + 113)), (1, .int b)] []
  refine z_iload_n C dX12_courts_0 1 rfl rfl ?_
  refine f_callSr C hl (As := [.int b]) (rest := []) (c_X12_isBundle l B s t b) (zCB (nA := 1) C rfl rfl tw_826 tw_13 tw_824 (by decide +kernel) ⟨Nat.le_of_ble_eq_true rfl, Nat.le_of_ble_eq_true rfl⟩) tw_825 rfl rfl (Nat.le_of_ble_eq_true rfl) dX12_courts_1 (Nat.zero_le _) ?_
  refine z_ifb_ne C 14 dX12_courts_4 (by decide) (fun _ => ?_) (fun hbr => Bool.noConfusion (show false = true from hbr.symm.trans g))
  refine z_iconst C dX12_courts_14 ki_0 ?_
  refine z_istore_n C [(2, .int 0), (0, .ref (B.1 + 113)), (1, .int b)] dX12_courts_15 rfl (by decide) rfl ?_
  refine z_aload_n C dX12_courts_16 1 rfl rfl ?_
  refine f_callVv C hl (As := []) (rest := []) (c_X12_layHand l B s t N mo.1 mo.2.1) zb_113 (zg_12 zk_113) rfl (zCB (nA := 0) C rfl rfl tw_851 tw_13 tw_848 (by decide +kernel) ⟨Nat.le_of_ble_eq_true rfl, Nat.le_of_ble_eq_true rfl⟩) tw_850 tp_31 rfl rfl (Nat.le_of_ble_eq_true rfl) dX12_courts_17 (Nat.zero_le _) ?_
  refine z_aload_n C dX12_courts_20 1 rfl rfl ?_
  refine z_iload_n C dX12_courts_21 2 rfl rfl ?_
  refine f_callVr C hl (As := [.int b]) (rest := []) (c_X12_stopping l B (wHand s N) t N (mK s) (mL s) (mH s) (mS s) (s 114 6) (hd_hand mo) b (wIn_r8 g)) zb_113 (zg_12 zk_113) rfl (zCB (nA := 1) C rfl rfl tw_863 tw_13 tw_860 (by decide +kernel) ⟨Nat.le_of_ble_eq_true rfl, Nat.le_of_ble_eq_true rfl⟩) tw_862 tp_34 rfl rfl (Nat.le_of_ble_eq_true rfl) dX12_courts_22 (Nat.zero_le _) ?_
  refine z_istore_n C [(3, .int (mW s N b)), (2, .int 0), (0, .ref (B.1 + 113)), (1, .int b)] dX12_courts_25 rfl (by decide) rfl ?_
  refine z_iconst C dX12_courts_26 ki_0 ?_
  refine z_istore C [(4, .int 0), (3, .int (mW s N b)), (2, .int 0), (0, .ref (B.1 + 113)), (1, .int b)] dX12_courts_27 (by decide) rfl ?_
  refine z_lv (lv2 := [(4, .int (nI 0)), (3, .int (mW s N b)), (2, .int 0), (0, .ref (B.1 + 113)), (1, .int b)]) [0, 1, 2, 3, 4] rfl (l_X12_courts (s := (wHand s N)) hl C N (hd_hand mo).1 h6 b (mW s N b) ?_ (N + 1) 0 0 (by omega) rfl)
  rw [wHand_114]
  exact E
abbrev mX12_note : zM := (yX12_note, cX12_note, 6, (some .int), { frames := 2, cells := 0, slots := 0, locals := 46 })
set_option maxRecDepth 100000 in
set_option maxHeartbeats 4000000 in
theorem c_X12_note_bad (l : Launch) (B : zB) (s : zS) (t : zL) (x b e f : Int32) (h : (wIn x (s 114 0 - 1) && wIn b 255 && wIn e 99 && wIn f 1) = false) : zD l B mX12_note s t [.ref (B.1 + 113), .int x, .int b, .int e, .int f] (some (.int (-2))) (zu s 117 0 (s 117 0 + 1)) t := by
  refine z_met (by decide) (Nat.le_of_ble_eq_true rfl) ?_
  intro X hl C E hnm
  show Zf X B mX12_note s t 0 [(0, .ref (B.1 + 113)), (1, .int x), (2, .int b), (3, .int e), (4, .int f)] []
  refine z_aload_n C dX12_note_0 0 rfl rfl ?_
  refine z_iload_n C dX12_note_1 1 rfl rfl ?_
  refine f_callVr C hl (As := [.int x]) (rest := []) (c_X12_isDeputy l B s t x) zb_113 (zg_12 zk_113) rfl (zCB (nA := 1) C rfl rfl tw_893 tw_13 tw_890 (by decide +kernel) ⟨Nat.le_of_ble_eq_true rfl, Nat.le_of_ble_eq_true rfl⟩) tw_892 tp_38 rfl rfl (Nat.le_of_ble_eq_true rfl) dX12_note_2 (Nat.zero_le _) ?_
  refine z_ifb_eq C 38 dX12_note_5 (by decide) (fun h5 => ?_) (fun h5 => ?_)
  · refine z_aload_n C dX12_note_38 0 rfl rfl ?_
    refine z_bipush C dX12_note_39 kb_m2 ?_
    refine f_callVr C hl (As := [.int (-2)]) (rest := []) (c_X12_bad l B s t (-2)) zb_113 (zg_12 zk_113) rfl (zCB (nA := 1) C rfl rfl tw_814 tw_13 tw_811 (by decide +kernel) ⟨Nat.le_of_ble_eq_true rfl, Nat.le_of_ble_eq_true rfl⟩) tw_813 tp_26 rfl rfl (Nat.le_of_ble_eq_true rfl) dX12_note_41 (Nat.zero_le _) ?_
    refine z_iret C E rfl dX12_note_44 rfl (Nat.le_refl _) ⟨rfl, rfl⟩
  · refine z_iload_n C dX12_note_8 2 rfl rfl ?_
    refine f_callSr C hl (As := [.int b]) (rest := []) (c_X12_isBundle l B s t b) (zCB (nA := 1) C rfl rfl tw_826 tw_13 tw_824 (by decide +kernel) ⟨Nat.le_of_ble_eq_true rfl, Nat.le_of_ble_eq_true rfl⟩) tw_825 rfl rfl (Nat.le_of_ble_eq_true rfl) dX12_note_9 (Nat.zero_le _) ?_
    refine z_ifb_eq C 38 dX12_note_12 (by decide) (fun h12 => ?_) (fun h12 => ?_)
    · refine z_aload_n C dX12_note_38 0 rfl rfl ?_
      refine z_bipush C dX12_note_39 kb_m2 ?_
      refine f_callVr C hl (As := [.int (-2)]) (rest := []) (c_X12_bad l B s t (-2)) zb_113 (zg_12 zk_113) rfl (zCB (nA := 1) C rfl rfl tw_814 tw_13 tw_811 (by decide +kernel) ⟨Nat.le_of_ble_eq_true rfl, Nat.le_of_ble_eq_true rfl⟩) tw_813 tp_26 rfl rfl (Nat.le_of_ble_eq_true rfl) dX12_note_41 (Nat.zero_le _) ?_
      refine z_iret C E rfl dX12_note_44 rfl (Nat.le_refl _) ⟨rfl, rfl⟩
    · refine z_iload_n C dX12_note_15 3 rfl rfl ?_
      refine z_i2l C dX12_note_16 ?_
      refine z_lconst C dX12_note_17 kl_0 ?_
      refine z_ldc2 C dX12_note_18 tw_807 ?_
      refine f_callSr C hl (As := [.long ((e : Int32).toInt64), .long 0, .long 99]) (rest := []) (c_X12_in0 l B s t e 99 ((e : Int32).toInt64) 99 rfl (by decide)) (zCB (nA := 3) C rfl rfl tw_810 tw_13 tw_808 (by decide +kernel) ⟨Nat.le_of_ble_eq_true rfl, Nat.le_of_ble_eq_true rfl⟩) tw_809 rfl rfl (Nat.le_of_ble_eq_true rfl) dX12_note_21 (Nat.zero_le _) ?_
      refine z_ifb_eq C 38 dX12_note_24 (by decide) (fun h24 => ?_) (fun h24 => ?_)
      · refine z_aload_n C dX12_note_38 0 rfl rfl ?_
        refine z_bipush C dX12_note_39 kb_m2 ?_
        refine f_callVr C hl (As := [.int (-2)]) (rest := []) (c_X12_bad l B s t (-2)) zb_113 (zg_12 zk_113) rfl (zCB (nA := 1) C rfl rfl tw_814 tw_13 tw_811 (by decide +kernel) ⟨Nat.le_of_ble_eq_true rfl, Nat.le_of_ble_eq_true rfl⟩) tw_813 tp_26 rfl rfl (Nat.le_of_ble_eq_true rfl) dX12_note_41 (Nat.zero_le _) ?_
        refine z_iret C E rfl dX12_note_44 rfl (Nat.le_refl _) ⟨rfl, rfl⟩
      · refine z_iload C dX12_note_27 4 rfl ?_
        refine z_i2l C dX12_note_29 ?_
        refine z_lconst C dX12_note_30 kl_0 ?_
        refine z_lconst C dX12_note_31 kl_1 ?_
        refine f_callSr C hl (As := [.long ((f : Int32).toInt64), .long 0, .long 1]) (rest := []) (c_X12_in0 l B s t f 1 ((f : Int32).toInt64) 1 rfl (by decide)) (zCB (nA := 3) C rfl rfl tw_810 tw_13 tw_808 (by decide +kernel) ⟨Nat.le_of_ble_eq_true rfl, Nat.le_of_ble_eq_true rfl⟩) tw_809 rfl rfl (Nat.le_of_ble_eq_true rfl) dX12_note_32 (Nat.zero_le _) ?_
        refine z_ifb_ne C 45 dX12_note_35 (by decide) (fun h35 => ?_) (fun h35 => ?_)
        · exact absurd h (by rw [h5, h12, h24, h35]; decide)
        · refine z_aload_n C dX12_note_38 0 rfl rfl ?_
          refine z_bipush C dX12_note_39 kb_m2 ?_
          refine f_callVr C hl (As := [.int (-2)]) (rest := []) (c_X12_bad l B s t (-2)) zb_113 (zg_12 zk_113) rfl (zCB (nA := 1) C rfl rfl tw_814 tw_13 tw_811 (by decide +kernel) ⟨Nat.le_of_ble_eq_true rfl, Nat.le_of_ble_eq_true rfl⟩) tw_813 tp_26 rfl rfl (Nat.le_of_ble_eq_true rfl) dX12_note_41 (Nat.zero_le _) ?_
          refine z_iret C E rfl dX12_note_44 rfl (Nat.le_refl _) ⟨rfl, rfl⟩
set_option maxRecDepth 100000 in
set_option maxHeartbeats 4000000 in
theorem c_X12_note_full (l : Launch) (B : zB) (s : zS) (t : zL) (x b e f : Int32) (g0 : wIn x (s 114 0 - 1) = true) (g1 : wIn b 255 = true) (g2 : wIn e 99 = true) (g3 : wIn f 1 = true) (hc : s 114 7 = 6) : zD l B mX12_note s t [.ref (B.1 + 113), .int x, .int b, .int e, .int f] (some (.int (-4))) (zu s 117 2 (s 117 2 + 1)) t := by
  refine z_met (by decide) (Nat.le_of_ble_eq_true rfl) ?_
  intro X hl C E hnm
  show Zf X B mX12_note s t 0 [(0, .ref (B.1 + 113)), (1, .int x), (2, .int b), (3, .int e), (4, .int f)] []
  refine z_aload_n C dX12_note_0 0 rfl rfl ?_
  refine z_iload_n C dX12_note_1 1 rfl rfl ?_
  refine f_callVr C hl (As := [.int x]) (rest := []) (c_X12_isDeputy l B s t x) zb_113 (zg_12 zk_113) rfl (zCB (nA := 1) C rfl rfl tw_893 tw_13 tw_890 (by decide +kernel) ⟨Nat.le_of_ble_eq_true rfl, Nat.le_of_ble_eq_true rfl⟩) tw_892 tp_38 rfl rfl (Nat.le_of_ble_eq_true rfl) dX12_note_2 (Nat.zero_le _) ?_
  refine z_ifb_eq C 38 dX12_note_5 (by decide) (fun hbr => absurd hbr (by rw [g0]; decide)) (fun _ => ?_)
  refine z_iload_n C dX12_note_8 2 rfl rfl ?_
  refine f_callSr C hl (As := [.int b]) (rest := []) (c_X12_isBundle l B s t b) (zCB (nA := 1) C rfl rfl tw_826 tw_13 tw_824 (by decide +kernel) ⟨Nat.le_of_ble_eq_true rfl, Nat.le_of_ble_eq_true rfl⟩) tw_825 rfl rfl (Nat.le_of_ble_eq_true rfl) dX12_note_9 (Nat.zero_le _) ?_
  refine z_ifb_eq C 38 dX12_note_12 (by decide) (fun hbr => absurd hbr (by rw [g1]; decide)) (fun _ => ?_)
  refine z_iload_n C dX12_note_15 3 rfl rfl ?_
  refine z_i2l C dX12_note_16 ?_
  refine z_lconst C dX12_note_17 kl_0 ?_
  refine z_ldc2 C dX12_note_18 tw_807 ?_
  refine f_callSr C hl (As := [.long ((e : Int32).toInt64), .long 0, .long 99]) (rest := []) (c_X12_in0 l B s t e 99 ((e : Int32).toInt64) 99 rfl (by decide)) (zCB (nA := 3) C rfl rfl tw_810 tw_13 tw_808 (by decide +kernel) ⟨Nat.le_of_ble_eq_true rfl, Nat.le_of_ble_eq_true rfl⟩) tw_809 rfl rfl (Nat.le_of_ble_eq_true rfl) dX12_note_21 (Nat.zero_le _) ?_
  refine z_ifb_eq C 38 dX12_note_24 (by decide) (fun hbr => absurd hbr (by rw [g2]; decide)) (fun _ => ?_)
  refine z_iload C dX12_note_27 4 rfl ?_
  refine z_i2l C dX12_note_29 ?_
  refine z_lconst C dX12_note_30 kl_0 ?_
  refine z_lconst C dX12_note_31 kl_1 ?_
  refine f_callSr C hl (As := [.long ((f : Int32).toInt64), .long 0, .long 1]) (rest := []) (c_X12_in0 l B s t f 1 ((f : Int32).toInt64) 1 rfl (by decide)) (zCB (nA := 3) C rfl rfl tw_810 tw_13 tw_808 (by decide +kernel) ⟨Nat.le_of_ble_eq_true rfl, Nat.le_of_ble_eq_true rfl⟩) tw_809 rfl rfl (Nat.le_of_ble_eq_true rfl) dX12_note_32 (Nat.zero_le _) ?_
  refine z_ifb_ne C 45 dX12_note_35 (by decide) (fun _ => ?_) (fun hbr => Bool.noConfusion (show false = true from hbr.symm.trans g3))
  refine z_aload_n C dX12_note_45 0 rfl rfl ?_
  refine f_get12 C 0 (v := .ref (B.1 + 114)) (by decide) tw_744 rfl zk_113 zb_113 rfl dX12_note_46 ?_
  refine z_bipush C dX12_note_49 kb_7 ?_
  refine f_ialdL C zk_114 zb_114 (by unfold vp_in; decide) (j := 7) (by decide) dX12_note_51 ?_
  refine f_topi (y := 6) hc ?_
  refine z_bipush C dX12_note_52 kb_6 ?_
  refine z_icmp_ne C 62 dX12_note_54 (by decide) (fun hbr => absurd (by decide) hbr) (fun _ => ?_)
  refine z_aload_n C dX12_note_57 0 rfl rfl ?_
  refine f_callVr C hl (As := []) (rest := []) (c_X12_full l B s t) zb_113 (zg_12 zk_113) rfl (zCB (nA := 0) C rfl rfl tw_832 tw_13 tw_829 (by decide +kernel) ⟨Nat.le_of_ble_eq_true rfl, Nat.le_of_ble_eq_true rfl⟩) tw_831 tp_28 rfl rfl (Nat.le_of_ble_eq_true rfl) dX12_note_58 (Nat.zero_le _) ?_
  refine z_iret C E rfl dX12_note_61 rfl (Nat.le_refl _) ⟨rfl, rfl⟩
def mAddN (s : zS) (n : Nat) (x b e f : Int32) : zS := (zu (zu (zu (zu (zu s 114 (33 + 4 * n) x) 114 (33 + 4 * n + 1) b) 114 (33 + 4 * n + 2) e) 114 (33 + 4 * n + 3) f) 114 7 (nI (n + 1)))
set_option maxRecDepth 100000 in
set_option maxHeartbeats 4000000 in
theorem c_X12_note_ok (l : Launch) (B : zB) (s : zS) (t : zL) (x b e f : Int32) (g0 : wIn x (s 114 0 - 1) = true) (g1 : wIn b 255 = true) (g2 : wIn e 99 = true) (g3 : wIn f 1 = true) (n : Nat) (hn : n < 6) (hc : s 114 7 = nI n) : zD l B mX12_note s t [.ref (B.1 + 113), .int x, .int b, .int e, .int f] (some (.int (nI (n + 1)))) (mAddN s n x b e f) t := by
  refine z_met (by decide) (Nat.le_of_ble_eq_true rfl) ?_
  intro X hl C E hnm
  show Zf X B mX12_note s t 0 [(0, .ref (B.1 + 113)), (1, .int x), (2, .int b), (3, .int e), (4, .int f)] []
  refine z_aload_n C dX12_note_0 0 rfl rfl ?_
  refine z_iload_n C dX12_note_1 1 rfl rfl ?_
  refine f_callVr C hl (As := [.int x]) (rest := []) (c_X12_isDeputy l B s t x) zb_113 (zg_12 zk_113) rfl (zCB (nA := 1) C rfl rfl tw_893 tw_13 tw_890 (by decide +kernel) ⟨Nat.le_of_ble_eq_true rfl, Nat.le_of_ble_eq_true rfl⟩) tw_892 tp_38 rfl rfl (Nat.le_of_ble_eq_true rfl) dX12_note_2 (Nat.zero_le _) ?_
  refine z_ifb_eq C 38 dX12_note_5 (by decide) (fun hbr => absurd hbr (by rw [g0]; decide)) (fun _ => ?_)
  refine z_iload_n C dX12_note_8 2 rfl rfl ?_
  refine f_callSr C hl (As := [.int b]) (rest := []) (c_X12_isBundle l B s t b) (zCB (nA := 1) C rfl rfl tw_826 tw_13 tw_824 (by decide +kernel) ⟨Nat.le_of_ble_eq_true rfl, Nat.le_of_ble_eq_true rfl⟩) tw_825 rfl rfl (Nat.le_of_ble_eq_true rfl) dX12_note_9 (Nat.zero_le _) ?_
  refine z_ifb_eq C 38 dX12_note_12 (by decide) (fun hbr => absurd hbr (by rw [g1]; decide)) (fun _ => ?_)
  refine z_iload_n C dX12_note_15 3 rfl rfl ?_
  refine z_i2l C dX12_note_16 ?_
  refine z_lconst C dX12_note_17 kl_0 ?_
  refine z_ldc2 C dX12_note_18 tw_807 ?_
  refine f_callSr C hl (As := [.long ((e : Int32).toInt64), .long 0, .long 99]) (rest := []) (c_X12_in0 l B s t e 99 ((e : Int32).toInt64) 99 rfl (by decide)) (zCB (nA := 3) C rfl rfl tw_810 tw_13 tw_808 (by decide +kernel) ⟨Nat.le_of_ble_eq_true rfl, Nat.le_of_ble_eq_true rfl⟩) tw_809 rfl rfl (Nat.le_of_ble_eq_true rfl) dX12_note_21 (Nat.zero_le _) ?_
  refine z_ifb_eq C 38 dX12_note_24 (by decide) (fun hbr => absurd hbr (by rw [g2]; decide)) (fun _ => ?_)
  refine z_iload C dX12_note_27 4 rfl ?_
  refine z_i2l C dX12_note_29 ?_
  refine z_lconst C dX12_note_30 kl_0 ?_
  refine z_lconst C dX12_note_31 kl_1 ?_
  refine f_callSr C hl (As := [.long ((f : Int32).toInt64), .long 0, .long 1]) (rest := []) (c_X12_in0 l B s t f 1 ((f : Int32).toInt64) 1 rfl (by decide)) (zCB (nA := 3) C rfl rfl tw_810 tw_13 tw_808 (by decide +kernel) ⟨Nat.le_of_ble_eq_true rfl, Nat.le_of_ble_eq_true rfl⟩) tw_809 rfl rfl (Nat.le_of_ble_eq_true rfl) dX12_note_32 (Nat.zero_le _) ?_
  refine z_ifb_ne C 45 dX12_note_35 (by decide) (fun _ => ?_) (fun hbr => Bool.noConfusion (show false = true from hbr.symm.trans g3))
  refine z_aload_n C dX12_note_45 0 rfl rfl ?_
  refine f_get12 C 0 (v := .ref (B.1 + 114)) (by decide) tw_744 rfl zk_113 zb_113 rfl dX12_note_46 ?_
  refine z_bipush C dX12_note_49 kb_7 ?_
  refine f_ialdL C zk_114 zb_114 (by unfold vp_in; decide) (j := 7) (by decide) dX12_note_51 ?_
  refine f_topi (y := nI n) hc ?_
  refine z_bipush C dX12_note_52 kb_6 ?_
  refine z_icmp_ne C 62 dX12_note_54 (by decide) (fun _ => ?_) (fun hbr => absurd hbr (fun q => absurd ((nI_eq (by omega) (by decide)).mp (show nI n = nI 6 from q)) (by omega)))
  refine z_bipush C dX12_note_62 kb_33 ?_
  refine z_iconst C dX12_note_64 ki_4 ?_
  refine z_aload_n C dX12_note_65 0 rfl rfl ?_
  refine f_get12 C 0 (v := .ref (B.1 + 114)) (by decide) tw_744 rfl zk_113 zb_113 rfl dX12_note_66 ?_
  refine z_bipush C dX12_note_69 kb_7 ?_
  refine f_ialdL C zk_114 zb_114 (by unfold vp_in; decide) (j := 7) (by decide) dX12_note_71 ?_
  refine f_topi (y := nI n) hc ?_
  refine z_imul C dX12_note_72 ?_
  refine z_iadd C dX12_note_73 ?_
  refine f_topi (y := nI (33 + 4 * n)) (nA (a := 33) rfl (nM (a := 4) rfl rfl rfl) rfl) ?_
  refine z_istore C [(5, .int (nI (33 + 4 * n))), (0, .ref (B.1 + 113)), (1, .int x), (2, .int b), (3, .int e), (4, .int f)] dX12_note_74 (by decide) rfl ?_
  refine z_aload_n C dX12_note_76 1 rfl rfl ?_
  refine f_get12 C 0 (v := .ref (B.1 + 114)) (by decide) tw_744 rfl zk_113 zb_113 rfl dX12_note_77 ?_
  refine z_iload C dX12_note_80 0 rfl ?_
  refine z_iload_n C dX12_note_82 2 rfl rfl ?_
  refine f_iastL C zk_114 zb_114 (ixN (n := 105) rfl (by omega) (by decide)).1 (j := (33 + 4 * n)) (ixN (n := 105) rfl (by omega) (by decide)).2 dX12_note_83 ?_
  refine z_aload_n C dX12_note_84 1 rfl rfl ?_
  refine f_get12 C 0 (v := .ref (B.1 + 114)) (by decide) tw_744 rfl zk_113 zb_113 rfl dX12_note_85 ?_
  refine z_iload C dX12_note_88 0 rfl ?_
  refine z_iconst C dX12_note_90 ki_1 ?_
  refine z_iadd C dX12_note_91 ?_
  refine z_iload_n C dX12_note_92 3 rfl rfl ?_
  refine f_iastL C zk_114 zb_114 (ixN (n := 105) (nA (b := 1) rfl rfl rfl) (by omega) (by decide)).1 (j := (33 + 4 * n + 1)) (ixN (n := 105) (nA (b := 1) rfl rfl rfl) (by omega) (by decide)).2 dX12_note_93 ?_
  refine z_aload_n C dX12_note_94 1 rfl rfl ?_
  refine f_get12 C 0 (v := .ref (B.1 + 114)) (by decide) tw_744 rfl zk_113 zb_113 rfl dX12_note_95 ?_
  refine z_iload C dX12_note_98 0 rfl ?_
  refine z_iconst C dX12_note_100 ki_2 ?_
  refine z_iadd C dX12_note_101 ?_
  refine z_iload_n C dX12_note_102 4 rfl rfl ?_
  refine f_iastL C zk_114 zb_114 (ixN (n := 105) (nA (b := 2) rfl rfl rfl) (by omega) (by decide)).1 (j := (33 + 4 * n + 2)) (ixN (n := 105) (nA (b := 2) rfl rfl rfl) (by omega) (by decide)).2 dX12_note_103 ?_
  refine z_aload_n C dX12_note_104 1 rfl rfl ?_
  refine f_get12 C 0 (v := .ref (B.1 + 114)) (by decide) tw_744 rfl zk_113 zb_113 rfl dX12_note_105 ?_
  refine z_iload C dX12_note_108 0 rfl ?_
  refine z_iconst C dX12_note_110 ki_3 ?_
  refine z_iadd C dX12_note_111 ?_
  refine z_iload C dX12_note_112 5 rfl ?_
  refine f_iastL C zk_114 zb_114 (ixN (n := 105) (nA (b := 3) rfl rfl rfl) (by omega) (by decide)).1 (j := (33 + 4 * n + 3)) (ixN (n := 105) (nA (b := 3) rfl rfl rfl) (by omega) (by decide)).2 dX12_note_114 ?_
  refine z_aload_n C dX12_note_115 1 rfl rfl ?_
  refine f_get12 C 0 (v := .ref (B.1 + 114)) (by decide) tw_744 rfl zk_113 zb_113 rfl dX12_note_116 ?_
  refine z_bipush C dX12_note_119 kb_7 ?_
  refine z_dup2 C dX12_note_121 rfl rfl ?_
  refine f_ialdL C zk_114 zb_114 (by unfold vp_in; decide) (j := 7) (by decide) dX12_note_122 ?_
  refine f_topi (y := nI n) (by rw [zu_ne _ _ (by omega), zu_ne _ _ (by omega), zu_ne _ _ (by omega), zu_ne _ _ (by omega)]; exact hc) ?_
  refine z_iconst C dX12_note_123 ki_1 ?_
  refine z_iadd C dX12_note_124 ?_
  refine f_topi (y := nI (n + 1)) (nI_1 n) ?_
  refine f_iastL C zk_114 zb_114 (by unfold vp_in; decide) (j := 7) (by decide) dX12_note_125 ?_
  refine z_aload_n C dX12_note_126 1 rfl rfl ?_
  refine f_get12 C 0 (v := .ref (B.1 + 114)) (by decide) tw_744 rfl zk_113 zb_113 rfl dX12_note_127 ?_
  refine z_bipush C dX12_note_130 kb_7 ?_
  refine f_ialdL C zk_114 zb_114 (by unfold vp_in; decide) (j := 7) (by decide) dX12_note_132 ?_
  refine f_topi (y := nI (n + 1)) (zu_same _ _ _ _) ?_
  refine z_iret C E rfl dX12_note_133 rfl (Nat.le_refl _) ⟨rfl, rfl⟩
abbrev mX12_forget : zM := (yX12_forget, cX12_forget, 2, (some .int), { frames := 0, cells := 0, slots := 0, locals := 0 })
set_option maxRecDepth 100000 in
set_option maxHeartbeats 4000000 in
theorem c_X12_forget (l : Launch) (B : zB) (s : zS) (t : zL)  : zD l B mX12_forget s t [.ref (B.1 + 113)] (some (.int (s 114 7))) (zu s 114 7 0) t := by
  refine z_met (by decide) (Nat.le_of_ble_eq_true rfl) ?_
  intro X hl C E hnm
  show Zf X B mX12_forget s t 0 [(0, .ref (B.1 + 113))] []
  refine z_aload_n C dX12_forget_0 0 rfl rfl ?_
  refine f_get12 C 0 (v := .ref (B.1 + 114)) (by decide) tw_744 rfl zk_113 zb_113 rfl dX12_forget_1 ?_
  refine z_bipush C dX12_forget_4 kb_7 ?_
  refine f_ialdL C zk_114 zb_114 (by unfold vp_in; decide) (j := 7) (by decide) dX12_forget_6 ?_
  refine z_istore_n C [(1, .int (s 114 7)), (0, .ref (B.1 + 113))] dX12_forget_7 rfl (by decide) rfl ?_
  refine z_aload_n C dX12_forget_8 1 rfl rfl ?_
  refine f_get12 C 0 (v := .ref (B.1 + 114)) (by decide) tw_744 rfl zk_113 zb_113 rfl dX12_forget_9 ?_
  refine z_bipush C dX12_forget_12 kb_7 ?_
  refine z_iconst C dX12_forget_14 ki_0 ?_
  refine f_iastL C zk_114 zb_114 (by unfold vp_in; decide) (j := 7) (by decide) dX12_forget_15 ?_
  refine z_iload_n C dX12_forget_16 0 rfl rfl ?_
  refine z_iret C E rfl dX12_forget_17 rfl (Nat.le_refl _) ⟨rfl, rfl⟩
abbrev mX12_part : zM := (yX12_part, cX12_part, 2, (some .long), { frames := 1, cells := 0, slots := 0, locals := 21 })
set_option maxRecDepth 100000 in
set_option maxHeartbeats 4000000 in
theorem c_X12_part_0 (l : Launch) (B : zB) (s : zS) (t : zL)  : zD l B mX12_part s t [.ref (B.1 + 113), .int 0] (some (.long (t 113 4))) s t := by
  refine z_met (by decide) (Nat.le_of_ble_eq_true rfl) ?_
  intro X hl C E hnm
  show Zf X B mX12_part s t 0 [(0, .ref (B.1 + 113)), (1, .int 0)] []
  refine z_iload_n C dX12_part_0 1 rfl rfl ?_
  refine z_if_ne C 11 dX12_part_1 (by decide) (fun hbr => absurd (by decide) hbr) (fun _ => ?_)
  refine z_aload_n C dX12_part_4 0 rfl rfl ?_
  refine f_get12 C 4 (v := .long (t 113 4)) (by decide) tw_748 rfl zk_113 zb_113 rfl dX12_part_5 ?_
  refine z_goto C 30 dX12_part_8 (by decide) ?_
  refine z_lret C E rfl dX12_part_30 rfl (Nat.le_refl _) ⟨rfl, rfl⟩
set_option maxRecDepth 100000 in
set_option maxHeartbeats 4000000 in
theorem c_X12_part_1 (l : Launch) (B : zB) (s : zS) (t : zL)  : zD l B mX12_part s t [.ref (B.1 + 113), .int 1] (some (.long (t 113 5))) s t := by
  refine z_met (by decide) (Nat.le_of_ble_eq_true rfl) ?_
  intro X hl C E hnm
  show Zf X B mX12_part s t 0 [(0, .ref (B.1 + 113)), (1, .int 1)] []
  refine z_iload_n C dX12_part_0 1 rfl rfl ?_
  refine z_if_ne C 11 dX12_part_1 (by decide) (fun _ => ?_) (fun hbr => absurd hbr (by decide))
  refine z_iload_n C dX12_part_11 1 rfl rfl ?_
  refine z_iconst C dX12_part_12 ki_1 ?_
  refine z_icmp_ne C 23 dX12_part_13 (by decide) (fun hbr => absurd (by decide) hbr) (fun _ => ?_)
  refine z_aload_n C dX12_part_16 0 rfl rfl ?_
  refine f_get12 C 5 (v := .long (t 113 5)) (by decide) tw_749 rfl zk_113 zb_113 rfl dX12_part_17 ?_
  refine z_goto C 30 dX12_part_20 (by decide) ?_
  refine z_lret C E rfl dX12_part_30 rfl (Nat.le_refl _) ⟨rfl, rfl⟩
set_option maxRecDepth 100000 in
set_option maxHeartbeats 4000000 in
theorem c_X12_part_bad (l : Launch) (B : zB) (s : zS) (t : zL) (w : Int32) (h0 : ¬ w = 0) (h1 : ¬ w = 1) : zD l B mX12_part s t [.ref (B.1 + 113), .int w] (some (.long (((-2) : Int32).toInt64))) (zu s 117 0 (s 117 0 + 1)) t := by
  refine z_met (by decide) (Nat.le_of_ble_eq_true rfl) ?_
  intro X hl C E hnm
  show Zf X B mX12_part s t 0 [(0, .ref (B.1 + 113)), (1, .int w)] []
  refine z_iload_n C dX12_part_0 1 rfl rfl ?_
  refine z_if_ne C 11 dX12_part_1 (by decide) (fun _ => ?_) (fun hbr => absurd hbr h0)
  refine z_iload_n C dX12_part_11 1 rfl rfl ?_
  refine z_iconst C dX12_part_12 ki_1 ?_
  refine z_icmp_ne C 23 dX12_part_13 (by decide) (fun _ => ?_) (fun hbr => absurd hbr h1)
  refine z_aload_n C dX12_part_23 0 rfl rfl ?_
  refine z_bipush C dX12_part_24 kb_m2 ?_
  refine f_callVr C hl (As := [.int (-2)]) (rest := []) (c_X12_bad l B s t (-2)) zb_113 (zg_12 zk_113) rfl (zCB (nA := 1) C rfl rfl tw_814 tw_13 tw_811 (by decide +kernel) ⟨Nat.le_of_ble_eq_true rfl, Nat.le_of_ble_eq_true rfl⟩) tw_813 tp_26 rfl rfl (Nat.le_of_ble_eq_true rfl) dX12_part_26 (Nat.zero_le _) ?_
  refine z_i2l C dX12_part_29 ?_
  refine z_lret C E rfl dX12_part_30 rfl (Nat.le_refl _) ⟨rfl, rfl⟩
abbrev mX12_status : zM := (yX12_status, cX12_status, 2, (some .int), { frames := 1, cells := 0, slots := 0, locals := 25 })
set_option maxRecDepth 100000 in
set_option maxHeartbeats 4000000 in
theorem c_X12_status_0 (l : Launch) (B : zB) (s : zS) (t : zL)  : zD l B mX12_status s t [.ref (B.1 + 113), .int 0] (some (.int (s 117 0))) s t := by
  refine z_met (by decide) (Nat.le_of_ble_eq_true rfl) ?_
  intro X hl C E hnm
  show Zf X B mX12_status s t 0 [(0, .ref (B.1 + 113)), (1, .int 0)] []
  refine z_iload_n C dX12_status_0 1 rfl rfl ?_
  refine z_i2l C dX12_status_1 ?_
  refine z_lconst C dX12_status_2 kl_0 ?_
  refine z_ldc2 C dX12_status_3 tw_936 ?_
  refine f_callSr C hl (As := [.long ((0 : Int32).toInt64), .long 0, .long 2]) (rest := []) (c_X12_in0 l B s t 0 2 ((0 : Int32).toInt64) 2 rfl (by decide)) (zCB (nA := 3) C rfl rfl tw_810 tw_13 tw_808 (by decide +kernel) ⟨Nat.le_of_ble_eq_true rfl, Nat.le_of_ble_eq_true rfl⟩) tw_809 rfl rfl (Nat.le_of_ble_eq_true rfl) dX12_status_6 (Nat.zero_le _) ?_
  refine z_ifb_eq C 21 dX12_status_9 (by decide) (fun hbr => absurd hbr (by decide)) (fun _ => ?_)
  refine z_aload_n C dX12_status_12 0 rfl rfl ?_
  refine f_get12 C 3 (v := .ref (B.1 + 117)) (by decide) tw_747 rfl zk_113 zb_113 rfl dX12_status_13 ?_
  refine z_iload_n C dX12_status_16 1 rfl rfl ?_
  refine f_ialdL C zk_117 zb_117 (by unfold vp_in; decide) (j := 0) (by decide) dX12_status_17 ?_
  refine z_goto C 26 dX12_status_18 (by decide) ?_
  refine z_iret C E rfl dX12_status_26 rfl (Nat.le_refl _) ⟨rfl, rfl⟩
set_option maxRecDepth 100000 in
set_option maxHeartbeats 4000000 in
theorem c_X12_status_1 (l : Launch) (B : zB) (s : zS) (t : zL)  : zD l B mX12_status s t [.ref (B.1 + 113), .int 1] (some (.int (s 117 1))) s t := by
  refine z_met (by decide) (Nat.le_of_ble_eq_true rfl) ?_
  intro X hl C E hnm
  show Zf X B mX12_status s t 0 [(0, .ref (B.1 + 113)), (1, .int 1)] []
  refine z_iload_n C dX12_status_0 1 rfl rfl ?_
  refine z_i2l C dX12_status_1 ?_
  refine z_lconst C dX12_status_2 kl_0 ?_
  refine z_ldc2 C dX12_status_3 tw_936 ?_
  refine f_callSr C hl (As := [.long ((1 : Int32).toInt64), .long 0, .long 2]) (rest := []) (c_X12_in0 l B s t 1 2 ((1 : Int32).toInt64) 2 rfl (by decide)) (zCB (nA := 3) C rfl rfl tw_810 tw_13 tw_808 (by decide +kernel) ⟨Nat.le_of_ble_eq_true rfl, Nat.le_of_ble_eq_true rfl⟩) tw_809 rfl rfl (Nat.le_of_ble_eq_true rfl) dX12_status_6 (Nat.zero_le _) ?_
  refine z_ifb_eq C 21 dX12_status_9 (by decide) (fun hbr => absurd hbr (by decide)) (fun _ => ?_)
  refine z_aload_n C dX12_status_12 0 rfl rfl ?_
  refine f_get12 C 3 (v := .ref (B.1 + 117)) (by decide) tw_747 rfl zk_113 zb_113 rfl dX12_status_13 ?_
  refine z_iload_n C dX12_status_16 1 rfl rfl ?_
  refine f_ialdL C zk_117 zb_117 (by unfold vp_in; decide) (j := 1) (by decide) dX12_status_17 ?_
  refine z_goto C 26 dX12_status_18 (by decide) ?_
  refine z_iret C E rfl dX12_status_26 rfl (Nat.le_refl _) ⟨rfl, rfl⟩
set_option maxRecDepth 100000 in
set_option maxHeartbeats 4000000 in
theorem c_X12_status_2 (l : Launch) (B : zB) (s : zS) (t : zL)  : zD l B mX12_status s t [.ref (B.1 + 113), .int 2] (some (.int (s 117 2))) s t := by
  refine z_met (by decide) (Nat.le_of_ble_eq_true rfl) ?_
  intro X hl C E hnm
  show Zf X B mX12_status s t 0 [(0, .ref (B.1 + 113)), (1, .int 2)] []
  refine z_iload_n C dX12_status_0 1 rfl rfl ?_
  refine z_i2l C dX12_status_1 ?_
  refine z_lconst C dX12_status_2 kl_0 ?_
  refine z_ldc2 C dX12_status_3 tw_936 ?_
  refine f_callSr C hl (As := [.long ((2 : Int32).toInt64), .long 0, .long 2]) (rest := []) (c_X12_in0 l B s t 2 2 ((2 : Int32).toInt64) 2 rfl (by decide)) (zCB (nA := 3) C rfl rfl tw_810 tw_13 tw_808 (by decide +kernel) ⟨Nat.le_of_ble_eq_true rfl, Nat.le_of_ble_eq_true rfl⟩) tw_809 rfl rfl (Nat.le_of_ble_eq_true rfl) dX12_status_6 (Nat.zero_le _) ?_
  refine z_ifb_eq C 21 dX12_status_9 (by decide) (fun hbr => absurd hbr (by decide)) (fun _ => ?_)
  refine z_aload_n C dX12_status_12 0 rfl rfl ?_
  refine f_get12 C 3 (v := .ref (B.1 + 117)) (by decide) tw_747 rfl zk_113 zb_113 rfl dX12_status_13 ?_
  refine z_iload_n C dX12_status_16 1 rfl rfl ?_
  refine f_ialdL C zk_117 zb_117 (by unfold vp_in; decide) (j := 2) (by decide) dX12_status_17 ?_
  refine z_goto C 26 dX12_status_18 (by decide) ?_
  refine z_iret C E rfl dX12_status_26 rfl (Nat.le_refl _) ⟨rfl, rfl⟩
set_option maxRecDepth 100000 in
set_option maxHeartbeats 4000000 in
theorem c_X12_status_bad (l : Launch) (B : zB) (s : zS) (t : zL) (w : Int32) (g : wIn w 2 = false) : zD l B mX12_status s t [.ref (B.1 + 113), .int w] (some (.int (-1))) (zu s 117 0 (s 117 0 + 1)) t := by
  refine z_met (by decide) (Nat.le_of_ble_eq_true rfl) ?_
  intro X hl C E hnm
  show Zf X B mX12_status s t 0 [(0, .ref (B.1 + 113)), (1, .int w)] []
  refine z_iload_n C dX12_status_0 1 rfl rfl ?_
  refine z_i2l C dX12_status_1 ?_
  refine z_lconst C dX12_status_2 kl_0 ?_
  refine z_ldc2 C dX12_status_3 tw_936 ?_
  refine f_callSr C hl (As := [.long ((w : Int32).toInt64), .long 0, .long 2]) (rest := []) (c_X12_in0 l B s t w 2 ((w : Int32).toInt64) 2 rfl (by decide)) (zCB (nA := 3) C rfl rfl tw_810 tw_13 tw_808 (by decide +kernel) ⟨Nat.le_of_ble_eq_true rfl, Nat.le_of_ble_eq_true rfl⟩) tw_809 rfl rfl (Nat.le_of_ble_eq_true rfl) dX12_status_6 (Nat.zero_le _) ?_
  refine z_ifb_eq C 21 dX12_status_9 (by decide) (fun _ => ?_) (fun hbr => Bool.noConfusion (show true = false from hbr.symm.trans g))
  refine z_aload_n C dX12_status_21 0 rfl rfl ?_
  refine z_iconst C dX12_status_22 ki_m1 ?_
  refine f_callVr C hl (As := [.int (-1)]) (rest := []) (c_X12_bad l B s t (-1)) zb_113 (zg_12 zk_113) rfl (zCB (nA := 1) C rfl rfl tw_814 tw_13 tw_811 (by decide +kernel) ⟨Nat.le_of_ble_eq_true rfl, Nat.le_of_ble_eq_true rfl⟩) tw_813 tp_26 rfl rfl (Nat.le_of_ble_eq_true rfl) dX12_status_23 (Nat.zero_le _) ?_
  refine z_iret C E rfl dX12_status_26 rfl (Nat.le_refl _) ⟨rfl, rfl⟩
/-- n places from a of cell q, put into cell o from b on -/
def wMv (s : zS) (o b q a n : Nat) : zS := fun k j => if k = o ∧ b ≤ j ∧ j < b + n then s q (a + (j - b)) else s k j
theorem wMv_0 (s : zS) (o b q a : Nat) : wMv s o b q a 0 = s := by
  funext k j
  simp only [wMv]
  rw [if_neg (by omega)]
theorem wMv_src (s : zS) {o b q a n j : Nat} (h : o ≠ q) : wMv s o b q a n q j = s q j := by simp only [wMv]; rw [if_neg (fun z => h z.1.symm)]
theorem wMv_s (s : zS) (o b q a n : Nat) (h : o ≠ q) : zu (wMv s o b q a n) o (b + n) (wMv s o b q a n q (a + n)) = wMv s o b q a (n + 1) := by
  funext k j
  rw [wMv_src s h]
  simp only [zu, wMv]
  by_cases h1 : k = o ∧ j = b + n
  · rw [if_pos h1, if_pos (by omega), h1.2, show b + n - b = n by omega]
  · rw [if_neg h1]
    by_cases h2 : k = o ∧ b ≤ j ∧ j < b + n
    · rw [if_pos h2, if_pos (by omega)]
    · rw [if_neg h2, if_neg (by omega)]
abbrev mX12_image : zM := (yX12_image, cX12_image, 3, (some .int), { frames := 1, cells := 0, slots := 0, locals := 25 })
set_option maxRecDepth 100000 in
set_option maxHeartbeats 4000000 in
theorem c_X12_image_bad (l : Launch) (B : zB) (s : zS) (t : zL) (w : Int32) (g : wIn w 1 = false) : zD l B mX12_image s t [.ref (B.1 + 113), .int w] (some (.int (-2))) (zu s 117 0 (s 117 0 + 1)) t := by
  refine z_met (by decide) (Nat.le_of_ble_eq_true rfl) ?_
  intro X hl C E hnm
  show Zf X B mX12_image s t 0 [(0, .ref (B.1 + 113)), (1, .int w)] []
  refine z_iload_n C dX12_image_0 1 rfl rfl ?_
  refine z_i2l C dX12_image_1 ?_
  refine z_lconst C dX12_image_2 kl_0 ?_
  refine z_lconst C dX12_image_3 kl_1 ?_
  refine f_callSr C hl (As := [.long ((w : Int32).toInt64), .long 0, .long 1]) (rest := []) (c_X12_in0 l B s t w 1 ((w : Int32).toInt64) 1 rfl (by decide)) (zCB (nA := 3) C rfl rfl tw_810 tw_13 tw_808 (by decide +kernel) ⟨Nat.le_of_ble_eq_true rfl, Nat.le_of_ble_eq_true rfl⟩) tw_809 rfl rfl (Nat.le_of_ble_eq_true rfl) dX12_image_4 (Nat.zero_le _) ?_
  refine z_ifb_ne C 17 dX12_image_7 (by decide) (fun hbr => absurd hbr (by rw [g]; decide)) (fun _ => ?_)
  refine z_aload_n C dX12_image_10 0 rfl rfl ?_
  refine z_bipush C dX12_image_11 kb_m2 ?_
  refine f_callVr C hl (As := [.int (-2)]) (rest := []) (c_X12_bad l B s t (-2)) zb_113 (zg_12 zk_113) rfl (zCB (nA := 1) C rfl rfl tw_814 tw_13 tw_811 (by decide +kernel) ⟨Nat.le_of_ble_eq_true rfl, Nat.le_of_ble_eq_true rfl⟩) tw_813 tp_26 rfl rfl (Nat.le_of_ble_eq_true rfl) dX12_image_13 (Nat.zero_le _) ?_
  refine z_iret C E rfl dX12_image_16 rfl (Nat.le_refl _) ⟨rfl, rfl⟩
set_option maxRecDepth 100000 in
set_option maxHeartbeats 4000000 in
theorem l_X12_image0 {l : Launch} {B : zB} {s : zS} {t : zL} {X : zX} (hl : X.2.1 = l) (C : zC X B mX12_image)  (E : zE X B mX12_image 124 0 0 (zR B (some (.int 1)) (zu (wMv s 115 0 114 0 105) 116 0 1) t)) : ∀ (m : Nat) (i : Nat), i + m = 105 → Zf X B mX12_image (wMv s 115 0 114 0 i) t 19 [(2, .int (nI i)), (0, .ref (B.1 + 113)), (1, .int 0)] [] := by
  intro m
  induction m with
  | zero =>
    intro i hi
    obtain rfl : i = 105 := by omega
    refine z_iload_n C dX12_image_19 0 rfl rfl ?_
    refine z_bipush C dX12_image_20 kb_105 ?_
    refine z_icmp_ge C 48 dX12_image_22 (by decide) (fun _ => ?_) (fun hbr => absurd (by decide) hbr)
    refine z_aload_n C dX12_image_48 1 rfl rfl ?_
    refine f_get12 C 2 (v := .ref (B.1 + 116)) (by decide) tw_746 rfl zk_113 zb_113 rfl dX12_image_49 ?_
    refine z_iload_n C dX12_image_52 2 rfl rfl ?_
    refine z_iconst C dX12_image_53 ki_1 ?_
    refine f_zastL C zk_116 zb_116 (by unfold vp_in; decide) (j := 0) (by decide) dX12_image_54 ?_
    refine z_iconst C dX12_image_55 ki_1 ?_
    refine z_iret C E rfl dX12_image_56 rfl (Nat.le_refl _) ⟨rfl, rfl⟩
  | succ m ih =>
    intro i hi0
    have hi : i < 105 := by omega
    refine z_iload_n C dX12_image_19 0 rfl rfl ?_
    refine z_bipush C dX12_image_20 kb_105 ?_
    refine z_icmp_ge C 48 dX12_image_22 (by decide) (fun hbr => absurd hbr (show ¬ nI 105 ≤ nI i from nI_ge hi (by decide))) (fun _ => ?_)
    refine z_aload_n C dX12_image_25 1 rfl rfl ?_
    refine f_get12 C 1 (v := .ref (B.1 + 115)) (by decide) tw_745 rfl zk_113 zb_113 rfl dX12_image_26 ?_
    refine z_bipush C dX12_image_29 kb_105 ?_
    refine z_iload_n C dX12_image_31 2 rfl rfl ?_
    refine z_imul C dX12_image_32 ?_
    refine f_topi (y := 0) (by decide) ?_
    refine z_iload_n C dX12_image_33 0 rfl rfl ?_
    refine z_iadd C dX12_image_34 ?_
    refine z_aload_n C dX12_image_35 1 rfl rfl ?_
    refine f_get12 C 0 (v := .ref (B.1 + 114)) (by decide) tw_744 rfl zk_113 zb_113 rfl dX12_image_36 ?_
    refine z_iload_n C dX12_image_39 0 rfl rfl ?_
    refine f_ialdL C zk_114 zb_114 (ixN (n := 105) rfl (by omega) (by decide)).1 (j := (0 + i)) (by rw [Nat.zero_add]; exact (ixN (n := 105) rfl (by omega) (by decide)).2) dX12_image_40 ?_
    refine f_iastL C zk_115 zb_115 (ixN (n := 210) (nA (a := 0) rfl rfl rfl) (by omega) (by decide)).1 (j := (0 + i)) (ixN (n := 210) (nA (a := 0) rfl rfl rfl) (by omega) (by decide)).2 dX12_image_41 ?_
    refine z_iinc C [(2, .int (nI (i + 1))), (0, .ref (B.1 + 113)), (1, .int 0)] dX12_image_42 0 rfl (nI_inc i) (by decide) rfl ?_
    refine z_goto C 19 dX12_image_45 (by decide) ?_
    refine z_G (congrArg (fun z => zg B z t) (wMv_s s 115 0 114 0 i (by decide))) ?_
    exact z_lv [0, 1, 2] rfl (ih (i + 1) (by omega))
set_option maxRecDepth 100000 in
set_option maxHeartbeats 4000000 in
theorem c_X12_image_0 (l : Launch) (B : zB) (s : zS) (t : zL)  : zD l B mX12_image s t [.ref (B.1 + 113), .int 0] (some (.int 1)) (zu (wMv s 115 0 114 0 105) 116 0 1) t := by
  refine z_met (by decide) (Nat.le_of_ble_eq_true rfl) ?_
  intro X hl C E hnm
  show Zf X B mX12_image s t 0 [(0, .ref (B.1 + 113)), (1, .int 0)] []
  refine z_iload_n C dX12_image_0 1 rfl rfl ?_
  refine z_i2l C dX12_image_1 ?_
  refine z_lconst C dX12_image_2 kl_0 ?_
  refine z_lconst C dX12_image_3 kl_1 ?_
  refine f_callSr C hl (As := [.long ((0 : Int32).toInt64), .long 0, .long 1]) (rest := []) (c_X12_in0 l B s t 0 1 ((0 : Int32).toInt64) 1 rfl (by decide)) (zCB (nA := 3) C rfl rfl tw_810 tw_13 tw_808 (by decide +kernel) ⟨Nat.le_of_ble_eq_true rfl, Nat.le_of_ble_eq_true rfl⟩) tw_809 rfl rfl (Nat.le_of_ble_eq_true rfl) dX12_image_4 (Nat.zero_le _) ?_
  refine z_ifb_ne C 17 dX12_image_7 (by decide) (fun _ => ?_) (fun hbr => Bool.noConfusion (show false = true from hbr.symm.trans (by decide)))
  refine z_iconst C dX12_image_17 ki_0 ?_
  refine z_istore_n C [(2, .int 0), (0, .ref (B.1 + 113)), (1, .int 0)] dX12_image_18 rfl (by decide) rfl ?_
  refine z_G (congrArg (fun z => zg B z t) (wMv_0 s 115 0 114 0).symm) ?_
  exact z_lv [0, 1, 2] rfl (l_X12_image0 hl C E 105 0 (by omega))
set_option maxRecDepth 100000 in
set_option maxHeartbeats 4000000 in
theorem l_X12_image1 {l : Launch} {B : zB} {s : zS} {t : zL} {X : zX} (hl : X.2.1 = l) (C : zC X B mX12_image)  (E : zE X B mX12_image 124 0 0 (zR B (some (.int 1)) (zu (wMv s 115 105 114 0 105) 116 1 1) t)) : ∀ (m : Nat) (i : Nat), i + m = 105 → Zf X B mX12_image (wMv s 115 105 114 0 i) t 19 [(2, .int (nI i)), (0, .ref (B.1 + 113)), (1, .int 1)] [] := by
  intro m
  induction m with
  | zero =>
    intro i hi
    obtain rfl : i = 105 := by omega
    refine z_iload_n C dX12_image_19 0 rfl rfl ?_
    refine z_bipush C dX12_image_20 kb_105 ?_
    refine z_icmp_ge C 48 dX12_image_22 (by decide) (fun _ => ?_) (fun hbr => absurd (by decide) hbr)
    refine z_aload_n C dX12_image_48 1 rfl rfl ?_
    refine f_get12 C 2 (v := .ref (B.1 + 116)) (by decide) tw_746 rfl zk_113 zb_113 rfl dX12_image_49 ?_
    refine z_iload_n C dX12_image_52 2 rfl rfl ?_
    refine z_iconst C dX12_image_53 ki_1 ?_
    refine f_zastL C zk_116 zb_116 (by unfold vp_in; decide) (j := 1) (by decide) dX12_image_54 ?_
    refine z_iconst C dX12_image_55 ki_1 ?_
    refine z_iret C E rfl dX12_image_56 rfl (Nat.le_refl _) ⟨rfl, rfl⟩
  | succ m ih =>
    intro i hi0
    have hi : i < 105 := by omega
    refine z_iload_n C dX12_image_19 0 rfl rfl ?_
    refine z_bipush C dX12_image_20 kb_105 ?_
    refine z_icmp_ge C 48 dX12_image_22 (by decide) (fun hbr => absurd hbr (show ¬ nI 105 ≤ nI i from nI_ge hi (by decide))) (fun _ => ?_)
    refine z_aload_n C dX12_image_25 1 rfl rfl ?_
    refine f_get12 C 1 (v := .ref (B.1 + 115)) (by decide) tw_745 rfl zk_113 zb_113 rfl dX12_image_26 ?_
    refine z_bipush C dX12_image_29 kb_105 ?_
    refine z_iload_n C dX12_image_31 2 rfl rfl ?_
    refine z_imul C dX12_image_32 ?_
    refine f_topi (y := 105) (by decide) ?_
    refine z_iload_n C dX12_image_33 0 rfl rfl ?_
    refine z_iadd C dX12_image_34 ?_
    refine z_aload_n C dX12_image_35 1 rfl rfl ?_
    refine f_get12 C 0 (v := .ref (B.1 + 114)) (by decide) tw_744 rfl zk_113 zb_113 rfl dX12_image_36 ?_
    refine z_iload_n C dX12_image_39 0 rfl rfl ?_
    refine f_ialdL C zk_114 zb_114 (ixN (n := 105) rfl (by omega) (by decide)).1 (j := (0 + i)) (by rw [Nat.zero_add]; exact (ixN (n := 105) rfl (by omega) (by decide)).2) dX12_image_40 ?_
    refine f_iastL C zk_115 zb_115 (ixN (n := 210) (nA (a := 105) rfl rfl rfl) (by omega) (by decide)).1 (j := (105 + i)) (ixN (n := 210) (nA (a := 105) rfl rfl rfl) (by omega) (by decide)).2 dX12_image_41 ?_
    refine z_iinc C [(2, .int (nI (i + 1))), (0, .ref (B.1 + 113)), (1, .int 1)] dX12_image_42 0 rfl (nI_inc i) (by decide) rfl ?_
    refine z_goto C 19 dX12_image_45 (by decide) ?_
    refine z_G (congrArg (fun z => zg B z t) (wMv_s s 115 105 114 0 i (by decide))) ?_
    exact z_lv [0, 1, 2] rfl (ih (i + 1) (by omega))
set_option maxRecDepth 100000 in
set_option maxHeartbeats 4000000 in
theorem c_X12_image_1 (l : Launch) (B : zB) (s : zS) (t : zL)  : zD l B mX12_image s t [.ref (B.1 + 113), .int 1] (some (.int 1)) (zu (wMv s 115 105 114 0 105) 116 1 1) t := by
  refine z_met (by decide) (Nat.le_of_ble_eq_true rfl) ?_
  intro X hl C E hnm
  show Zf X B mX12_image s t 0 [(0, .ref (B.1 + 113)), (1, .int 1)] []
  refine z_iload_n C dX12_image_0 1 rfl rfl ?_
  refine z_i2l C dX12_image_1 ?_
  refine z_lconst C dX12_image_2 kl_0 ?_
  refine z_lconst C dX12_image_3 kl_1 ?_
  refine f_callSr C hl (As := [.long ((1 : Int32).toInt64), .long 0, .long 1]) (rest := []) (c_X12_in0 l B s t 1 1 ((1 : Int32).toInt64) 1 rfl (by decide)) (zCB (nA := 3) C rfl rfl tw_810 tw_13 tw_808 (by decide +kernel) ⟨Nat.le_of_ble_eq_true rfl, Nat.le_of_ble_eq_true rfl⟩) tw_809 rfl rfl (Nat.le_of_ble_eq_true rfl) dX12_image_4 (Nat.zero_le _) ?_
  refine z_ifb_ne C 17 dX12_image_7 (by decide) (fun _ => ?_) (fun hbr => Bool.noConfusion (show false = true from hbr.symm.trans (by decide)))
  refine z_iconst C dX12_image_17 ki_0 ?_
  refine z_istore_n C [(2, .int 0), (0, .ref (B.1 + 113)), (1, .int 1)] dX12_image_18 rfl (by decide) rfl ?_
  refine z_G (congrArg (fun z => zg B z t) (wMv_0 s 115 105 114 0).symm) ?_
  exact z_lv [0, 1, 2] rfl (l_X12_image1 hl C E 105 0 (by omega))
abbrev mX12_from : zM := (yX12_from, cX12_from, 3, (some .int), { frames := 1, cells := 0, slots := 0, locals := 25 })
set_option maxRecDepth 100000 in
set_option maxHeartbeats 4000000 in
theorem c_X12_from_bad (l : Launch) (B : zB) (s : zS) (t : zL) (w : Int32) (g : wIn w 1 = false) : zD l B mX12_from s t [.ref (B.1 + 113), .int w] (some (.int (-2))) (zu s 117 0 (s 117 0 + 1)) t := by
  refine z_met (by decide) (Nat.le_of_ble_eq_true rfl) ?_
  intro X hl C E hnm
  show Zf X B mX12_from s t 0 [(0, .ref (B.1 + 113)), (1, .int w)] []
  refine z_iload_n C dX12_from_0 1 rfl rfl ?_
  refine z_i2l C dX12_from_1 ?_
  refine z_lconst C dX12_from_2 kl_0 ?_
  refine z_lconst C dX12_from_3 kl_1 ?_
  refine f_callSr C hl (As := [.long ((w : Int32).toInt64), .long 0, .long 1]) (rest := []) (c_X12_in0 l B s t w 1 ((w : Int32).toInt64) 1 rfl (by decide)) (zCB (nA := 3) C rfl rfl tw_810 tw_13 tw_808 (by decide +kernel) ⟨Nat.le_of_ble_eq_true rfl, Nat.le_of_ble_eq_true rfl⟩) tw_809 rfl rfl (Nat.le_of_ble_eq_true rfl) dX12_from_4 (Nat.zero_le _) ?_
  refine z_ifb_ne C 17 dX12_from_7 (by decide) (fun hbr => absurd hbr (by rw [g]; decide)) (fun _ => ?_)
  refine z_aload_n C dX12_from_10 0 rfl rfl ?_
  refine z_bipush C dX12_from_11 kb_m2 ?_
  refine f_callVr C hl (As := [.int (-2)]) (rest := []) (c_X12_bad l B s t (-2)) zb_113 (zg_12 zk_113) rfl (zCB (nA := 1) C rfl rfl tw_814 tw_13 tw_811 (by decide +kernel) ⟨Nat.le_of_ble_eq_true rfl, Nat.le_of_ble_eq_true rfl⟩) tw_813 tp_26 rfl rfl (Nat.le_of_ble_eq_true rfl) dX12_from_13 (Nat.zero_le _) ?_
  refine z_iret C E rfl dX12_from_16 rfl (Nat.le_refl _) ⟨rfl, rfl⟩
set_option maxRecDepth 100000 in
set_option maxHeartbeats 4000000 in
theorem c_X12_from_no0 (l : Launch) (B : zB) (s : zS) (t : zL) (g : s 116 0 = 0) : zD l B mX12_from s t [.ref (B.1 + 113), .int 0] (some (.int (-3))) (zu s 117 1 (s 117 1 + 1)) t := by
  refine z_met (by decide) (Nat.le_of_ble_eq_true rfl) ?_
  intro X hl C E hnm
  show Zf X B mX12_from s t 0 [(0, .ref (B.1 + 113)), (1, .int 0)] []
  refine z_iload_n C dX12_from_0 1 rfl rfl ?_
  refine z_i2l C dX12_from_1 ?_
  refine z_lconst C dX12_from_2 kl_0 ?_
  refine z_lconst C dX12_from_3 kl_1 ?_
  refine f_callSr C hl (As := [.long ((0 : Int32).toInt64), .long 0, .long 1]) (rest := []) (c_X12_in0 l B s t 0 1 ((0 : Int32).toInt64) 1 rfl (by decide)) (zCB (nA := 3) C rfl rfl tw_810 tw_13 tw_808 (by decide +kernel) ⟨Nat.le_of_ble_eq_true rfl, Nat.le_of_ble_eq_true rfl⟩) tw_809 rfl rfl (Nat.le_of_ble_eq_true rfl) dX12_from_4 (Nat.zero_le _) ?_
  refine z_ifb_ne C 17 dX12_from_7 (by decide) (fun _ => ?_) (fun hbr => Bool.noConfusion (show false = true from hbr.symm.trans (by decide)))
  refine z_aload_n C dX12_from_17 0 rfl rfl ?_
  refine f_get12 C 2 (v := .ref (B.1 + 116)) (by decide) tw_746 rfl zk_113 zb_113 rfl dX12_from_18 ?_
  refine z_iload_n C dX12_from_21 1 rfl rfl ?_
  refine f_zaldL C zk_116 zb_116 (by unfold vp_in; decide) (j := 0) (by decide) dX12_from_22 ?_
  refine z_if_ne C 31 dX12_from_23 (by decide) (fun hbr => absurd g hbr) (fun _ => ?_)
  refine z_aload_n C dX12_from_26 0 rfl rfl ?_
  refine f_callVr C hl (As := []) (rest := []) (c_X12_no l B s t) zb_113 (zg_12 zk_113) rfl (zCB (nA := 0) C rfl rfl tw_847 tw_13 tw_844 (by decide +kernel) ⟨Nat.le_of_ble_eq_true rfl, Nat.le_of_ble_eq_true rfl⟩) tw_846 tp_30 rfl rfl (Nat.le_of_ble_eq_true rfl) dX12_from_27 (Nat.zero_le _) ?_
  refine z_iret C E rfl dX12_from_30 rfl (Nat.le_refl _) ⟨rfl, rfl⟩
set_option maxRecDepth 100000 in
set_option maxHeartbeats 4000000 in
theorem l_X12_from0 {l : Launch} {B : zB} {s : zS} {t : zL} {X : zX} (hl : X.2.1 = l) (C : zC X B mX12_from)  (E : zE X B mX12_from 124 0 0 (zR B (some (.int 1)) (wMv s 114 0 115 0 105) t)) : ∀ (m : Nat) (i : Nat), i + m = 105 → Zf X B mX12_from (wMv s 114 0 115 0 i) t 33 [(2, .int (nI i)), (0, .ref (B.1 + 113)), (1, .int 0)] [] := by
  intro m
  induction m with
  | zero =>
    intro i hi
    obtain rfl : i = 105 := by omega
    refine z_iload_n C dX12_from_33 0 rfl rfl ?_
    refine z_bipush C dX12_from_34 kb_105 ?_
    refine z_icmp_ge C 62 dX12_from_36 (by decide) (fun _ => ?_) (fun hbr => absurd (by decide) hbr)
    refine z_iconst C dX12_from_62 ki_1 ?_
    refine z_iret C E rfl dX12_from_63 rfl (Nat.le_refl _) ⟨rfl, rfl⟩
  | succ m ih =>
    intro i hi0
    have hi : i < 105 := by omega
    refine z_iload_n C dX12_from_33 0 rfl rfl ?_
    refine z_bipush C dX12_from_34 kb_105 ?_
    refine z_icmp_ge C 62 dX12_from_36 (by decide) (fun hbr => absurd hbr (show ¬ nI 105 ≤ nI i from nI_ge hi (by decide))) (fun _ => ?_)
    refine z_aload_n C dX12_from_39 1 rfl rfl ?_
    refine f_get12 C 0 (v := .ref (B.1 + 114)) (by decide) tw_744 rfl zk_113 zb_113 rfl dX12_from_40 ?_
    refine z_iload_n C dX12_from_43 0 rfl rfl ?_
    refine z_aload_n C dX12_from_44 1 rfl rfl ?_
    refine f_get12 C 1 (v := .ref (B.1 + 115)) (by decide) tw_745 rfl zk_113 zb_113 rfl dX12_from_45 ?_
    refine z_bipush C dX12_from_48 kb_105 ?_
    refine z_iload_n C dX12_from_50 2 rfl rfl ?_
    refine z_imul C dX12_from_51 ?_
    refine f_topi (y := 0) (by decide) ?_
    refine z_iload_n C dX12_from_52 0 rfl rfl ?_
    refine z_iadd C dX12_from_53 ?_
    refine f_ialdL C zk_115 zb_115 (ixN (n := 210) (nA (a := 0) rfl rfl rfl) (by omega) (by decide)).1 (j := (0 + i)) (ixN (n := 210) (nA (a := 0) rfl rfl rfl) (by omega) (by decide)).2 dX12_from_54 ?_
    refine f_iastL C zk_114 zb_114 (ixN (n := 105) rfl (by omega) (by decide)).1 (j := (0 + i)) (by rw [Nat.zero_add]; exact (ixN (n := 105) rfl (by omega) (by decide)).2) dX12_from_55 ?_
    refine z_iinc C [(2, .int (nI (i + 1))), (0, .ref (B.1 + 113)), (1, .int 0)] dX12_from_56 0 rfl (nI_inc i) (by decide) rfl ?_
    refine z_goto C 33 dX12_from_59 (by decide) ?_
    refine z_G (congrArg (fun z => zg B z t) (wMv_s s 114 0 115 0 i (by decide))) ?_
    exact z_lv [0, 1, 2] rfl (ih (i + 1) (by omega))
set_option maxRecDepth 100000 in
set_option maxHeartbeats 4000000 in
theorem c_X12_from_0 (l : Launch) (B : zB) (s : zS) (t : zL) (g : ¬ s 116 0 = 0) : zD l B mX12_from s t [.ref (B.1 + 113), .int 0] (some (.int 1)) (wMv s 114 0 115 0 105) t := by
  refine z_met (by decide) (Nat.le_of_ble_eq_true rfl) ?_
  intro X hl C E hnm
  show Zf X B mX12_from s t 0 [(0, .ref (B.1 + 113)), (1, .int 0)] []
  refine z_iload_n C dX12_from_0 1 rfl rfl ?_
  refine z_i2l C dX12_from_1 ?_
  refine z_lconst C dX12_from_2 kl_0 ?_
  refine z_lconst C dX12_from_3 kl_1 ?_
  refine f_callSr C hl (As := [.long ((0 : Int32).toInt64), .long 0, .long 1]) (rest := []) (c_X12_in0 l B s t 0 1 ((0 : Int32).toInt64) 1 rfl (by decide)) (zCB (nA := 3) C rfl rfl tw_810 tw_13 tw_808 (by decide +kernel) ⟨Nat.le_of_ble_eq_true rfl, Nat.le_of_ble_eq_true rfl⟩) tw_809 rfl rfl (Nat.le_of_ble_eq_true rfl) dX12_from_4 (Nat.zero_le _) ?_
  refine z_ifb_ne C 17 dX12_from_7 (by decide) (fun _ => ?_) (fun hbr => Bool.noConfusion (show false = true from hbr.symm.trans (by decide)))
  refine z_aload_n C dX12_from_17 0 rfl rfl ?_
  refine f_get12 C 2 (v := .ref (B.1 + 116)) (by decide) tw_746 rfl zk_113 zb_113 rfl dX12_from_18 ?_
  refine z_iload_n C dX12_from_21 1 rfl rfl ?_
  refine f_zaldL C zk_116 zb_116 (by unfold vp_in; decide) (j := 0) (by decide) dX12_from_22 ?_
  refine z_if_ne C 31 dX12_from_23 (by decide) (fun _ => ?_) (fun hbr => absurd hbr g)
  refine z_iconst C dX12_from_31 ki_0 ?_
  refine z_istore_n C [(2, .int 0), (0, .ref (B.1 + 113)), (1, .int 0)] dX12_from_32 rfl (by decide) rfl ?_
  refine z_G (congrArg (fun z => zg B z t) (wMv_0 s 114 0 115 0).symm) ?_
  exact z_lv [0, 1, 2] rfl (l_X12_from0 hl C E 105 0 (by omega))
set_option maxRecDepth 100000 in
set_option maxHeartbeats 4000000 in
theorem c_X12_from_no1 (l : Launch) (B : zB) (s : zS) (t : zL) (g : s 116 1 = 0) : zD l B mX12_from s t [.ref (B.1 + 113), .int 1] (some (.int (-3))) (zu s 117 1 (s 117 1 + 1)) t := by
  refine z_met (by decide) (Nat.le_of_ble_eq_true rfl) ?_
  intro X hl C E hnm
  show Zf X B mX12_from s t 0 [(0, .ref (B.1 + 113)), (1, .int 1)] []
  refine z_iload_n C dX12_from_0 1 rfl rfl ?_
  refine z_i2l C dX12_from_1 ?_
  refine z_lconst C dX12_from_2 kl_0 ?_
  refine z_lconst C dX12_from_3 kl_1 ?_
  refine f_callSr C hl (As := [.long ((1 : Int32).toInt64), .long 0, .long 1]) (rest := []) (c_X12_in0 l B s t 1 1 ((1 : Int32).toInt64) 1 rfl (by decide)) (zCB (nA := 3) C rfl rfl tw_810 tw_13 tw_808 (by decide +kernel) ⟨Nat.le_of_ble_eq_true rfl, Nat.le_of_ble_eq_true rfl⟩) tw_809 rfl rfl (Nat.le_of_ble_eq_true rfl) dX12_from_4 (Nat.zero_le _) ?_
  refine z_ifb_ne C 17 dX12_from_7 (by decide) (fun _ => ?_) (fun hbr => Bool.noConfusion (show false = true from hbr.symm.trans (by decide)))
  refine z_aload_n C dX12_from_17 0 rfl rfl ?_
  refine f_get12 C 2 (v := .ref (B.1 + 116)) (by decide) tw_746 rfl zk_113 zb_113 rfl dX12_from_18 ?_
  refine z_iload_n C dX12_from_21 1 rfl rfl ?_
  refine f_zaldL C zk_116 zb_116 (by unfold vp_in; decide) (j := 1) (by decide) dX12_from_22 ?_
  refine z_if_ne C 31 dX12_from_23 (by decide) (fun hbr => absurd g hbr) (fun _ => ?_)
  refine z_aload_n C dX12_from_26 0 rfl rfl ?_
  refine f_callVr C hl (As := []) (rest := []) (c_X12_no l B s t) zb_113 (zg_12 zk_113) rfl (zCB (nA := 0) C rfl rfl tw_847 tw_13 tw_844 (by decide +kernel) ⟨Nat.le_of_ble_eq_true rfl, Nat.le_of_ble_eq_true rfl⟩) tw_846 tp_30 rfl rfl (Nat.le_of_ble_eq_true rfl) dX12_from_27 (Nat.zero_le _) ?_
  refine z_iret C E rfl dX12_from_30 rfl (Nat.le_refl _) ⟨rfl, rfl⟩
set_option maxRecDepth 100000 in
set_option maxHeartbeats 4000000 in
theorem l_X12_from1 {l : Launch} {B : zB} {s : zS} {t : zL} {X : zX} (hl : X.2.1 = l) (C : zC X B mX12_from)  (E : zE X B mX12_from 124 0 0 (zR B (some (.int 1)) (wMv s 114 0 115 105 105) t)) : ∀ (m : Nat) (i : Nat), i + m = 105 → Zf X B mX12_from (wMv s 114 0 115 105 i) t 33 [(2, .int (nI i)), (0, .ref (B.1 + 113)), (1, .int 1)] [] := by
  intro m
  induction m with
  | zero =>
    intro i hi
    obtain rfl : i = 105 := by omega
    refine z_iload_n C dX12_from_33 0 rfl rfl ?_
    refine z_bipush C dX12_from_34 kb_105 ?_
    refine z_icmp_ge C 62 dX12_from_36 (by decide) (fun _ => ?_) (fun hbr => absurd (by decide) hbr)
    refine z_iconst C dX12_from_62 ki_1 ?_
    refine z_iret C E rfl dX12_from_63 rfl (Nat.le_refl _) ⟨rfl, rfl⟩
  | succ m ih =>
    intro i hi0
    have hi : i < 105 := by omega
    refine z_iload_n C dX12_from_33 0 rfl rfl ?_
    refine z_bipush C dX12_from_34 kb_105 ?_
    refine z_icmp_ge C 62 dX12_from_36 (by decide) (fun hbr => absurd hbr (show ¬ nI 105 ≤ nI i from nI_ge hi (by decide))) (fun _ => ?_)
    refine z_aload_n C dX12_from_39 1 rfl rfl ?_
    refine f_get12 C 0 (v := .ref (B.1 + 114)) (by decide) tw_744 rfl zk_113 zb_113 rfl dX12_from_40 ?_
    refine z_iload_n C dX12_from_43 0 rfl rfl ?_
    refine z_aload_n C dX12_from_44 1 rfl rfl ?_
    refine f_get12 C 1 (v := .ref (B.1 + 115)) (by decide) tw_745 rfl zk_113 zb_113 rfl dX12_from_45 ?_
    refine z_bipush C dX12_from_48 kb_105 ?_
    refine z_iload_n C dX12_from_50 2 rfl rfl ?_
    refine z_imul C dX12_from_51 ?_
    refine f_topi (y := 105) (by decide) ?_
    refine z_iload_n C dX12_from_52 0 rfl rfl ?_
    refine z_iadd C dX12_from_53 ?_
    refine f_ialdL C zk_115 zb_115 (ixN (n := 210) (nA (a := 105) rfl rfl rfl) (by omega) (by decide)).1 (j := (105 + i)) (ixN (n := 210) (nA (a := 105) rfl rfl rfl) (by omega) (by decide)).2 dX12_from_54 ?_
    refine f_iastL C zk_114 zb_114 (ixN (n := 105) rfl (by omega) (by decide)).1 (j := (0 + i)) (by rw [Nat.zero_add]; exact (ixN (n := 105) rfl (by omega) (by decide)).2) dX12_from_55 ?_
    refine z_iinc C [(2, .int (nI (i + 1))), (0, .ref (B.1 + 113)), (1, .int 1)] dX12_from_56 0 rfl (nI_inc i) (by decide) rfl ?_
    refine z_goto C 33 dX12_from_59 (by decide) ?_
    refine z_G (congrArg (fun z => zg B z t) (wMv_s s 114 0 115 105 i (by decide))) ?_
    exact z_lv [0, 1, 2] rfl (ih (i + 1) (by omega))
set_option maxRecDepth 100000 in
set_option maxHeartbeats 4000000 in
theorem c_X12_from_1 (l : Launch) (B : zB) (s : zS) (t : zL) (g : ¬ s 116 1 = 0) : zD l B mX12_from s t [.ref (B.1 + 113), .int 1] (some (.int 1)) (wMv s 114 0 115 105 105) t := by
  refine z_met (by decide) (Nat.le_of_ble_eq_true rfl) ?_
  intro X hl C E hnm
  show Zf X B mX12_from s t 0 [(0, .ref (B.1 + 113)), (1, .int 1)] []
  refine z_iload_n C dX12_from_0 1 rfl rfl ?_
  refine z_i2l C dX12_from_1 ?_
  refine z_lconst C dX12_from_2 kl_0 ?_
  refine z_lconst C dX12_from_3 kl_1 ?_
  refine f_callSr C hl (As := [.long ((1 : Int32).toInt64), .long 0, .long 1]) (rest := []) (c_X12_in0 l B s t 1 1 ((1 : Int32).toInt64) 1 rfl (by decide)) (zCB (nA := 3) C rfl rfl tw_810 tw_13 tw_808 (by decide +kernel) ⟨Nat.le_of_ble_eq_true rfl, Nat.le_of_ble_eq_true rfl⟩) tw_809 rfl rfl (Nat.le_of_ble_eq_true rfl) dX12_from_4 (Nat.zero_le _) ?_
  refine z_ifb_ne C 17 dX12_from_7 (by decide) (fun _ => ?_) (fun hbr => Bool.noConfusion (show false = true from hbr.symm.trans (by decide)))
  refine z_aload_n C dX12_from_17 0 rfl rfl ?_
  refine f_get12 C 2 (v := .ref (B.1 + 116)) (by decide) tw_746 rfl zk_113 zb_113 rfl dX12_from_18 ?_
  refine z_iload_n C dX12_from_21 1 rfl rfl ?_
  refine f_zaldL C zk_116 zb_116 (by unfold vp_in; decide) (j := 1) (by decide) dX12_from_22 ?_
  refine z_if_ne C 31 dX12_from_23 (by decide) (fun _ => ?_) (fun hbr => absurd hbr g)
  refine z_iconst C dX12_from_31 ki_0 ?_
  refine z_istore_n C [(2, .int 0), (0, .ref (B.1 + 113)), (1, .int 1)] dX12_from_32 rfl (by decide) rfl ?_
  refine z_G (congrArg (fun z => zg B z t) (wMv_0 s 114 0 115 105).symm) ?_
  exact z_lv [0, 1, 2] rfl (l_X12_from1 hl C E 105 0 (by omega))
abbrev mX12_counted : zM := (yX12_counted, cX12_counted, 2, (some .int), { frames := 1, cells := 0, slots := 0, locals := 22 })
set_option maxRecDepth 100000 in
set_option maxHeartbeats 4000000 in
theorem c_X12_counted0 (l : Launch) (B : zB) (s : zS) (t : zL) (h1 : r8 (s 114 1)) (h2 : r8 (s 114 2)) : zD l B mX12_counted s t [.ref (B.1 + 113), .int 0] (some (.int (s 114 0))) s t := by
  refine z_met (by decide) (Nat.le_of_ble_eq_true rfl) ?_
  intro X hl C E hnm
  show Zf X B mX12_counted s t 0 [(0, .ref (B.1 + 113)), (1, .int 0)] []
  refine z_iload_n C dX12_counted_0 1 rfl rfl ?_
  refine z_tableIn C (off := 43) 44 dX12_counted_1 (by decide) (by decide) (by decide) (by decide) ?_
  refine z_aload_n C dX12_counted_44 0 rfl rfl ?_
  refine f_callVr C hl (As := []) (rest := []) (c_X12_many l B s t) zb_113 (zg_12 zk_113) rfl (zCB (nA := 0) C rfl rfl tw_818 tw_13 tw_815 (by decide +kernel) ⟨Nat.le_of_ble_eq_true rfl, Nat.le_of_ble_eq_true rfl⟩) tw_817 tp_27 rfl rfl (Nat.le_of_ble_eq_true rfl) dX12_counted_45 (Nat.zero_le _) ?_
  refine z_iret C E rfl dX12_counted_48 rfl (Nat.le_refl _) ⟨rfl, rfl⟩
set_option maxRecDepth 100000 in
set_option maxHeartbeats 4000000 in
theorem c_X12_counted1 (l : Launch) (B : zB) (s : zS) (t : zL) (h1 : r8 (s 114 1)) (h2 : r8 (s 114 2)) : zD l B mX12_counted s t [.ref (B.1 + 113), .int 1] (some (.int (s 114 6))) s t := by
  refine z_met (by decide) (Nat.le_of_ble_eq_true rfl) ?_
  intro X hl C E hnm
  show Zf X B mX12_counted s t 0 [(0, .ref (B.1 + 113)), (1, .int 1)] []
  refine z_iload_n C dX12_counted_0 1 rfl rfl ?_
  refine z_tableIn C (off := 48) 49 dX12_counted_1 (by decide) (by decide) (by decide) (by decide) ?_
  refine z_aload_n C dX12_counted_49 0 rfl rfl ?_
  refine f_get12 C 0 (v := .ref (B.1 + 114)) (by decide) tw_744 rfl zk_113 zb_113 rfl dX12_counted_50 ?_
  refine z_bipush C dX12_counted_53 kb_6 ?_
  refine f_ialdL C zk_114 zb_114 (by unfold vp_in; decide) (j := 6) (by decide) dX12_counted_55 ?_
  refine z_iret C E rfl dX12_counted_56 rfl (Nat.le_refl _) ⟨rfl, rfl⟩
set_option maxRecDepth 100000 in
set_option maxHeartbeats 4000000 in
theorem c_X12_counted2 (l : Launch) (B : zB) (s : zS) (t : zL) (h1 : r8 (s 114 1)) (h2 : r8 (s 114 2)) : zD l B mX12_counted s t [.ref (B.1 + 113), .int 2] (some (.int (wPop (s 114 2)))) s t := by
  refine z_met (by decide) (Nat.le_of_ble_eq_true rfl) ?_
  intro X hl C E hnm
  show Zf X B mX12_counted s t 0 [(0, .ref (B.1 + 113)), (1, .int 2)] []
  refine z_iload_n C dX12_counted_0 1 rfl rfl ?_
  refine z_tableIn C (off := 56) 57 dX12_counted_1 (by decide) (by decide) (by decide) (by decide) ?_
  refine z_aload_n C dX12_counted_57 0 rfl rfl ?_
  refine f_get12 C 0 (v := .ref (B.1 + 114)) (by decide) tw_744 rfl zk_113 zb_113 rfl dX12_counted_58 ?_
  refine z_iconst C dX12_counted_61 ki_2 ?_
  refine f_ialdL C zk_114 zb_114 (by unfold vp_in; decide) (j := 2) (by decide) dX12_counted_62 ?_
  refine f_callSr C hl (As := [.int (s 114 2)]) (rest := []) (c_X12_bits l B s t (s 114 2) h2) (zCB (nA := 1) C rfl rfl tw_877 tw_13 tw_875 (by decide +kernel) ⟨Nat.le_of_ble_eq_true rfl, Nat.le_of_ble_eq_true rfl⟩) tw_876 rfl rfl (Nat.le_of_ble_eq_true rfl) dX12_counted_63 (Nat.zero_le _) ?_
  refine z_iret C E rfl dX12_counted_66 rfl (Nat.le_refl _) ⟨rfl, rfl⟩
set_option maxRecDepth 100000 in
set_option maxHeartbeats 4000000 in
theorem c_X12_counted3 (l : Launch) (B : zB) (s : zS) (t : zL) (h1 : r8 (s 114 1)) (h2 : r8 (s 114 2)) : zD l B mX12_counted s t [.ref (B.1 + 113), .int 3] (some (.int (wPop (s 114 1)))) s t := by
  refine z_met (by decide) (Nat.le_of_ble_eq_true rfl) ?_
  intro X hl C E hnm
  show Zf X B mX12_counted s t 0 [(0, .ref (B.1 + 113)), (1, .int 3)] []
  refine z_iload_n C dX12_counted_0 1 rfl rfl ?_
  refine z_tableIn C (off := 66) 67 dX12_counted_1 (by decide) (by decide) (by decide) (by decide) ?_
  refine z_aload_n C dX12_counted_67 0 rfl rfl ?_
  refine f_get12 C 0 (v := .ref (B.1 + 114)) (by decide) tw_744 rfl zk_113 zb_113 rfl dX12_counted_68 ?_
  refine z_iconst C dX12_counted_71 ki_1 ?_
  refine f_ialdL C zk_114 zb_114 (by unfold vp_in; decide) (j := 1) (by decide) dX12_counted_72 ?_
  refine f_callSr C hl (As := [.int (s 114 1)]) (rest := []) (c_X12_bits l B s t (s 114 1) h1) (zCB (nA := 1) C rfl rfl tw_877 tw_13 tw_875 (by decide +kernel) ⟨Nat.le_of_ble_eq_true rfl, Nat.le_of_ble_eq_true rfl⟩) tw_876 rfl rfl (Nat.le_of_ble_eq_true rfl) dX12_counted_73 (Nat.zero_le _) ?_
  refine z_iret C E rfl dX12_counted_76 rfl (Nat.le_refl _) ⟨rfl, rfl⟩
set_option maxRecDepth 100000 in
set_option maxHeartbeats 4000000 in
theorem c_X12_counted4 (l : Launch) (B : zB) (s : zS) (t : zL) (h1 : r8 (s 114 1)) (h2 : r8 (s 114 2)) : zD l B mX12_counted s t [.ref (B.1 + 113), .int 4] (some (.int (s 114 5))) s t := by
  refine z_met (by decide) (Nat.le_of_ble_eq_true rfl) ?_
  intro X hl C E hnm
  show Zf X B mX12_counted s t 0 [(0, .ref (B.1 + 113)), (1, .int 4)] []
  refine z_iload_n C dX12_counted_0 1 rfl rfl ?_
  refine z_tableIn C (off := 76) 77 dX12_counted_1 (by decide) (by decide) (by decide) (by decide) ?_
  refine z_aload_n C dX12_counted_77 0 rfl rfl ?_
  refine f_get12 C 0 (v := .ref (B.1 + 114)) (by decide) tw_744 rfl zk_113 zb_113 rfl dX12_counted_78 ?_
  refine z_iconst C dX12_counted_81 ki_5 ?_
  refine f_ialdL C zk_114 zb_114 (by unfold vp_in; decide) (j := 5) (by decide) dX12_counted_82 ?_
  refine z_iret C E rfl dX12_counted_83 rfl (Nat.le_refl _) ⟨rfl, rfl⟩
set_option maxRecDepth 100000 in
set_option maxHeartbeats 4000000 in
theorem c_X12_counted5 (l : Launch) (B : zB) (s : zS) (t : zL) (h1 : r8 (s 114 1)) (h2 : r8 (s 114 2)) : zD l B mX12_counted s t [.ref (B.1 + 113), .int 5] (some (.int (s 114 7))) s t := by
  refine z_met (by decide) (Nat.le_of_ble_eq_true rfl) ?_
  intro X hl C E hnm
  show Zf X B mX12_counted s t 0 [(0, .ref (B.1 + 113)), (1, .int 5)] []
  refine z_iload_n C dX12_counted_0 1 rfl rfl ?_
  refine z_tableIn C (off := 83) 84 dX12_counted_1 (by decide) (by decide) (by decide) (by decide) ?_
  refine z_aload_n C dX12_counted_84 0 rfl rfl ?_
  refine f_get12 C 0 (v := .ref (B.1 + 114)) (by decide) tw_744 rfl zk_113 zb_113 rfl dX12_counted_85 ?_
  refine z_bipush C dX12_counted_88 kb_7 ?_
  refine f_ialdL C zk_114 zb_114 (by unfold vp_in; decide) (j := 7) (by decide) dX12_counted_90 ?_
  refine z_iret C E rfl dX12_counted_91 rfl (Nat.le_refl _) ⟨rfl, rfl⟩
set_option maxRecDepth 100000 in
set_option maxHeartbeats 4000000 in
theorem c_X12_counted6 (l : Launch) (B : zB) (s : zS) (t : zL) (h1 : r8 (s 114 1)) (h2 : r8 (s 114 2)) : zD l B mX12_counted s t [.ref (B.1 + 113), .int 6] (some (.int (s 114 8))) s t := by
  refine z_met (by decide) (Nat.le_of_ble_eq_true rfl) ?_
  intro X hl C E hnm
  show Zf X B mX12_counted s t 0 [(0, .ref (B.1 + 113)), (1, .int 6)] []
  refine z_iload_n C dX12_counted_0 1 rfl rfl ?_
  refine z_tableIn C (off := 91) 92 dX12_counted_1 (by decide) (by decide) (by decide) (by decide) ?_
  refine z_aload_n C dX12_counted_92 0 rfl rfl ?_
  refine f_get12 C 0 (v := .ref (B.1 + 114)) (by decide) tw_744 rfl zk_113 zb_113 rfl dX12_counted_93 ?_
  refine z_bipush C dX12_counted_96 kb_8 ?_
  refine f_ialdL C zk_114 zb_114 (by unfold vp_in; decide) (j := 8) (by decide) dX12_counted_98 ?_
  refine z_iret C E rfl dX12_counted_99 rfl (Nat.le_refl _) ⟨rfl, rfl⟩
set_option maxRecDepth 100000 in
set_option maxHeartbeats 4000000 in
theorem c_X12_counted7 (l : Launch) (B : zB) (s : zS) (t : zL) (h1 : r8 (s 114 1)) (h2 : r8 (s 114 2)) : zD l B mX12_counted s t [.ref (B.1 + 113), .int 7] (some (.int (s 113 12))) s t := by
  refine z_met (by decide) (Nat.le_of_ble_eq_true rfl) ?_
  intro X hl C E hnm
  show Zf X B mX12_counted s t 0 [(0, .ref (B.1 + 113)), (1, .int 7)] []
  refine z_iload_n C dX12_counted_0 1 rfl rfl ?_
  refine z_tableOut C 100 dX12_counted_1 (by decide) (by decide) ?_
  refine z_aload_n C dX12_counted_100 0 rfl rfl ?_
  refine f_get12 C 12 (v := .int (s 113 12)) (by decide) tw_756 rfl zk_113 zb_113 rfl dX12_counted_101 ?_
  refine z_iret C E rfl dX12_counted_104 rfl (Nat.le_refl _) ⟨rfl, rfl⟩
def mHow (s : zS) (w : Nat) : Int32 := [s 114 0, s 114 6, wPop (s 114 2), wPop (s 114 1), s 114 5, s 114 7, s 114 8, s 113 12].getD w 0
theorem c_X12_counted (l : Launch) (B : zB) (s : zS) (t : zL) (h1 : r8 (s 114 1)) (h2 : r8 (s 114 2)) (w : Nat) (hw : w < 8) : zD l B mX12_counted s t [.ref (B.1 + 113), .int (nI w)] (some (.int (mHow s w))) s t := by
  rcases (show w = 0 ∨ w = 1 ∨ w = 2 ∨ w = 3 ∨ w = 4 ∨ w = 5 ∨ w = 6 ∨ w = 7 by omega) with rfl | rfl | rfl | rfl | rfl | rfl | rfl | rfl
  · exact c_X12_counted0 l B s t h1 h2
  · exact c_X12_counted1 l B s t h1 h2
  · exact c_X12_counted2 l B s t h1 h2
  · exact c_X12_counted3 l B s t h1 h2
  · exact c_X12_counted4 l B s t h1 h2
  · exact c_X12_counted5 l B s t h1 h2
  · exact c_X12_counted6 l B s t h1 h2
  · exact c_X12_counted7 l B s t h1 h2
abbrev mX12_count : zM := (yX12_count, cX12_count, 2, (some .int), { frames := 2, cells := 0, slots := 0, locals := 43 })
set_option maxRecDepth 100000 in
set_option maxHeartbeats 4000000 in
theorem c_X12_count_bad (l : Launch) (B : zB) (s : zS) (t : zL) (w : Int32) (g : wIn w 7 = false) : zD l B mX12_count s t [.ref (B.1 + 113), .int w] (some (.int (-2))) (zu s 117 0 (s 117 0 + 1)) t := by
  refine z_met (by decide) (Nat.le_of_ble_eq_true rfl) ?_
  intro X hl C E hnm
  show Zf X B mX12_count s t 0 [(0, .ref (B.1 + 113)), (1, .int w)] []
  refine z_iload_n C dX12_count_0 1 rfl rfl ?_
  refine z_i2l C dX12_count_1 ?_
  refine z_lconst C dX12_count_2 kl_0 ?_
  refine z_ldc2 C dX12_count_3 tw_989 ?_
  refine f_callSr C hl (As := [.long ((w : Int32).toInt64), .long 0, .long 7]) (rest := []) (c_X12_in0 l B s t w 7 ((w : Int32).toInt64) 7 rfl (by decide)) (zCB (nA := 3) C rfl rfl tw_810 tw_13 tw_808 (by decide +kernel) ⟨Nat.le_of_ble_eq_true rfl, Nat.le_of_ble_eq_true rfl⟩) tw_809 rfl rfl (Nat.le_of_ble_eq_true rfl) dX12_count_6 (Nat.zero_le _) ?_
  refine z_ifb_eq C 20 dX12_count_9 (by decide) (fun _ => ?_) (fun hbr => Bool.noConfusion (show true = false from hbr.symm.trans g))
  refine z_aload_n C dX12_count_20 0 rfl rfl ?_
  refine z_bipush C dX12_count_21 kb_m2 ?_
  refine f_callVr C hl (As := [.int (-2)]) (rest := []) (c_X12_bad l B s t (-2)) zb_113 (zg_12 zk_113) rfl (zCB (nA := 1) C rfl rfl tw_814 tw_13 tw_811 (by decide +kernel) ⟨Nat.le_of_ble_eq_true rfl, Nat.le_of_ble_eq_true rfl⟩) tw_813 tp_26 rfl rfl (Nat.le_of_ble_eq_true rfl) dX12_count_23 (Nat.zero_le _) ?_
  refine z_iret C E rfl dX12_count_26 rfl (Nat.le_refl _) ⟨rfl, rfl⟩
set_option maxRecDepth 100000 in
set_option maxHeartbeats 4000000 in
theorem c_X12_count_ok (l : Launch) (B : zB) (s : zS) (t : zL) (h1 : r8 (s 114 1)) (h2 : r8 (s 114 2)) (w : Nat) (hw : w < 8) : zD l B mX12_count s t [.ref (B.1 + 113), .int (nI w)] (some (.int (mHow s w))) s t := by
  refine z_met (by decide) (Nat.le_of_ble_eq_true rfl) ?_
  intro X hl C E hnm
  show Zf X B mX12_count s t 0 [(0, .ref (B.1 + 113)), (1, .int (nI w))] []
  refine z_iload_n C dX12_count_0 1 rfl rfl ?_
  refine z_i2l C dX12_count_1 ?_
  refine z_lconst C dX12_count_2 kl_0 ?_
  refine z_ldc2 C dX12_count_3 tw_989 ?_
  refine f_callSr C hl (As := [.long ((nI w : Int32).toInt64), .long 0, .long 7]) (rest := []) (c_X12_in0 l B s t (nI w) 7 ((nI w : Int32).toInt64) 7 rfl (by decide)) (zCB (nA := 3) C rfl rfl tw_810 tw_13 tw_808 (by decide +kernel) ⟨Nat.le_of_ble_eq_true rfl, Nat.le_of_ble_eq_true rfl⟩) tw_809 rfl rfl (Nat.le_of_ble_eq_true rfl) dX12_count_6 (Nat.zero_le _) ?_
  refine z_ifb_eq C 20 dX12_count_9 (by decide) (fun hbr => absurd hbr (by rw [show wIn (nI w) 7 = true from wIn_nI (n := 7) (by omega) (by decide)]; decide)) (fun _ => ?_)
  refine z_aload_n C dX12_count_12 0 rfl rfl ?_
  refine z_iload_n C dX12_count_13 1 rfl rfl ?_
  refine f_callVr C hl (As := [.int (nI w)]) (rest := []) (c_X12_counted l B s t h1 h2 w hw) zb_113 (zg_12 zk_113) rfl (zCB (nA := 1) C rfl rfl tw_1097 tw_13 tw_1094 (by decide +kernel) ⟨Nat.le_of_ble_eq_true rfl, Nat.le_of_ble_eq_true rfl⟩) tw_1096 tp_55 rfl rfl (Nat.le_of_ble_eq_true rfl) dX12_count_14 (Nat.zero_le _) ?_
  refine z_goto C 26 dX12_count_17 (by decide) ?_
  refine z_iret C E rfl dX12_count_26 rfl (Nat.le_refl _) ⟨rfl, rfl⟩
abbrev mX12_clear : zM := (yX12_clear, cX12_clear, 2, (some .int), { frames := 0, cells := 0, slots := 0, locals := 0 })
set_option maxRecDepth 100000 in
set_option maxHeartbeats 4000000 in
theorem c_X12_clear (l : Launch) (B : zB) (s : zS) (t : zL)  : zD l B mX12_clear s t [.ref (B.1 + 113)] (some (.int (s 113 12))) (zu s 113 12 0) t := by
  refine z_met (by decide) (Nat.le_of_ble_eq_true rfl) ?_
  intro X hl C E hnm
  show Zf X B mX12_clear s t 0 [(0, .ref (B.1 + 113))] []
  refine z_aload_n C dX12_clear_0 0 rfl rfl ?_
  refine f_get12 C 12 (v := .int (s 113 12)) (by decide) tw_756 rfl zk_113 zb_113 rfl dX12_clear_1 ?_
  refine z_istore_n C [(1, .int (s 113 12)), (0, .ref (B.1 + 113))] dX12_clear_4 rfl (by decide) rfl ?_
  refine z_aload_n C dX12_clear_5 1 rfl rfl ?_
  refine z_iconst C dX12_clear_6 ki_0 ?_
  refine f_put12_12 C tw_756 zk_113 zb_113 dX12_clear_7 ?_
  refine z_iload_n C dX12_clear_10 0 rfl rfl ?_
  refine z_iret C E rfl dX12_clear_11 rfl (Nat.le_refl _) ⟨rfl, rfl⟩
abbrev mX12_type : zM := (yX12_type, cX12_type, 2, (some .int), { frames := 1, cells := 0, slots := 0, locals := 25 })
set_option maxRecDepth 100000 in
set_option maxHeartbeats 4000000 in
theorem c_X12_type_bad (l : Launch) (B : zB) (s : zS) (t : zL) (c : Int32) (g : wIn c 127 = false) : zD l B mX12_type s t [.ref (B.1 + 113), .int c] (some (.int (-2))) (zu s 117 0 (s 117 0 + 1)) t := by
  refine z_met (by decide) (Nat.le_of_ble_eq_true rfl) ?_
  intro X hl C E hnm
  show Zf X B mX12_type s t 0 [(0, .ref (B.1 + 113)), (1, .int c)] []
  refine z_iload_n C dX12_type_0 1 rfl rfl ?_
  refine z_i2l C dX12_type_1 ?_
  refine z_lconst C dX12_type_2 kl_0 ?_
  refine z_ldc2 C dX12_type_3 tw_1019 ?_
  refine f_callSr C hl (As := [.long ((c : Int32).toInt64), .long 0, .long 127]) (rest := []) (c_X12_in0 l B s t c 127 ((c : Int32).toInt64) 127 rfl (by decide)) (zCB (nA := 3) C rfl rfl tw_810 tw_13 tw_808 (by decide +kernel) ⟨Nat.le_of_ble_eq_true rfl, Nat.le_of_ble_eq_true rfl⟩) tw_809 rfl rfl (Nat.le_of_ble_eq_true rfl) dX12_type_6 (Nat.zero_le _) ?_
  refine z_ifb_ne C 19 dX12_type_9 (by decide) (fun hbr => absurd hbr (by rw [g]; decide)) (fun _ => ?_)
  refine z_aload_n C dX12_type_12 0 rfl rfl ?_
  refine z_bipush C dX12_type_13 kb_m2 ?_
  refine f_callVr C hl (As := [.int (-2)]) (rest := []) (c_X12_bad l B s t (-2)) zb_113 (zg_12 zk_113) rfl (zCB (nA := 1) C rfl rfl tw_814 tw_13 tw_811 (by decide +kernel) ⟨Nat.le_of_ble_eq_true rfl, Nat.le_of_ble_eq_true rfl⟩) tw_813 tp_26 rfl rfl (Nat.le_of_ble_eq_true rfl) dX12_type_15 (Nat.zero_le _) ?_
  refine z_iret C E rfl dX12_type_18 rfl (Nat.le_refl _) ⟨rfl, rfl⟩
set_option maxRecDepth 100000 in
set_option maxHeartbeats 4000000 in
theorem c_X12_type_full (l : Launch) (B : zB) (s : zS) (t : zL) (c : Int32) (g : wIn c 127 = true) (hc : s 113 12 = 150) : zD l B mX12_type s t [.ref (B.1 + 113), .int c] (some (.int (-4))) (zu s 117 2 (s 117 2 + 1)) t := by
  refine z_met (by decide) (Nat.le_of_ble_eq_true rfl) ?_
  intro X hl C E hnm
  show Zf X B mX12_type s t 0 [(0, .ref (B.1 + 113)), (1, .int c)] []
  refine z_iload_n C dX12_type_0 1 rfl rfl ?_
  refine z_i2l C dX12_type_1 ?_
  refine z_lconst C dX12_type_2 kl_0 ?_
  refine z_ldc2 C dX12_type_3 tw_1019 ?_
  refine f_callSr C hl (As := [.long ((c : Int32).toInt64), .long 0, .long 127]) (rest := []) (c_X12_in0 l B s t c 127 ((c : Int32).toInt64) 127 rfl (by decide)) (zCB (nA := 3) C rfl rfl tw_810 tw_13 tw_808 (by decide +kernel) ⟨Nat.le_of_ble_eq_true rfl, Nat.le_of_ble_eq_true rfl⟩) tw_809 rfl rfl (Nat.le_of_ble_eq_true rfl) dX12_type_6 (Nat.zero_le _) ?_
  refine z_ifb_ne C 19 dX12_type_9 (by decide) (fun _ => ?_) (fun hbr => Bool.noConfusion (show false = true from hbr.symm.trans g))
  refine z_aload_n C dX12_type_19 0 rfl rfl ?_
  refine f_get12 C 12 (v := .int (s 113 12)) (by decide) tw_756 rfl zk_113 zb_113 rfl dX12_type_20 ?_
  refine f_topi (y := 150) hc ?_
  refine z_sipush C dX12_type_23 ks_150 ?_
  refine z_icmp_ne C 34 dX12_type_26 (by decide) (fun hbr => absurd (by decide) hbr) (fun _ => ?_)
  refine z_aload_n C dX12_type_29 0 rfl rfl ?_
  refine f_callVr C hl (As := []) (rest := []) (c_X12_full l B s t) zb_113 (zg_12 zk_113) rfl (zCB (nA := 0) C rfl rfl tw_832 tw_13 tw_829 (by decide +kernel) ⟨Nat.le_of_ble_eq_true rfl, Nat.le_of_ble_eq_true rfl⟩) tw_831 tp_28 rfl rfl (Nat.le_of_ble_eq_true rfl) dX12_type_30 (Nat.zero_le _) ?_
  refine z_iret C E rfl dX12_type_33 rfl (Nat.le_refl _) ⟨rfl, rfl⟩
set_option maxRecDepth 100000 in
set_option maxHeartbeats 4000000 in
theorem c_X12_type_ok (l : Launch) (B : zB) (s : zS) (t : zL) (c : Int32) (g : wIn c 127 = true) (n : Nat) (hn : n < 150) (hc : s 113 12 = nI n) : zD l B mX12_type s t [.ref (B.1 + 113), .int c] (some (.int (nI (n + 1)))) (zu (zu s 121 n c) 113 12 (nI (n + 1))) t := by
  refine z_met (by decide) (Nat.le_of_ble_eq_true rfl) ?_
  intro X hl C E hnm
  show Zf X B mX12_type s t 0 [(0, .ref (B.1 + 113)), (1, .int c)] []
  refine z_iload_n C dX12_type_0 1 rfl rfl ?_
  refine z_i2l C dX12_type_1 ?_
  refine z_lconst C dX12_type_2 kl_0 ?_
  refine z_ldc2 C dX12_type_3 tw_1019 ?_
  refine f_callSr C hl (As := [.long ((c : Int32).toInt64), .long 0, .long 127]) (rest := []) (c_X12_in0 l B s t c 127 ((c : Int32).toInt64) 127 rfl (by decide)) (zCB (nA := 3) C rfl rfl tw_810 tw_13 tw_808 (by decide +kernel) ⟨Nat.le_of_ble_eq_true rfl, Nat.le_of_ble_eq_true rfl⟩) tw_809 rfl rfl (Nat.le_of_ble_eq_true rfl) dX12_type_6 (Nat.zero_le _) ?_
  refine z_ifb_ne C 19 dX12_type_9 (by decide) (fun _ => ?_) (fun hbr => Bool.noConfusion (show false = true from hbr.symm.trans g))
  refine z_aload_n C dX12_type_19 0 rfl rfl ?_
  refine f_get12 C 12 (v := .int (s 113 12)) (by decide) tw_756 rfl zk_113 zb_113 rfl dX12_type_20 ?_
  refine f_topi (y := nI n) hc ?_
  refine z_sipush C dX12_type_23 ks_150 ?_
  refine z_icmp_ne C 34 dX12_type_26 (by decide) (fun _ => ?_) (fun hbr => absurd hbr (fun q => absurd ((nI_eq (by omega) (by decide)).mp (show nI n = nI 150 from q)) (by omega)))
  refine z_aload_n C dX12_type_34 0 rfl rfl ?_
  refine f_get12 C 11 (v := .ref (B.1 + 121)) (by decide) tw_755 rfl zk_113 zb_113 rfl dX12_type_35 ?_
  refine z_aload_n C dX12_type_38 0 rfl rfl ?_
  refine f_get12 C 12 (v := .int (s 113 12)) (by decide) tw_756 rfl zk_113 zb_113 rfl dX12_type_39 ?_
  refine f_topi (y := nI n) hc ?_
  refine z_iload_n C dX12_type_42 1 rfl rfl ?_
  refine f_iastL C zk_121 zb_121 (ixN (n := 150) rfl (by omega) (by decide)).1 (j := n) (ixN (n := 150) rfl (by omega) (by decide)).2 dX12_type_43 ?_
  refine z_aload_n C dX12_type_44 0 rfl rfl ?_
  refine z_dup C dX12_type_45 rfl ?_
  refine f_get12 C 12 (v := .int ((zu s 121 n c) 113 12)) (by decide) tw_756 rfl zk_113 zb_113 rfl dX12_type_46 ?_
  refine f_topi (y := nI n) (by rw [zu_row _ _ (by decide)]; exact hc) ?_
  refine z_iconst C dX12_type_49 ki_1 ?_
  refine z_iadd C dX12_type_50 ?_
  refine f_topi (y := nI (n + 1)) (nI_1 n) ?_
  refine f_put12_12 C tw_756 zk_113 zb_113 dX12_type_51 ?_
  refine z_aload_n C dX12_type_54 0 rfl rfl ?_
  refine f_get12 C 12 (v := .int ((zu (zu s 121 n c) 113 12 (nI (n + 1))) 113 12)) (by decide) tw_756 rfl zk_113 zb_113 rfl dX12_type_55 ?_
  refine f_topi (y := nI (n + 1)) (zu_same _ _ _ _) ?_
  refine z_iret C E rfl dX12_type_58 rfl (Nat.le_refl _) ⟨rfl, rfl⟩
