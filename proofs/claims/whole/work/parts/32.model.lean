/-- the hand that the model has laid -/
def wHd (s : zS) (N : Nat) (K Lo Ha : Nat → Int32) (sl dy : Int32) : Prop := s 114 0 = nI N ∧ N ≤ 6 ∧ (∀ d, d < N → s 118 d = K d ∧ s 119 d = Lo d ∧ s 120 d = Ha d) ∧ (∀ d, d < N → ∃ c, c < 6 ∧ K d = nI c) ∧ s 113 9 = sl ∧ r8 sl ∧ s 113 10 = dy
theorem wWho_y {K L H : Nat → Int32} {sl d bu a : Int32} {n : Nat} (ha : a = wWho K L H sl d bu n) (h1 : sl &&& wBit (nI n) = 0) (h2 : wStop (K n) (L n) (H n) bu d = true) : a ||| wBit (nI n) = wWho K L H sl d bu (n + 1) := by rw [wWho, if_pos ⟨h1, h2⟩, ha]
theorem wWho_n1 {K L H : Nat → Int32} {sl d bu a : Int32} {n : Nat} (ha : a = wWho K L H sl d bu n) (h1 : ¬ sl &&& wBit (nI n) = 0) : a ||| 0 = wWho K L H sl d bu (n + 1) := by rw [wWho, if_neg (fun q => h1 q.1), ha, Int32.or_zero]
theorem wWho_n2 {K L H : Nat → Int32} {sl d bu a : Int32} {n : Nat} (ha : a = wWho K L H sl d bu n) (h2 : wStop (K n) (L n) (H n) bu d = false) : a ||| 0 = wWho K L H sl d bu (n + 1) := by rw [wWho, if_neg (fun q => by rw [h2] at q; exact absurd q.2 (by decide)), ha, Int32.or_zero]
theorem wSum_y {K P : Nat → Int32} {w a : Int32} {n : Nat} (ha : a = wSum K P w n) (h : ¬ w &&& wBit (nI n) = 0) : a + wCost (K n) (P n) = wSum K P w (n + 1) := by rw [wSum, if_neg h, ha]
theorem wSum_n {K P : Nat → Int32} {w a : Int32} {n : Nat} (ha : a = wSum K P w n) (h : w &&& wBit (nI n) = 0) : a + 0 = wSum K P w (n + 1) := by rw [wSum, if_pos h, ha, Int32.add_zero]
theorem free_eq (a b : Int32) : 255 &&& (a ^^^ (-1)) &&& (b ^^^ (-1)) = 255 &&& ((a ||| b) ^^^ (-1)) := by
  rw [Int32.and_assoc]
  congr 1
  rw [Int32.xor_neg_one, Int32.xor_neg_one, Int32.xor_neg_one]
  apply Int32.toBitVec_inj.mp
  simp only [Int32.toBitVec_and, Int32.toBitVec_or, Int32.toBitVec_not]
  exact BitVec.not_or.symm
abbrev mX12_joyOf : zM := (yX12_joyOf, cX12_joyOf, 4, (some .int), { frames := 1, cells := 0, slots := 0, locals := 22 })
set_option maxRecDepth 100000 in
set_option maxHeartbeats 4000000 in
theorem c_X12_joyOf (l : Launch) (B : zB) (s : zS) (t : zL) (i : Nat) (hi : i < 6) (k lo ha : Int32) (e1 : s 118 i = k) (e2 : s 119 i = lo) (e3 : s 120 i = ha) (bu : Int32) (hb : r8 bu) : zD l B mX12_joyOf s t [.ref (B.1 + 113), .int (nI i), .int bu] (some (.int (wJoy k (wPop (lo &&& bu)) (wPop (ha &&& bu))))) s t := by
  refine z_met (by decide) (Nat.le_of_ble_eq_true rfl) ?_
  intro X hl C E hnm
  show Zf X B mX12_joyOf s t 0 [(0, .ref (B.1 + 113)), (1, .int (nI i)), (2, .int bu)] []
  refine z_iconst C dX12_joyOf_0 ki_2 ?_
  refine z_iload_n C dX12_joyOf_1 2 rfl rfl ?_
  refine z_aload_n C dX12_joyOf_2 0 rfl rfl ?_
  refine f_get12 C 7 (v := .ref (B.1 + 119)) (by decide) tw_751 rfl zk_113 zb_113 rfl dX12_joyOf_3 ?_
  refine z_iload_n C dX12_joyOf_6 1 rfl rfl ?_
  refine f_ialdL C zk_119 zb_119 (ixN (n := 6) rfl (by omega) (by decide)).1 (j := i) (ixN (n := 6) rfl (by omega) (by decide)).2 dX12_joyOf_7 ?_
  refine z_iand C dX12_joyOf_8 ?_
  refine f_topi (y := lo &&& bu) (by rw [e2, Int32.and_comm]) ?_
  refine f_callSr C hl (As := [.int (lo &&& bu)]) (rest := [.int 2]) (c_X12_bits l B s t (lo &&& bu) (r8_and' hb)) (zCB (nA := 1) C rfl rfl tw_877 tw_13 tw_875 (by decide +kernel) ⟨Nat.le_of_ble_eq_true rfl, Nat.le_of_ble_eq_true rfl⟩) tw_876 rfl rfl (Nat.le_of_ble_eq_true rfl) dX12_joyOf_9 (Nat.zero_le _) ?_
  refine z_imul C dX12_joyOf_12 ?_
  refine z_iconst C dX12_joyOf_13 ki_3 ?_
  refine z_iload_n C dX12_joyOf_14 2 rfl rfl ?_
  refine z_aload_n C dX12_joyOf_15 0 rfl rfl ?_
  refine f_get12 C 8 (v := .ref (B.1 + 120)) (by decide) tw_752 rfl zk_113 zb_113 rfl dX12_joyOf_16 ?_
  refine z_iload_n C dX12_joyOf_19 1 rfl rfl ?_
  refine f_ialdL C zk_120 zb_120 (ixN (n := 6) rfl (by omega) (by decide)).1 (j := i) (ixN (n := 6) rfl (by omega) (by decide)).2 dX12_joyOf_20 ?_
  refine z_iand C dX12_joyOf_21 ?_
  refine f_topi (y := ha &&& bu) (by rw [e3, Int32.and_comm]) ?_
  refine f_callSr C hl (As := [.int (ha &&& bu)]) (rest := [.int 3, .int (2 * (wPop (lo &&& bu)))]) (c_X12_bits l B s t (ha &&& bu) (r8_and' hb)) (zCB (nA := 1) C rfl rfl tw_877 tw_13 tw_875 (by decide +kernel) ⟨Nat.le_of_ble_eq_true rfl, Nat.le_of_ble_eq_true rfl⟩) tw_876 rfl rfl (Nat.le_of_ble_eq_true rfl) dX12_joyOf_22 (Nat.zero_le _) ?_
  refine z_imul C dX12_joyOf_25 ?_
  refine z_isub C dX12_joyOf_26 ?_
  refine z_istore_n C [(3, .int ((2 * (wPop (lo &&& bu))) - (3 * (wPop (ha &&& bu))))), (0, .ref (B.1 + 113)), (1, .int (nI i)), (2, .int bu)] dX12_joyOf_27 rfl (by decide) rfl ?_
  refine z_aload_n C dX12_joyOf_28 1 rfl rfl ?_
  refine f_get12 C 6 (v := .ref (B.1 + 118)) (by decide) tw_750 rfl zk_113 zb_113 rfl dX12_joyOf_29 ?_
  refine z_iload_n C dX12_joyOf_32 2 rfl rfl ?_
  refine f_ialdL C zk_118 zb_118 (ixN (n := 6) rfl (by omega) (by decide)).1 (j := i) (ixN (n := 6) rfl (by omega) (by decide)).2 dX12_joyOf_33 ?_
  refine f_topi (y := k) e1 ?_
  refine z_iconst C dX12_joyOf_34 ki_2 ?_
  refine z_icmp_eq C 48 dX12_joyOf_35 (by decide) (fun h35 => ?_) (fun h35 => ?_)
  · refine z_iload_n C dX12_joyOf_48 0 rfl rfl ?_
    refine z_iconst C dX12_joyOf_49 ki_2 ?_
    refine z_iadd C dX12_joyOf_50 ?_
    refine z_goto C 55 dX12_joyOf_51 (by decide) ?_
    refine z_iret C E rfl dX12_joyOf_55 rfl (Nat.le_refl _) ⟨by rw [wJoy, if_pos (Or.inl h35)], rfl⟩
  · refine z_aload_n C dX12_joyOf_38 1 rfl rfl ?_
    refine f_get12 C 6 (v := .ref (B.1 + 118)) (by decide) tw_750 rfl zk_113 zb_113 rfl dX12_joyOf_39 ?_
    refine z_iload_n C dX12_joyOf_42 2 rfl rfl ?_
    refine f_ialdL C zk_118 zb_118 (ixN (n := 6) rfl (by omega) (by decide)).1 (j := i) (ixN (n := 6) rfl (by omega) (by decide)).2 dX12_joyOf_43 ?_
    refine f_topi (y := k) e1 ?_
    refine z_iconst C dX12_joyOf_44 ki_4 ?_
    refine z_icmp_ne C 54 dX12_joyOf_45 (by decide) (fun h45 => ?_) (fun h45 => ?_)
    · refine z_iload_n C dX12_joyOf_54 0 rfl rfl ?_
      refine z_iret C E rfl dX12_joyOf_55 rfl (Nat.le_refl _) ⟨by rw [wJoy, if_neg (fun q => q.elim h35 h45)], rfl⟩
    · refine z_iload_n C dX12_joyOf_48 0 rfl rfl ?_
      refine z_iconst C dX12_joyOf_49 ki_2 ?_
      refine z_iadd C dX12_joyOf_50 ?_
      refine z_goto C 55 dX12_joyOf_51 (by decide) ?_
      refine z_iret C E rfl dX12_joyOf_55 rfl (Nat.le_refl _) ⟨by rw [wJoy, if_pos (Or.inr h45)], rfl⟩
abbrev mX12_stopsOf : zM := (yX12_stopsOf, cX12_stopsOf, 5, (some .boolean), { frames := 2, cells := 0, slots := 0, locals := 45 })
set_option maxRecDepth 100000 in
set_option maxHeartbeats 4000000 in
theorem c_X12_stopsOf0 (l : Launch) (B : zB) (s : zS) (t : zL) (i : Nat) (hi : i < 6) (k lo ha dy : Int32) (e1 : s 118 i = k) (e2 : s 119 i = lo) (e3 : s 120 i = ha) (e4 : s 113 10 = dy) (bu : Int32) (hb : r8 bu) (ek : k = 0) : zD l B mX12_stopsOf s t [.ref (B.1 + 113), .int (nI i), .int bu] (some (.int (zi (wStop k lo ha bu dy)))) s t := by
  refine z_met (by decide) (Nat.le_of_ble_eq_true rfl) ?_
  intro X hl C E hnm
  show Zf X B mX12_stopsOf s t 0 [(0, .ref (B.1 + 113)), (1, .int (nI i)), (2, .int bu)] []
  refine z_aload_n C dX12_stopsOf_0 0 rfl rfl ?_
  refine z_iload_n C dX12_stopsOf_1 1 rfl rfl ?_
  refine z_iload_n C dX12_stopsOf_2 2 rfl rfl ?_
  refine f_callVr C hl (As := [.int (nI i), .int bu]) (rest := []) (c_X12_joyOf l B s t i hi k lo ha e1 e2 e3 bu hb) zb_113 (zg_12 zk_113) rfl (zCB (nA := 2) C rfl rfl tw_874 tw_13 tw_871 (by decide +kernel) ⟨Nat.le_of_ble_eq_true rfl, Nat.le_of_ble_eq_true rfl⟩) tw_873 tp_36 rfl rfl (Nat.le_of_ble_eq_true rfl) dX12_stopsOf_3 (Nat.zero_le _) ?_
  refine z_if_ge C 13 dX12_stopsOf_6 (by decide) (fun h6 => ?_) (fun h6 => ?_)
  · refine z_iconst C dX12_stopsOf_13 ki_0 ?_
    refine z_istore_n C [(3, .int 0), (0, .ref (B.1 + 113)), (1, .int (nI i)), (2, .int bu)] dX12_stopsOf_14 rfl (by decide) rfl ?_
    refine z_iload_n C dX12_stopsOf_15 0 rfl rfl ?_
    refine z_if_ne C 30 dX12_stopsOf_16 (by decide) (fun hbr => absurd (by decide) hbr) (fun _ => ?_)
    refine z_iload_n C dX12_stopsOf_19 3 rfl rfl ?_
    refine z_aload_n C dX12_stopsOf_20 1 rfl rfl ?_
    refine f_get12 C 8 (v := .ref (B.1 + 120)) (by decide) tw_752 rfl zk_113 zb_113 rfl dX12_stopsOf_21 ?_
    refine z_iload_n C dX12_stopsOf_24 2 rfl rfl ?_
    refine f_ialdL C zk_120 zb_120 (ixN (n := 6) rfl (by omega) (by decide)).1 (j := i) (ixN (n := 6) rfl (by omega) (by decide)).2 dX12_stopsOf_25 ?_
    refine z_iand C dX12_stopsOf_26 ?_
    refine f_topi (y := ha &&& bu) (by rw [e3, Int32.and_comm]) ?_
    refine z_if_eq C 34 dX12_stopsOf_27 (by decide) (fun h27 => ?_) (fun h27 => ?_)
    · refine z_iconst C dX12_stopsOf_34 ki_0 ?_
      refine z_istore C [(4, .int 0), (3, .int 0), (0, .ref (B.1 + 113)), (1, .int (nI i)), (2, .int bu)] dX12_stopsOf_35 (by decide) rfl ?_
      refine z_iload_n C dX12_stopsOf_37 4 rfl rfl ?_
      refine z_if_ne C 43 dX12_stopsOf_38 (by decide) (fun h38 => ?_) (fun h38 => ?_)
      · refine z_aload_n C dX12_stopsOf_43 2 rfl rfl ?_
        refine f_get12 C 6 (v := .ref (B.1 + 118)) (by decide) tw_750 rfl zk_113 zb_113 rfl dX12_stopsOf_44 ?_
        refine z_iload_n C dX12_stopsOf_47 3 rfl rfl ?_
        refine f_ialdL C zk_118 zb_118 (ixN (n := 6) rfl (by omega) (by decide)).1 (j := i) (ixN (n := 6) rfl (by omega) (by decide)).2 dX12_stopsOf_48 ?_
        refine f_topi (y := 0) (e1.trans ek) ?_
        refine z_tableOut C 126 dX12_stopsOf_49 (by decide) (by decide) ?_
        refine z_iload_n C dX12_stopsOf_126 1 rfl rfl ?_
        have hpp : ¬ 0 < wPop (ha &&& bu) := fun q => (pop_pos (r8_and' hb)).mp q h27
        refine z_zret C E rfl dX12_stopsOf_127 rfl rfl (Nat.le_refl _) ⟨by subst ek; simp [wStop, wRef, zi, Int32.not_lt.mpr h6, hpp, h38], rfl⟩
      · refine z_iconst C dX12_stopsOf_41 ki_0 ?_
        have hpp : ¬ 0 < wPop (ha &&& bu) := fun q => (pop_pos (r8_and' hb)).mp q h27
        refine z_zret C E rfl dX12_stopsOf_42 rfl rfl (Nat.le_refl _) ⟨by subst ek; simp [wStop, wRef, zi, Int32.not_lt.mpr h6, hpp, h38], rfl⟩
    · refine z_iconst C dX12_stopsOf_30 ki_1 ?_
      refine z_goto C 35 dX12_stopsOf_31 (by decide) ?_
      refine z_istore C [(4, .int 1), (3, .int 0), (0, .ref (B.1 + 113)), (1, .int (nI i)), (2, .int bu)] dX12_stopsOf_35 (by decide) rfl ?_
      refine z_iload_n C dX12_stopsOf_37 4 rfl rfl ?_
      refine z_if_ne C 43 dX12_stopsOf_38 (by decide) (fun h38 => ?_) (fun h38 => ?_)
      · refine z_aload_n C dX12_stopsOf_43 2 rfl rfl ?_
        refine f_get12 C 6 (v := .ref (B.1 + 118)) (by decide) tw_750 rfl zk_113 zb_113 rfl dX12_stopsOf_44 ?_
        refine z_iload_n C dX12_stopsOf_47 3 rfl rfl ?_
        refine f_ialdL C zk_118 zb_118 (ixN (n := 6) rfl (by omega) (by decide)).1 (j := i) (ixN (n := 6) rfl (by omega) (by decide)).2 dX12_stopsOf_48 ?_
        refine f_topi (y := 0) (e1.trans ek) ?_
        refine z_tableOut C 126 dX12_stopsOf_49 (by decide) (by decide) ?_
        refine z_iload_n C dX12_stopsOf_126 1 rfl rfl ?_
        have hpp : 0 < wPop (ha &&& bu) := (pop_pos (r8_and' hb)).mpr h27
        refine z_zret C E rfl dX12_stopsOf_127 rfl rfl (Nat.le_refl _) ⟨by subst ek; simp [wStop, wRef, zi, Int32.not_lt.mpr h6, hpp, h38], rfl⟩
      · refine z_iconst C dX12_stopsOf_41 ki_0 ?_
        have hpp : 0 < wPop (ha &&& bu) := (pop_pos (r8_and' hb)).mpr h27
        refine z_zret C E rfl dX12_stopsOf_42 rfl rfl (Nat.le_refl _) ⟨by subst ek; simp [wStop, wRef, zi, Int32.not_lt.mpr h6, hpp, h38], rfl⟩
  · refine z_iconst C dX12_stopsOf_9 ki_1 ?_
    refine z_goto C 14 dX12_stopsOf_10 (by decide) ?_
    refine z_istore_n C [(3, .int 1), (0, .ref (B.1 + 113)), (1, .int (nI i)), (2, .int bu)] dX12_stopsOf_14 rfl (by decide) rfl ?_
    refine z_iload_n C dX12_stopsOf_15 0 rfl rfl ?_
    refine z_if_ne C 30 dX12_stopsOf_16 (by decide) (fun _ => ?_) (fun hbr => absurd hbr (by decide))
    refine z_iconst C dX12_stopsOf_30 ki_1 ?_
    refine z_goto C 35 dX12_stopsOf_31 (by decide) ?_
    refine z_istore C [(4, .int 1), (3, .int 1), (0, .ref (B.1 + 113)), (1, .int (nI i)), (2, .int bu)] dX12_stopsOf_35 (by decide) rfl ?_
    refine z_iload_n C dX12_stopsOf_37 4 rfl rfl ?_
    refine z_if_ne C 43 dX12_stopsOf_38 (by decide) (fun h38 => ?_) (fun h38 => ?_)
    · refine z_aload_n C dX12_stopsOf_43 2 rfl rfl ?_
      refine f_get12 C 6 (v := .ref (B.1 + 118)) (by decide) tw_750 rfl zk_113 zb_113 rfl dX12_stopsOf_44 ?_
      refine z_iload_n C dX12_stopsOf_47 3 rfl rfl ?_
      refine f_ialdL C zk_118 zb_118 (ixN (n := 6) rfl (by omega) (by decide)).1 (j := i) (ixN (n := 6) rfl (by omega) (by decide)).2 dX12_stopsOf_48 ?_
      refine f_topi (y := 0) (e1.trans ek) ?_
      refine z_tableOut C 126 dX12_stopsOf_49 (by decide) (by decide) ?_
      refine z_iload_n C dX12_stopsOf_126 1 rfl rfl ?_
      refine z_zret C E rfl dX12_stopsOf_127 rfl rfl (Nat.le_refl _) ⟨by subst ek; simp [wStop, wRef, zi, Int32.not_le.mp h6, h38], rfl⟩
    · refine z_iconst C dX12_stopsOf_41 ki_0 ?_
      refine z_zret C E rfl dX12_stopsOf_42 rfl rfl (Nat.le_refl _) ⟨by subst ek; simp [wStop, wRef, zi, Int32.not_le.mp h6, h38], rfl⟩
set_option maxRecDepth 100000 in
set_option maxHeartbeats 4000000 in
theorem c_X12_stopsOf1 (l : Launch) (B : zB) (s : zS) (t : zL) (i : Nat) (hi : i < 6) (k lo ha dy : Int32) (e1 : s 118 i = k) (e2 : s 119 i = lo) (e3 : s 120 i = ha) (e4 : s 113 10 = dy) (bu : Int32) (hb : r8 bu) (ek : k = 1) : zD l B mX12_stopsOf s t [.ref (B.1 + 113), .int (nI i), .int bu] (some (.int (zi (wStop k lo ha bu dy)))) s t := by
  refine z_met (by decide) (Nat.le_of_ble_eq_true rfl) ?_
  intro X hl C E hnm
  show Zf X B mX12_stopsOf s t 0 [(0, .ref (B.1 + 113)), (1, .int (nI i)), (2, .int bu)] []
  refine z_aload_n C dX12_stopsOf_0 0 rfl rfl ?_
  refine z_iload_n C dX12_stopsOf_1 1 rfl rfl ?_
  refine z_iload_n C dX12_stopsOf_2 2 rfl rfl ?_
  refine f_callVr C hl (As := [.int (nI i), .int bu]) (rest := []) (c_X12_joyOf l B s t i hi k lo ha e1 e2 e3 bu hb) zb_113 (zg_12 zk_113) rfl (zCB (nA := 2) C rfl rfl tw_874 tw_13 tw_871 (by decide +kernel) ⟨Nat.le_of_ble_eq_true rfl, Nat.le_of_ble_eq_true rfl⟩) tw_873 tp_36 rfl rfl (Nat.le_of_ble_eq_true rfl) dX12_stopsOf_3 (Nat.zero_le _) ?_
  refine z_if_ge C 13 dX12_stopsOf_6 (by decide) (fun h6 => ?_) (fun h6 => ?_)
  · refine z_iconst C dX12_stopsOf_13 ki_0 ?_
    refine z_istore_n C [(3, .int 0), (0, .ref (B.1 + 113)), (1, .int (nI i)), (2, .int bu)] dX12_stopsOf_14 rfl (by decide) rfl ?_
    refine z_iload_n C dX12_stopsOf_15 0 rfl rfl ?_
    refine z_if_ne C 30 dX12_stopsOf_16 (by decide) (fun hbr => absurd (by decide) hbr) (fun _ => ?_)
    refine z_iload_n C dX12_stopsOf_19 3 rfl rfl ?_
    refine z_aload_n C dX12_stopsOf_20 1 rfl rfl ?_
    refine f_get12 C 8 (v := .ref (B.1 + 120)) (by decide) tw_752 rfl zk_113 zb_113 rfl dX12_stopsOf_21 ?_
    refine z_iload_n C dX12_stopsOf_24 2 rfl rfl ?_
    refine f_ialdL C zk_120 zb_120 (ixN (n := 6) rfl (by omega) (by decide)).1 (j := i) (ixN (n := 6) rfl (by omega) (by decide)).2 dX12_stopsOf_25 ?_
    refine z_iand C dX12_stopsOf_26 ?_
    refine f_topi (y := ha &&& bu) (by rw [e3, Int32.and_comm]) ?_
    refine z_if_eq C 34 dX12_stopsOf_27 (by decide) (fun h27 => ?_) (fun h27 => ?_)
    · refine z_iconst C dX12_stopsOf_34 ki_0 ?_
      refine z_istore C [(4, .int 0), (3, .int 0), (0, .ref (B.1 + 113)), (1, .int (nI i)), (2, .int bu)] dX12_stopsOf_35 (by decide) rfl ?_
      refine z_iload_n C dX12_stopsOf_37 4 rfl rfl ?_
      refine z_if_ne C 43 dX12_stopsOf_38 (by decide) (fun h38 => ?_) (fun h38 => ?_)
      · refine z_aload_n C dX12_stopsOf_43 2 rfl rfl ?_
        refine f_get12 C 6 (v := .ref (B.1 + 118)) (by decide) tw_750 rfl zk_113 zb_113 rfl dX12_stopsOf_44 ?_
        refine z_iload_n C dX12_stopsOf_47 3 rfl rfl ?_
        refine f_ialdL C zk_118 zb_118 (ixN (n := 6) rfl (by omega) (by decide)).1 (j := i) (ixN (n := 6) rfl (by omega) (by decide)).2 dX12_stopsOf_48 ?_
        refine f_topi (y := 1) (e1.trans ek) ?_
        refine z_tableIn C (off := 35) 84 dX12_stopsOf_49 (by decide) (by decide) (by decide) (by decide) ?_
        refine z_iload C dX12_stopsOf_84 0 rfl ?_
        have hpp : ¬ 0 < wPop (ha &&& bu) := fun q => (pop_pos (r8_and' hb)).mp q h27
        refine z_zret C E rfl dX12_stopsOf_86 rfl rfl (Nat.le_refl _) ⟨by subst ek; simp [wStop, wRef, zi, Int32.not_lt.mpr h6, hpp, h38], rfl⟩
      · refine z_iconst C dX12_stopsOf_41 ki_0 ?_
        have hpp : ¬ 0 < wPop (ha &&& bu) := fun q => (pop_pos (r8_and' hb)).mp q h27
        refine z_zret C E rfl dX12_stopsOf_42 rfl rfl (Nat.le_refl _) ⟨by subst ek; simp [wStop, wRef, zi, Int32.not_lt.mpr h6, hpp, h38], rfl⟩
    · refine z_iconst C dX12_stopsOf_30 ki_1 ?_
      refine z_goto C 35 dX12_stopsOf_31 (by decide) ?_
      refine z_istore C [(4, .int 1), (3, .int 0), (0, .ref (B.1 + 113)), (1, .int (nI i)), (2, .int bu)] dX12_stopsOf_35 (by decide) rfl ?_
      refine z_iload_n C dX12_stopsOf_37 4 rfl rfl ?_
      refine z_if_ne C 43 dX12_stopsOf_38 (by decide) (fun h38 => ?_) (fun h38 => ?_)
      · refine z_aload_n C dX12_stopsOf_43 2 rfl rfl ?_
        refine f_get12 C 6 (v := .ref (B.1 + 118)) (by decide) tw_750 rfl zk_113 zb_113 rfl dX12_stopsOf_44 ?_
        refine z_iload_n C dX12_stopsOf_47 3 rfl rfl ?_
        refine f_ialdL C zk_118 zb_118 (ixN (n := 6) rfl (by omega) (by decide)).1 (j := i) (ixN (n := 6) rfl (by omega) (by decide)).2 dX12_stopsOf_48 ?_
        refine f_topi (y := 1) (e1.trans ek) ?_
        refine z_tableIn C (off := 35) 84 dX12_stopsOf_49 (by decide) (by decide) (by decide) (by decide) ?_
        refine z_iload C dX12_stopsOf_84 0 rfl ?_
        have hpp : 0 < wPop (ha &&& bu) := (pop_pos (r8_and' hb)).mpr h27
        refine z_zret C E rfl dX12_stopsOf_86 rfl rfl (Nat.le_refl _) ⟨by subst ek; simp [wStop, wRef, zi, Int32.not_lt.mpr h6, hpp, h38], rfl⟩
      · refine z_iconst C dX12_stopsOf_41 ki_0 ?_
        have hpp : 0 < wPop (ha &&& bu) := (pop_pos (r8_and' hb)).mpr h27
        refine z_zret C E rfl dX12_stopsOf_42 rfl rfl (Nat.le_refl _) ⟨by subst ek; simp [wStop, wRef, zi, Int32.not_lt.mpr h6, hpp, h38], rfl⟩
  · refine z_iconst C dX12_stopsOf_9 ki_1 ?_
    refine z_goto C 14 dX12_stopsOf_10 (by decide) ?_
    refine z_istore_n C [(3, .int 1), (0, .ref (B.1 + 113)), (1, .int (nI i)), (2, .int bu)] dX12_stopsOf_14 rfl (by decide) rfl ?_
    refine z_iload_n C dX12_stopsOf_15 0 rfl rfl ?_
    refine z_if_ne C 30 dX12_stopsOf_16 (by decide) (fun _ => ?_) (fun hbr => absurd hbr (by decide))
    refine z_iconst C dX12_stopsOf_30 ki_1 ?_
    refine z_goto C 35 dX12_stopsOf_31 (by decide) ?_
    refine z_istore C [(4, .int 1), (3, .int 1), (0, .ref (B.1 + 113)), (1, .int (nI i)), (2, .int bu)] dX12_stopsOf_35 (by decide) rfl ?_
    refine z_iload_n C dX12_stopsOf_37 4 rfl rfl ?_
    refine z_if_ne C 43 dX12_stopsOf_38 (by decide) (fun h38 => ?_) (fun h38 => ?_)
    · refine z_aload_n C dX12_stopsOf_43 2 rfl rfl ?_
      refine f_get12 C 6 (v := .ref (B.1 + 118)) (by decide) tw_750 rfl zk_113 zb_113 rfl dX12_stopsOf_44 ?_
      refine z_iload_n C dX12_stopsOf_47 3 rfl rfl ?_
      refine f_ialdL C zk_118 zb_118 (ixN (n := 6) rfl (by omega) (by decide)).1 (j := i) (ixN (n := 6) rfl (by omega) (by decide)).2 dX12_stopsOf_48 ?_
      refine f_topi (y := 1) (e1.trans ek) ?_
      refine z_tableIn C (off := 35) 84 dX12_stopsOf_49 (by decide) (by decide) (by decide) (by decide) ?_
      refine z_iload C dX12_stopsOf_84 0 rfl ?_
      refine z_zret C E rfl dX12_stopsOf_86 rfl rfl (Nat.le_refl _) ⟨by subst ek; simp [wStop, wRef, zi, Int32.not_le.mp h6, h38], rfl⟩
    · refine z_iconst C dX12_stopsOf_41 ki_0 ?_
      refine z_zret C E rfl dX12_stopsOf_42 rfl rfl (Nat.le_refl _) ⟨by subst ek; simp [wStop, wRef, zi, Int32.not_le.mp h6, h38], rfl⟩
set_option maxRecDepth 100000 in
set_option maxHeartbeats 4000000 in
theorem c_X12_stopsOf2 (l : Launch) (B : zB) (s : zS) (t : zL) (i : Nat) (hi : i < 6) (k lo ha dy : Int32) (e1 : s 118 i = k) (e2 : s 119 i = lo) (e3 : s 120 i = ha) (e4 : s 113 10 = dy) (bu : Int32) (hb : r8 bu) (ek : k = 2) : zD l B mX12_stopsOf s t [.ref (B.1 + 113), .int (nI i), .int bu] (some (.int (zi (wStop k lo ha bu dy)))) s t := by
  refine z_met (by decide) (Nat.le_of_ble_eq_true rfl) ?_
  intro X hl C E hnm
  show Zf X B mX12_stopsOf s t 0 [(0, .ref (B.1 + 113)), (1, .int (nI i)), (2, .int bu)] []
  refine z_aload_n C dX12_stopsOf_0 0 rfl rfl ?_
  refine z_iload_n C dX12_stopsOf_1 1 rfl rfl ?_
  refine z_iload_n C dX12_stopsOf_2 2 rfl rfl ?_
  refine f_callVr C hl (As := [.int (nI i), .int bu]) (rest := []) (c_X12_joyOf l B s t i hi k lo ha e1 e2 e3 bu hb) zb_113 (zg_12 zk_113) rfl (zCB (nA := 2) C rfl rfl tw_874 tw_13 tw_871 (by decide +kernel) ⟨Nat.le_of_ble_eq_true rfl, Nat.le_of_ble_eq_true rfl⟩) tw_873 tp_36 rfl rfl (Nat.le_of_ble_eq_true rfl) dX12_stopsOf_3 (Nat.zero_le _) ?_
  refine z_if_ge C 13 dX12_stopsOf_6 (by decide) (fun h6 => ?_) (fun h6 => ?_)
  · refine z_iconst C dX12_stopsOf_13 ki_0 ?_
    refine z_istore_n C [(3, .int 0), (0, .ref (B.1 + 113)), (1, .int (nI i)), (2, .int bu)] dX12_stopsOf_14 rfl (by decide) rfl ?_
    refine z_iload_n C dX12_stopsOf_15 0 rfl rfl ?_
    refine z_if_ne C 30 dX12_stopsOf_16 (by decide) (fun hbr => absurd (by decide) hbr) (fun _ => ?_)
    refine z_iload_n C dX12_stopsOf_19 3 rfl rfl ?_
    refine z_aload_n C dX12_stopsOf_20 1 rfl rfl ?_
    refine f_get12 C 8 (v := .ref (B.1 + 120)) (by decide) tw_752 rfl zk_113 zb_113 rfl dX12_stopsOf_21 ?_
    refine z_iload_n C dX12_stopsOf_24 2 rfl rfl ?_
    refine f_ialdL C zk_120 zb_120 (ixN (n := 6) rfl (by omega) (by decide)).1 (j := i) (ixN (n := 6) rfl (by omega) (by decide)).2 dX12_stopsOf_25 ?_
    refine z_iand C dX12_stopsOf_26 ?_
    refine f_topi (y := ha &&& bu) (by rw [e3, Int32.and_comm]) ?_
    refine z_if_eq C 34 dX12_stopsOf_27 (by decide) (fun h27 => ?_) (fun h27 => ?_)
    · refine z_iconst C dX12_stopsOf_34 ki_0 ?_
      refine z_istore C [(4, .int 0), (3, .int 0), (0, .ref (B.1 + 113)), (1, .int (nI i)), (2, .int bu)] dX12_stopsOf_35 (by decide) rfl ?_
      refine z_iload_n C dX12_stopsOf_37 4 rfl rfl ?_
      refine z_if_ne C 43 dX12_stopsOf_38 (by decide) (fun h38 => ?_) (fun h38 => ?_)
      · refine z_aload_n C dX12_stopsOf_43 2 rfl rfl ?_
        refine f_get12 C 6 (v := .ref (B.1 + 118)) (by decide) tw_750 rfl zk_113 zb_113 rfl dX12_stopsOf_44 ?_
        refine z_iload_n C dX12_stopsOf_47 3 rfl rfl ?_
        refine f_ialdL C zk_118 zb_118 (ixN (n := 6) rfl (by omega) (by decide)).1 (j := i) (ixN (n := 6) rfl (by omega) (by decide)).2 dX12_stopsOf_48 ?_
        refine f_topi (y := 2) (e1.trans ek) ?_
        refine z_tableIn C (off := 77) 126 dX12_stopsOf_49 (by decide) (by decide) (by decide) (by decide) ?_
        refine z_iload_n C dX12_stopsOf_126 1 rfl rfl ?_
        have hpp : ¬ 0 < wPop (ha &&& bu) := fun q => (pop_pos (r8_and' hb)).mp q h27
        refine z_zret C E rfl dX12_stopsOf_127 rfl rfl (Nat.le_refl _) ⟨by subst ek; simp [wStop, wRef, zi, Int32.not_lt.mpr h6, hpp, h38], rfl⟩
      · refine z_iconst C dX12_stopsOf_41 ki_0 ?_
        have hpp : ¬ 0 < wPop (ha &&& bu) := fun q => (pop_pos (r8_and' hb)).mp q h27
        refine z_zret C E rfl dX12_stopsOf_42 rfl rfl (Nat.le_refl _) ⟨by subst ek; simp [wStop, wRef, zi, Int32.not_lt.mpr h6, hpp, h38], rfl⟩
    · refine z_iconst C dX12_stopsOf_30 ki_1 ?_
      refine z_goto C 35 dX12_stopsOf_31 (by decide) ?_
      refine z_istore C [(4, .int 1), (3, .int 0), (0, .ref (B.1 + 113)), (1, .int (nI i)), (2, .int bu)] dX12_stopsOf_35 (by decide) rfl ?_
      refine z_iload_n C dX12_stopsOf_37 4 rfl rfl ?_
      refine z_if_ne C 43 dX12_stopsOf_38 (by decide) (fun h38 => ?_) (fun h38 => ?_)
      · refine z_aload_n C dX12_stopsOf_43 2 rfl rfl ?_
        refine f_get12 C 6 (v := .ref (B.1 + 118)) (by decide) tw_750 rfl zk_113 zb_113 rfl dX12_stopsOf_44 ?_
        refine z_iload_n C dX12_stopsOf_47 3 rfl rfl ?_
        refine f_ialdL C zk_118 zb_118 (ixN (n := 6) rfl (by omega) (by decide)).1 (j := i) (ixN (n := 6) rfl (by omega) (by decide)).2 dX12_stopsOf_48 ?_
        refine f_topi (y := 2) (e1.trans ek) ?_
        refine z_tableIn C (off := 77) 126 dX12_stopsOf_49 (by decide) (by decide) (by decide) (by decide) ?_
        refine z_iload_n C dX12_stopsOf_126 1 rfl rfl ?_
        have hpp : 0 < wPop (ha &&& bu) := (pop_pos (r8_and' hb)).mpr h27
        refine z_zret C E rfl dX12_stopsOf_127 rfl rfl (Nat.le_refl _) ⟨by subst ek; simp [wStop, wRef, zi, Int32.not_lt.mpr h6, hpp, h38], rfl⟩
      · refine z_iconst C dX12_stopsOf_41 ki_0 ?_
        have hpp : 0 < wPop (ha &&& bu) := (pop_pos (r8_and' hb)).mpr h27
        refine z_zret C E rfl dX12_stopsOf_42 rfl rfl (Nat.le_refl _) ⟨by subst ek; simp [wStop, wRef, zi, Int32.not_lt.mpr h6, hpp, h38], rfl⟩
  · refine z_iconst C dX12_stopsOf_9 ki_1 ?_
    refine z_goto C 14 dX12_stopsOf_10 (by decide) ?_
    refine z_istore_n C [(3, .int 1), (0, .ref (B.1 + 113)), (1, .int (nI i)), (2, .int bu)] dX12_stopsOf_14 rfl (by decide) rfl ?_
    refine z_iload_n C dX12_stopsOf_15 0 rfl rfl ?_
    refine z_if_ne C 30 dX12_stopsOf_16 (by decide) (fun _ => ?_) (fun hbr => absurd hbr (by decide))
    refine z_iconst C dX12_stopsOf_30 ki_1 ?_
    refine z_goto C 35 dX12_stopsOf_31 (by decide) ?_
    refine z_istore C [(4, .int 1), (3, .int 1), (0, .ref (B.1 + 113)), (1, .int (nI i)), (2, .int bu)] dX12_stopsOf_35 (by decide) rfl ?_
    refine z_iload_n C dX12_stopsOf_37 4 rfl rfl ?_
    refine z_if_ne C 43 dX12_stopsOf_38 (by decide) (fun h38 => ?_) (fun h38 => ?_)
    · refine z_aload_n C dX12_stopsOf_43 2 rfl rfl ?_
      refine f_get12 C 6 (v := .ref (B.1 + 118)) (by decide) tw_750 rfl zk_113 zb_113 rfl dX12_stopsOf_44 ?_
      refine z_iload_n C dX12_stopsOf_47 3 rfl rfl ?_
      refine f_ialdL C zk_118 zb_118 (ixN (n := 6) rfl (by omega) (by decide)).1 (j := i) (ixN (n := 6) rfl (by omega) (by decide)).2 dX12_stopsOf_48 ?_
      refine f_topi (y := 2) (e1.trans ek) ?_
      refine z_tableIn C (off := 77) 126 dX12_stopsOf_49 (by decide) (by decide) (by decide) (by decide) ?_
      refine z_iload_n C dX12_stopsOf_126 1 rfl rfl ?_
      refine z_zret C E rfl dX12_stopsOf_127 rfl rfl (Nat.le_refl _) ⟨by subst ek; simp [wStop, wRef, zi, Int32.not_le.mp h6, h38], rfl⟩
    · refine z_iconst C dX12_stopsOf_41 ki_0 ?_
      refine z_zret C E rfl dX12_stopsOf_42 rfl rfl (Nat.le_refl _) ⟨by subst ek; simp [wStop, wRef, zi, Int32.not_le.mp h6, h38], rfl⟩
set_option maxRecDepth 100000 in
set_option maxHeartbeats 4000000 in
theorem c_X12_stopsOf3 (l : Launch) (B : zB) (s : zS) (t : zL) (i : Nat) (hi : i < 6) (k lo ha dy : Int32) (e1 : s 118 i = k) (e2 : s 119 i = lo) (e3 : s 120 i = ha) (e4 : s 113 10 = dy) (bu : Int32) (hb : r8 bu) (ek : k = 3) : zD l B mX12_stopsOf s t [.ref (B.1 + 113), .int (nI i), .int bu] (some (.int (zi (wStop k lo ha bu dy)))) s t := by
  refine z_met (by decide) (Nat.le_of_ble_eq_true rfl) ?_
  intro X hl C E hnm
  show Zf X B mX12_stopsOf s t 0 [(0, .ref (B.1 + 113)), (1, .int (nI i)), (2, .int bu)] []
  refine z_aload_n C dX12_stopsOf_0 0 rfl rfl ?_
  refine z_iload_n C dX12_stopsOf_1 1 rfl rfl ?_
  refine z_iload_n C dX12_stopsOf_2 2 rfl rfl ?_
  refine f_callVr C hl (As := [.int (nI i), .int bu]) (rest := []) (c_X12_joyOf l B s t i hi k lo ha e1 e2 e3 bu hb) zb_113 (zg_12 zk_113) rfl (zCB (nA := 2) C rfl rfl tw_874 tw_13 tw_871 (by decide +kernel) ⟨Nat.le_of_ble_eq_true rfl, Nat.le_of_ble_eq_true rfl⟩) tw_873 tp_36 rfl rfl (Nat.le_of_ble_eq_true rfl) dX12_stopsOf_3 (Nat.zero_le _) ?_
  refine z_if_ge C 13 dX12_stopsOf_6 (by decide) (fun h6 => ?_) (fun h6 => ?_)
  · refine z_iconst C dX12_stopsOf_13 ki_0 ?_
    refine z_istore_n C [(3, .int 0), (0, .ref (B.1 + 113)), (1, .int (nI i)), (2, .int bu)] dX12_stopsOf_14 rfl (by decide) rfl ?_
    refine z_iload_n C dX12_stopsOf_15 0 rfl rfl ?_
    refine z_if_ne C 30 dX12_stopsOf_16 (by decide) (fun hbr => absurd (by decide) hbr) (fun _ => ?_)
    refine z_iload_n C dX12_stopsOf_19 3 rfl rfl ?_
    refine z_aload_n C dX12_stopsOf_20 1 rfl rfl ?_
    refine f_get12 C 8 (v := .ref (B.1 + 120)) (by decide) tw_752 rfl zk_113 zb_113 rfl dX12_stopsOf_21 ?_
    refine z_iload_n C dX12_stopsOf_24 2 rfl rfl ?_
    refine f_ialdL C zk_120 zb_120 (ixN (n := 6) rfl (by omega) (by decide)).1 (j := i) (ixN (n := 6) rfl (by omega) (by decide)).2 dX12_stopsOf_25 ?_
    refine z_iand C dX12_stopsOf_26 ?_
    refine f_topi (y := ha &&& bu) (by rw [e3, Int32.and_comm]) ?_
    refine z_if_eq C 34 dX12_stopsOf_27 (by decide) (fun h27 => ?_) (fun h27 => ?_)
    · refine z_iconst C dX12_stopsOf_34 ki_0 ?_
      refine z_istore C [(4, .int 0), (3, .int 0), (0, .ref (B.1 + 113)), (1, .int (nI i)), (2, .int bu)] dX12_stopsOf_35 (by decide) rfl ?_
      refine z_iload_n C dX12_stopsOf_37 4 rfl rfl ?_
      refine z_if_ne C 43 dX12_stopsOf_38 (by decide) (fun h38 => ?_) (fun h38 => ?_)
      · refine z_aload_n C dX12_stopsOf_43 2 rfl rfl ?_
        refine f_get12 C 6 (v := .ref (B.1 + 118)) (by decide) tw_750 rfl zk_113 zb_113 rfl dX12_stopsOf_44 ?_
        refine z_iload_n C dX12_stopsOf_47 3 rfl rfl ?_
        refine f_ialdL C zk_118 zb_118 (ixN (n := 6) rfl (by omega) (by decide)).1 (j := i) (ixN (n := 6) rfl (by omega) (by decide)).2 dX12_stopsOf_48 ?_
        refine f_topi (y := 3) (e1.trans ek) ?_
        refine z_tableIn C (off := 77) 126 dX12_stopsOf_49 (by decide) (by decide) (by decide) (by decide) ?_
        refine z_iload_n C dX12_stopsOf_126 1 rfl rfl ?_
        have hpp : ¬ 0 < wPop (ha &&& bu) := fun q => (pop_pos (r8_and' hb)).mp q h27
        refine z_zret C E rfl dX12_stopsOf_127 rfl rfl (Nat.le_refl _) ⟨by subst ek; simp [wStop, wRef, zi, Int32.not_lt.mpr h6, hpp, h38], rfl⟩
      · refine z_iconst C dX12_stopsOf_41 ki_0 ?_
        have hpp : ¬ 0 < wPop (ha &&& bu) := fun q => (pop_pos (r8_and' hb)).mp q h27
        refine z_zret C E rfl dX12_stopsOf_42 rfl rfl (Nat.le_refl _) ⟨by subst ek; simp [wStop, wRef, zi, Int32.not_lt.mpr h6, hpp, h38], rfl⟩
    · refine z_iconst C dX12_stopsOf_30 ki_1 ?_
      refine z_goto C 35 dX12_stopsOf_31 (by decide) ?_
      refine z_istore C [(4, .int 1), (3, .int 0), (0, .ref (B.1 + 113)), (1, .int (nI i)), (2, .int bu)] dX12_stopsOf_35 (by decide) rfl ?_
      refine z_iload_n C dX12_stopsOf_37 4 rfl rfl ?_
      refine z_if_ne C 43 dX12_stopsOf_38 (by decide) (fun h38 => ?_) (fun h38 => ?_)
      · refine z_aload_n C dX12_stopsOf_43 2 rfl rfl ?_
        refine f_get12 C 6 (v := .ref (B.1 + 118)) (by decide) tw_750 rfl zk_113 zb_113 rfl dX12_stopsOf_44 ?_
        refine z_iload_n C dX12_stopsOf_47 3 rfl rfl ?_
        refine f_ialdL C zk_118 zb_118 (ixN (n := 6) rfl (by omega) (by decide)).1 (j := i) (ixN (n := 6) rfl (by omega) (by decide)).2 dX12_stopsOf_48 ?_
        refine f_topi (y := 3) (e1.trans ek) ?_
        refine z_tableIn C (off := 77) 126 dX12_stopsOf_49 (by decide) (by decide) (by decide) (by decide) ?_
        refine z_iload_n C dX12_stopsOf_126 1 rfl rfl ?_
        have hpp : 0 < wPop (ha &&& bu) := (pop_pos (r8_and' hb)).mpr h27
        refine z_zret C E rfl dX12_stopsOf_127 rfl rfl (Nat.le_refl _) ⟨by subst ek; simp [wStop, wRef, zi, Int32.not_lt.mpr h6, hpp, h38], rfl⟩
      · refine z_iconst C dX12_stopsOf_41 ki_0 ?_
        have hpp : 0 < wPop (ha &&& bu) := (pop_pos (r8_and' hb)).mpr h27
        refine z_zret C E rfl dX12_stopsOf_42 rfl rfl (Nat.le_refl _) ⟨by subst ek; simp [wStop, wRef, zi, Int32.not_lt.mpr h6, hpp, h38], rfl⟩
  · refine z_iconst C dX12_stopsOf_9 ki_1 ?_
    refine z_goto C 14 dX12_stopsOf_10 (by decide) ?_
    refine z_istore_n C [(3, .int 1), (0, .ref (B.1 + 113)), (1, .int (nI i)), (2, .int bu)] dX12_stopsOf_14 rfl (by decide) rfl ?_
    refine z_iload_n C dX12_stopsOf_15 0 rfl rfl ?_
    refine z_if_ne C 30 dX12_stopsOf_16 (by decide) (fun _ => ?_) (fun hbr => absurd hbr (by decide))
    refine z_iconst C dX12_stopsOf_30 ki_1 ?_
    refine z_goto C 35 dX12_stopsOf_31 (by decide) ?_
    refine z_istore C [(4, .int 1), (3, .int 1), (0, .ref (B.1 + 113)), (1, .int (nI i)), (2, .int bu)] dX12_stopsOf_35 (by decide) rfl ?_
    refine z_iload_n C dX12_stopsOf_37 4 rfl rfl ?_
    refine z_if_ne C 43 dX12_stopsOf_38 (by decide) (fun h38 => ?_) (fun h38 => ?_)
    · refine z_aload_n C dX12_stopsOf_43 2 rfl rfl ?_
      refine f_get12 C 6 (v := .ref (B.1 + 118)) (by decide) tw_750 rfl zk_113 zb_113 rfl dX12_stopsOf_44 ?_
      refine z_iload_n C dX12_stopsOf_47 3 rfl rfl ?_
      refine f_ialdL C zk_118 zb_118 (ixN (n := 6) rfl (by omega) (by decide)).1 (j := i) (ixN (n := 6) rfl (by omega) (by decide)).2 dX12_stopsOf_48 ?_
      refine f_topi (y := 3) (e1.trans ek) ?_
      refine z_tableIn C (off := 77) 126 dX12_stopsOf_49 (by decide) (by decide) (by decide) (by decide) ?_
      refine z_iload_n C dX12_stopsOf_126 1 rfl rfl ?_
      refine z_zret C E rfl dX12_stopsOf_127 rfl rfl (Nat.le_refl _) ⟨by subst ek; simp [wStop, wRef, zi, Int32.not_le.mp h6, h38], rfl⟩
    · refine z_iconst C dX12_stopsOf_41 ki_0 ?_
      refine z_zret C E rfl dX12_stopsOf_42 rfl rfl (Nat.le_refl _) ⟨by subst ek; simp [wStop, wRef, zi, Int32.not_le.mp h6, h38], rfl⟩
set_option maxRecDepth 100000 in
set_option maxHeartbeats 4000000 in
theorem c_X12_stopsOf4 (l : Launch) (B : zB) (s : zS) (t : zL) (i : Nat) (hi : i < 6) (k lo ha dy : Int32) (e1 : s 118 i = k) (e2 : s 119 i = lo) (e3 : s 120 i = ha) (e4 : s 113 10 = dy) (bu : Int32) (hb : r8 bu) (ek : k = 4) : zD l B mX12_stopsOf s t [.ref (B.1 + 113), .int (nI i), .int bu] (some (.int (zi (wStop k lo ha bu dy)))) s t := by
  refine z_met (by decide) (Nat.le_of_ble_eq_true rfl) ?_
  intro X hl C E hnm
  show Zf X B mX12_stopsOf s t 0 [(0, .ref (B.1 + 113)), (1, .int (nI i)), (2, .int bu)] []
  refine z_aload_n C dX12_stopsOf_0 0 rfl rfl ?_
  refine z_iload_n C dX12_stopsOf_1 1 rfl rfl ?_
  refine z_iload_n C dX12_stopsOf_2 2 rfl rfl ?_
  refine f_callVr C hl (As := [.int (nI i), .int bu]) (rest := []) (c_X12_joyOf l B s t i hi k lo ha e1 e2 e3 bu hb) zb_113 (zg_12 zk_113) rfl (zCB (nA := 2) C rfl rfl tw_874 tw_13 tw_871 (by decide +kernel) ⟨Nat.le_of_ble_eq_true rfl, Nat.le_of_ble_eq_true rfl⟩) tw_873 tp_36 rfl rfl (Nat.le_of_ble_eq_true rfl) dX12_stopsOf_3 (Nat.zero_le _) ?_
  refine z_if_ge C 13 dX12_stopsOf_6 (by decide) (fun h6 => ?_) (fun h6 => ?_)
  · refine z_iconst C dX12_stopsOf_13 ki_0 ?_
    refine z_istore_n C [(3, .int 0), (0, .ref (B.1 + 113)), (1, .int (nI i)), (2, .int bu)] dX12_stopsOf_14 rfl (by decide) rfl ?_
    refine z_iload_n C dX12_stopsOf_15 0 rfl rfl ?_
    refine z_if_ne C 30 dX12_stopsOf_16 (by decide) (fun hbr => absurd (by decide) hbr) (fun _ => ?_)
    refine z_iload_n C dX12_stopsOf_19 3 rfl rfl ?_
    refine z_aload_n C dX12_stopsOf_20 1 rfl rfl ?_
    refine f_get12 C 8 (v := .ref (B.1 + 120)) (by decide) tw_752 rfl zk_113 zb_113 rfl dX12_stopsOf_21 ?_
    refine z_iload_n C dX12_stopsOf_24 2 rfl rfl ?_
    refine f_ialdL C zk_120 zb_120 (ixN (n := 6) rfl (by omega) (by decide)).1 (j := i) (ixN (n := 6) rfl (by omega) (by decide)).2 dX12_stopsOf_25 ?_
    refine z_iand C dX12_stopsOf_26 ?_
    refine f_topi (y := ha &&& bu) (by rw [e3, Int32.and_comm]) ?_
    refine z_if_eq C 34 dX12_stopsOf_27 (by decide) (fun h27 => ?_) (fun h27 => ?_)
    · refine z_iconst C dX12_stopsOf_34 ki_0 ?_
      refine z_istore C [(4, .int 0), (3, .int 0), (0, .ref (B.1 + 113)), (1, .int (nI i)), (2, .int bu)] dX12_stopsOf_35 (by decide) rfl ?_
      refine z_iload_n C dX12_stopsOf_37 4 rfl rfl ?_
      refine z_if_ne C 43 dX12_stopsOf_38 (by decide) (fun h38 => ?_) (fun h38 => ?_)
      · refine z_aload_n C dX12_stopsOf_43 2 rfl rfl ?_
        refine f_get12 C 6 (v := .ref (B.1 + 118)) (by decide) tw_750 rfl zk_113 zb_113 rfl dX12_stopsOf_44 ?_
        refine z_iload_n C dX12_stopsOf_47 3 rfl rfl ?_
        refine f_ialdL C zk_118 zb_118 (ixN (n := 6) rfl (by omega) (by decide)).1 (j := i) (ixN (n := 6) rfl (by omega) (by decide)).2 dX12_stopsOf_48 ?_
        refine f_topi (y := 4) (e1.trans ek) ?_
        refine z_tableIn C (off := 38) 87 dX12_stopsOf_49 (by decide) (by decide) (by decide) (by decide) ?_
        refine z_iload_n C dX12_stopsOf_87 1 rfl rfl ?_
        refine z_if_eq C 104 dX12_stopsOf_88 (by decide) (fun _ => ?_) (fun hbr => absurd (by decide) hbr)
        refine z_iconst C dX12_stopsOf_104 ki_0 ?_
        have hpp : ¬ 0 < wPop (ha &&& bu) := fun q => (pop_pos (r8_and' hb)).mp q h27
        refine z_zret C E rfl dX12_stopsOf_105 rfl rfl (Nat.le_refl _) ⟨by subst ek; simp [wStop, wRef, zi, Int32.not_lt.mpr h6, hpp, h38], rfl⟩
      · refine z_iconst C dX12_stopsOf_41 ki_0 ?_
        have hpp : ¬ 0 < wPop (ha &&& bu) := fun q => (pop_pos (r8_and' hb)).mp q h27
        refine z_zret C E rfl dX12_stopsOf_42 rfl rfl (Nat.le_refl _) ⟨by subst ek; simp [wStop, wRef, zi, Int32.not_lt.mpr h6, hpp, h38], rfl⟩
    · refine z_iconst C dX12_stopsOf_30 ki_1 ?_
      refine z_goto C 35 dX12_stopsOf_31 (by decide) ?_
      refine z_istore C [(4, .int 1), (3, .int 0), (0, .ref (B.1 + 113)), (1, .int (nI i)), (2, .int bu)] dX12_stopsOf_35 (by decide) rfl ?_
      refine z_iload_n C dX12_stopsOf_37 4 rfl rfl ?_
      refine z_if_ne C 43 dX12_stopsOf_38 (by decide) (fun h38 => ?_) (fun h38 => ?_)
      · refine z_aload_n C dX12_stopsOf_43 2 rfl rfl ?_
        refine f_get12 C 6 (v := .ref (B.1 + 118)) (by decide) tw_750 rfl zk_113 zb_113 rfl dX12_stopsOf_44 ?_
        refine z_iload_n C dX12_stopsOf_47 3 rfl rfl ?_
        refine f_ialdL C zk_118 zb_118 (ixN (n := 6) rfl (by omega) (by decide)).1 (j := i) (ixN (n := 6) rfl (by omega) (by decide)).2 dX12_stopsOf_48 ?_
        refine f_topi (y := 4) (e1.trans ek) ?_
        refine z_tableIn C (off := 38) 87 dX12_stopsOf_49 (by decide) (by decide) (by decide) (by decide) ?_
        refine z_iload_n C dX12_stopsOf_87 1 rfl rfl ?_
        refine z_if_eq C 104 dX12_stopsOf_88 (by decide) (fun _ => ?_) (fun hbr => absurd (by decide) hbr)
        refine z_iconst C dX12_stopsOf_104 ki_0 ?_
        have hpp : 0 < wPop (ha &&& bu) := (pop_pos (r8_and' hb)).mpr h27
        refine z_zret C E rfl dX12_stopsOf_105 rfl rfl (Nat.le_refl _) ⟨by subst ek; simp [wStop, wRef, zi, Int32.not_lt.mpr h6, hpp, h38], rfl⟩
      · refine z_iconst C dX12_stopsOf_41 ki_0 ?_
        have hpp : 0 < wPop (ha &&& bu) := (pop_pos (r8_and' hb)).mpr h27
        refine z_zret C E rfl dX12_stopsOf_42 rfl rfl (Nat.le_refl _) ⟨by subst ek; simp [wStop, wRef, zi, Int32.not_lt.mpr h6, hpp, h38], rfl⟩
  · refine z_iconst C dX12_stopsOf_9 ki_1 ?_
    refine z_goto C 14 dX12_stopsOf_10 (by decide) ?_
    refine z_istore_n C [(3, .int 1), (0, .ref (B.1 + 113)), (1, .int (nI i)), (2, .int bu)] dX12_stopsOf_14 rfl (by decide) rfl ?_
    refine z_iload_n C dX12_stopsOf_15 0 rfl rfl ?_
    refine z_if_ne C 30 dX12_stopsOf_16 (by decide) (fun _ => ?_) (fun hbr => absurd hbr (by decide))
    refine z_iconst C dX12_stopsOf_30 ki_1 ?_
    refine z_goto C 35 dX12_stopsOf_31 (by decide) ?_
    refine z_istore C [(4, .int 1), (3, .int 1), (0, .ref (B.1 + 113)), (1, .int (nI i)), (2, .int bu)] dX12_stopsOf_35 (by decide) rfl ?_
    refine z_iload_n C dX12_stopsOf_37 4 rfl rfl ?_
    refine z_if_ne C 43 dX12_stopsOf_38 (by decide) (fun h38 => ?_) (fun h38 => ?_)
    · refine z_aload_n C dX12_stopsOf_43 2 rfl rfl ?_
      refine f_get12 C 6 (v := .ref (B.1 + 118)) (by decide) tw_750 rfl zk_113 zb_113 rfl dX12_stopsOf_44 ?_
      refine z_iload_n C dX12_stopsOf_47 3 rfl rfl ?_
      refine f_ialdL C zk_118 zb_118 (ixN (n := 6) rfl (by omega) (by decide)).1 (j := i) (ixN (n := 6) rfl (by omega) (by decide)).2 dX12_stopsOf_48 ?_
      refine f_topi (y := 4) (e1.trans ek) ?_
      refine z_tableIn C (off := 38) 87 dX12_stopsOf_49 (by decide) (by decide) (by decide) (by decide) ?_
      refine z_iload_n C dX12_stopsOf_87 1 rfl rfl ?_
      refine z_if_eq C 104 dX12_stopsOf_88 (by decide) (fun hbr => absurd hbr (by decide)) (fun _ => ?_)
      refine z_aload_n C dX12_stopsOf_91 2 rfl rfl ?_
      refine f_get12 C 10 (v := .int (s 113 10)) (by decide) tw_754 rfl zk_113 zb_113 rfl dX12_stopsOf_92 ?_
      refine f_topi (y := dy) e4 ?_
      refine z_iconst C dX12_stopsOf_95 ki_2 ?_
      refine z_irem C dX12_stopsOf_96 (by decide) ?_
      refine z_if_ne C 104 dX12_stopsOf_97 (by decide) (fun h97 => ?_) (fun h97 => ?_)
      · refine z_iconst C dX12_stopsOf_104 ki_0 ?_
        refine z_zret C E rfl dX12_stopsOf_105 rfl rfl (Nat.le_refl _) ⟨by subst ek; simp [wStop, wRef, zi, Int32.not_le.mp h6, h38, h97], rfl⟩
      · refine z_iconst C dX12_stopsOf_100 ki_1 ?_
        refine z_goto C 105 dX12_stopsOf_101 (by decide) ?_
        refine z_zret C E rfl dX12_stopsOf_105 rfl rfl (Nat.le_refl _) ⟨by subst ek; simp [wStop, wRef, zi, Int32.not_le.mp h6, h38, h97], rfl⟩
    · refine z_iconst C dX12_stopsOf_41 ki_0 ?_
      refine z_zret C E rfl dX12_stopsOf_42 rfl rfl (Nat.le_refl _) ⟨by subst ek; simp [wStop, wRef, zi, Int32.not_le.mp h6, h38], rfl⟩
set_option maxRecDepth 100000 in
set_option maxHeartbeats 4000000 in
theorem c_X12_stopsOf5 (l : Launch) (B : zB) (s : zS) (t : zL) (i : Nat) (hi : i < 6) (k lo ha dy : Int32) (e1 : s 118 i = k) (e2 : s 119 i = lo) (e3 : s 120 i = ha) (e4 : s 113 10 = dy) (bu : Int32) (hb : r8 bu) (ek : k = 5) : zD l B mX12_stopsOf s t [.ref (B.1 + 113), .int (nI i), .int bu] (some (.int (zi (wStop k lo ha bu dy)))) s t := by
  refine z_met (by decide) (Nat.le_of_ble_eq_true rfl) ?_
  intro X hl C E hnm
  show Zf X B mX12_stopsOf s t 0 [(0, .ref (B.1 + 113)), (1, .int (nI i)), (2, .int bu)] []
  refine z_aload_n C dX12_stopsOf_0 0 rfl rfl ?_
  refine z_iload_n C dX12_stopsOf_1 1 rfl rfl ?_
  refine z_iload_n C dX12_stopsOf_2 2 rfl rfl ?_
  refine f_callVr C hl (As := [.int (nI i), .int bu]) (rest := []) (c_X12_joyOf l B s t i hi k lo ha e1 e2 e3 bu hb) zb_113 (zg_12 zk_113) rfl (zCB (nA := 2) C rfl rfl tw_874 tw_13 tw_871 (by decide +kernel) ⟨Nat.le_of_ble_eq_true rfl, Nat.le_of_ble_eq_true rfl⟩) tw_873 tp_36 rfl rfl (Nat.le_of_ble_eq_true rfl) dX12_stopsOf_3 (Nat.zero_le _) ?_
  refine z_if_ge C 13 dX12_stopsOf_6 (by decide) (fun h6 => ?_) (fun h6 => ?_)
  · refine z_iconst C dX12_stopsOf_13 ki_0 ?_
    refine z_istore_n C [(3, .int 0), (0, .ref (B.1 + 113)), (1, .int (nI i)), (2, .int bu)] dX12_stopsOf_14 rfl (by decide) rfl ?_
    refine z_iload_n C dX12_stopsOf_15 0 rfl rfl ?_
    refine z_if_ne C 30 dX12_stopsOf_16 (by decide) (fun hbr => absurd (by decide) hbr) (fun _ => ?_)
    refine z_iload_n C dX12_stopsOf_19 3 rfl rfl ?_
    refine z_aload_n C dX12_stopsOf_20 1 rfl rfl ?_
    refine f_get12 C 8 (v := .ref (B.1 + 120)) (by decide) tw_752 rfl zk_113 zb_113 rfl dX12_stopsOf_21 ?_
    refine z_iload_n C dX12_stopsOf_24 2 rfl rfl ?_
    refine f_ialdL C zk_120 zb_120 (ixN (n := 6) rfl (by omega) (by decide)).1 (j := i) (ixN (n := 6) rfl (by omega) (by decide)).2 dX12_stopsOf_25 ?_
    refine z_iand C dX12_stopsOf_26 ?_
    refine f_topi (y := ha &&& bu) (by rw [e3, Int32.and_comm]) ?_
    refine z_if_eq C 34 dX12_stopsOf_27 (by decide) (fun h27 => ?_) (fun h27 => ?_)
    · refine z_iconst C dX12_stopsOf_34 ki_0 ?_
      refine z_istore C [(4, .int 0), (3, .int 0), (0, .ref (B.1 + 113)), (1, .int (nI i)), (2, .int bu)] dX12_stopsOf_35 (by decide) rfl ?_
      refine z_iload_n C dX12_stopsOf_37 4 rfl rfl ?_
      refine z_if_ne C 43 dX12_stopsOf_38 (by decide) (fun h38 => ?_) (fun h38 => ?_)
      · refine z_aload_n C dX12_stopsOf_43 2 rfl rfl ?_
        refine f_get12 C 6 (v := .ref (B.1 + 118)) (by decide) tw_750 rfl zk_113 zb_113 rfl dX12_stopsOf_44 ?_
        refine z_iload_n C dX12_stopsOf_47 3 rfl rfl ?_
        refine f_ialdL C zk_118 zb_118 (ixN (n := 6) rfl (by omega) (by decide)).1 (j := i) (ixN (n := 6) rfl (by omega) (by decide)).2 dX12_stopsOf_48 ?_
        refine f_topi (y := 5) (e1.trans ek) ?_
        refine z_tableIn C (off := 57) 106 dX12_stopsOf_49 (by decide) (by decide) (by decide) (by decide) ?_
        refine z_iload C dX12_stopsOf_106 0 rfl ?_
        refine z_if_ne C 120 dX12_stopsOf_108 (by decide) (fun hbr => absurd (by decide) hbr) (fun _ => ?_)
        refine z_aload_n C dX12_stopsOf_111 2 rfl rfl ?_
        refine f_get12 C 10 (v := .int (s 113 10)) (by decide) tw_754 rfl zk_113 zb_113 rfl dX12_stopsOf_112 ?_
        refine f_topi (y := dy) e4 ?_
        refine z_iconst C dX12_stopsOf_115 ki_5 ?_
        refine z_irem C dX12_stopsOf_116 (by decide) ?_
        refine z_if_ne C 124 dX12_stopsOf_117 (by decide) (fun h117 => ?_) (fun h117 => ?_)
        · refine z_iconst C dX12_stopsOf_124 ki_0 ?_
          have hpp : ¬ 0 < wPop (ha &&& bu) := fun q => (pop_pos (r8_and' hb)).mp q h27
          refine z_zret C E rfl dX12_stopsOf_125 rfl rfl (Nat.le_refl _) ⟨by subst ek; simp [wStop, wRef, zi, Int32.not_lt.mpr h6, hpp, h38, h117], rfl⟩
        · refine z_iconst C dX12_stopsOf_120 ki_1 ?_
          refine z_goto C 125 dX12_stopsOf_121 (by decide) ?_
          have hpp : ¬ 0 < wPop (ha &&& bu) := fun q => (pop_pos (r8_and' hb)).mp q h27
          refine z_zret C E rfl dX12_stopsOf_125 rfl rfl (Nat.le_refl _) ⟨by subst ek; simp [wStop, wRef, zi, Int32.not_lt.mpr h6, hpp, h38, h117], rfl⟩
      · refine z_iconst C dX12_stopsOf_41 ki_0 ?_
        have hpp : ¬ 0 < wPop (ha &&& bu) := fun q => (pop_pos (r8_and' hb)).mp q h27
        refine z_zret C E rfl dX12_stopsOf_42 rfl rfl (Nat.le_refl _) ⟨by subst ek; simp [wStop, wRef, zi, Int32.not_lt.mpr h6, hpp, h38], rfl⟩
    · refine z_iconst C dX12_stopsOf_30 ki_1 ?_
      refine z_goto C 35 dX12_stopsOf_31 (by decide) ?_
      refine z_istore C [(4, .int 1), (3, .int 0), (0, .ref (B.1 + 113)), (1, .int (nI i)), (2, .int bu)] dX12_stopsOf_35 (by decide) rfl ?_
      refine z_iload_n C dX12_stopsOf_37 4 rfl rfl ?_
      refine z_if_ne C 43 dX12_stopsOf_38 (by decide) (fun h38 => ?_) (fun h38 => ?_)
      · refine z_aload_n C dX12_stopsOf_43 2 rfl rfl ?_
        refine f_get12 C 6 (v := .ref (B.1 + 118)) (by decide) tw_750 rfl zk_113 zb_113 rfl dX12_stopsOf_44 ?_
        refine z_iload_n C dX12_stopsOf_47 3 rfl rfl ?_
        refine f_ialdL C zk_118 zb_118 (ixN (n := 6) rfl (by omega) (by decide)).1 (j := i) (ixN (n := 6) rfl (by omega) (by decide)).2 dX12_stopsOf_48 ?_
        refine f_topi (y := 5) (e1.trans ek) ?_
        refine z_tableIn C (off := 57) 106 dX12_stopsOf_49 (by decide) (by decide) (by decide) (by decide) ?_
        refine z_iload C dX12_stopsOf_106 0 rfl ?_
        refine z_if_ne C 120 dX12_stopsOf_108 (by decide) (fun _ => ?_) (fun hbr => absurd hbr (by decide))
        refine z_iconst C dX12_stopsOf_120 ki_1 ?_
        refine z_goto C 125 dX12_stopsOf_121 (by decide) ?_
        have hpp : 0 < wPop (ha &&& bu) := (pop_pos (r8_and' hb)).mpr h27
        refine z_zret C E rfl dX12_stopsOf_125 rfl rfl (Nat.le_refl _) ⟨by subst ek; simp [wStop, wRef, zi, Int32.not_lt.mpr h6, hpp, h38], rfl⟩
      · refine z_iconst C dX12_stopsOf_41 ki_0 ?_
        have hpp : 0 < wPop (ha &&& bu) := (pop_pos (r8_and' hb)).mpr h27
        refine z_zret C E rfl dX12_stopsOf_42 rfl rfl (Nat.le_refl _) ⟨by subst ek; simp [wStop, wRef, zi, Int32.not_lt.mpr h6, hpp, h38], rfl⟩
  · refine z_iconst C dX12_stopsOf_9 ki_1 ?_
    refine z_goto C 14 dX12_stopsOf_10 (by decide) ?_
    refine z_istore_n C [(3, .int 1), (0, .ref (B.1 + 113)), (1, .int (nI i)), (2, .int bu)] dX12_stopsOf_14 rfl (by decide) rfl ?_
    refine z_iload_n C dX12_stopsOf_15 0 rfl rfl ?_
    refine z_if_ne C 30 dX12_stopsOf_16 (by decide) (fun _ => ?_) (fun hbr => absurd hbr (by decide))
    refine z_iconst C dX12_stopsOf_30 ki_1 ?_
    refine z_goto C 35 dX12_stopsOf_31 (by decide) ?_
    refine z_istore C [(4, .int 1), (3, .int 1), (0, .ref (B.1 + 113)), (1, .int (nI i)), (2, .int bu)] dX12_stopsOf_35 (by decide) rfl ?_
    refine z_iload_n C dX12_stopsOf_37 4 rfl rfl ?_
    refine z_if_ne C 43 dX12_stopsOf_38 (by decide) (fun h38 => ?_) (fun h38 => ?_)
    · refine z_aload_n C dX12_stopsOf_43 2 rfl rfl ?_
      refine f_get12 C 6 (v := .ref (B.1 + 118)) (by decide) tw_750 rfl zk_113 zb_113 rfl dX12_stopsOf_44 ?_
      refine z_iload_n C dX12_stopsOf_47 3 rfl rfl ?_
      refine f_ialdL C zk_118 zb_118 (ixN (n := 6) rfl (by omega) (by decide)).1 (j := i) (ixN (n := 6) rfl (by omega) (by decide)).2 dX12_stopsOf_48 ?_
      refine f_topi (y := 5) (e1.trans ek) ?_
      refine z_tableIn C (off := 57) 106 dX12_stopsOf_49 (by decide) (by decide) (by decide) (by decide) ?_
      refine z_iload C dX12_stopsOf_106 0 rfl ?_
      refine z_if_ne C 120 dX12_stopsOf_108 (by decide) (fun _ => ?_) (fun hbr => absurd hbr (by decide))
      refine z_iconst C dX12_stopsOf_120 ki_1 ?_
      refine z_goto C 125 dX12_stopsOf_121 (by decide) ?_
      refine z_zret C E rfl dX12_stopsOf_125 rfl rfl (Nat.le_refl _) ⟨by subst ek; simp [wStop, wRef, zi, Int32.not_le.mp h6, h38], rfl⟩
    · refine z_iconst C dX12_stopsOf_41 ki_0 ?_
      refine z_zret C E rfl dX12_stopsOf_42 rfl rfl (Nat.le_refl _) ⟨by subst ek; simp [wStop, wRef, zi, Int32.not_le.mp h6, h38], rfl⟩
theorem c_X12_stopsOf (l : Launch) (B : zB) (s : zS) (t : zL) (i : Nat) (hi : i < 6) (k lo ha dy : Int32) (e1 : s 118 i = k) (e2 : s 119 i = lo) (e3 : s 120 i = ha) (e4 : s 113 10 = dy) (bu : Int32) (hb : r8 bu) (hk : ∃ c, c < 6 ∧ k = nI c) : zD l B mX12_stopsOf s t [.ref (B.1 + 113), .int (nI i), .int bu] (some (.int (zi (wStop k lo ha bu dy)))) s t := by
  obtain ⟨c, hc, ek⟩ := hk
  rcases (show c = 0 ∨ c = 1 ∨ c = 2 ∨ c = 3 ∨ c = 4 ∨ c = 5 by omega) with rfl | rfl | rfl | rfl | rfl | rfl
  · exact c_X12_stopsOf0 l B s t i hi k lo ha dy e1 e2 e3 e4 bu hb ek
  · exact c_X12_stopsOf1 l B s t i hi k lo ha dy e1 e2 e3 e4 bu hb ek
  · exact c_X12_stopsOf2 l B s t i hi k lo ha dy e1 e2 e3 e4 bu hb ek
  · exact c_X12_stopsOf3 l B s t i hi k lo ha dy e1 e2 e3 e4 bu hb ek
  · exact c_X12_stopsOf4 l B s t i hi k lo ha dy e1 e2 e3 e4 bu hb ek
  · exact c_X12_stopsOf5 l B s t i hi k lo ha dy e1 e2 e3 e4 bu hb ek
abbrev mX12_stopping : zM := (yX12_stopping, cX12_stopping, 4, (some .int), { frames := 3, cells := 0, slots := 0, locals := 69 })
set_option maxRecDepth 100000 in
set_option maxHeartbeats 4000000 in
theorem l_X12_stopping {l : Launch} {B : zB} {s : zS} {t : zL} {X : zX} (hl : X.2.1 = l) (C : zC X B mX12_stopping) (N : Nat) (K Lo Ha : Nat → Int32) (sl dy : Int32) (hd : wHd s N K Lo Ha sl dy) (bu : Int32) (hb : r8 bu) (E : zE X B mX12_stopping 124 0 0 (zR B (some (.int (wWho K Lo Ha sl dy bu N))) s t)) : ∀ (m : Nat) (i : Nat) (a : Int32), i + m = N → a = wWho K Lo Ha sl dy bu i → Zf X B mX12_stopping s t 4 [(3, .int (nI i)), (2, .int a), (0, .ref (B.1 + 113)), (1, .int bu)] [] := by
  intro m
  induction m with
  | zero =>
    intro i a hi ha
    have h6 := hd.2.1
    refine z_iload_n C dX12_stopping_4 0 rfl rfl ?_
    refine z_aload_n C dX12_stopping_5 2 rfl rfl ?_
    refine f_callVr C hl (As := []) (rest := [.int (nI i)]) (c_X12_many l B s t) zb_113 (zg_12 zk_113) rfl (zCB (nA := 0) C rfl rfl tw_818 tw_13 tw_815 (by decide +kernel) ⟨Nat.le_of_ble_eq_true rfl, Nat.le_of_ble_eq_true rfl⟩) tw_817 tp_27 rfl rfl (Nat.le_of_ble_eq_true rfl) dX12_stopping_6 (Nat.zero_le _) ?_
    refine f_topi (y := nI N) hd.1 ?_
    refine z_icmp_ge C 48 dX12_stopping_9 (by decide) (fun _ => ?_) (fun hbr => absurd (nI_le (by omega) (by omega)) hbr)
    refine z_iload_n C dX12_stopping_48 1 rfl rfl ?_
    refine z_iret C E rfl dX12_stopping_49 rfl (Nat.le_refl _) ⟨by rw [ha, show i = N by omega], rfl⟩
  | succ m ih =>
    intro i a hi0 ha
    have hi : i < N := by omega
    have h6 := hd.2.1
    refine z_iload_n C dX12_stopping_4 0 rfl rfl ?_
    refine z_aload_n C dX12_stopping_5 2 rfl rfl ?_
    refine f_callVr C hl (As := []) (rest := [.int (nI i)]) (c_X12_many l B s t) zb_113 (zg_12 zk_113) rfl (zCB (nA := 0) C rfl rfl tw_818 tw_13 tw_815 (by decide +kernel) ⟨Nat.le_of_ble_eq_true rfl, Nat.le_of_ble_eq_true rfl⟩) tw_817 tp_27 rfl rfl (Nat.le_of_ble_eq_true rfl) dX12_stopping_6 (Nat.zero_le _) ?_
    refine f_topi (y := nI N) hd.1 ?_
    refine z_icmp_ge C 48 dX12_stopping_9 (by decide) (fun hbr => absurd hbr (nI_ge hi (by omega))) (fun _ => ?_)
    refine z_iload_n C dX12_stopping_12 1 rfl rfl ?_
    refine z_aload_n C dX12_stopping_13 2 rfl rfl ?_
    refine f_get12 C 9 (v := .int (s 113 9)) (by decide) tw_753 rfl zk_113 zb_113 rfl dX12_stopping_14 ?_
    refine f_topi (y := sl) hd.2.2.2.2.1 ?_
    refine z_iload_n C dX12_stopping_17 0 rfl rfl ?_
    refine f_callSr C hl (As := [.int sl, .int (nI i)]) (rest := [.int a]) (c_X12_has l B s t sl (nI i)) (zCB (nA := 2) C rfl rfl tw_866 tw_13 tw_864 (by decide +kernel) ⟨Nat.le_of_ble_eq_true rfl, Nat.le_of_ble_eq_true rfl⟩) tw_865 rfl rfl (Nat.le_of_ble_eq_true rfl) dX12_stopping_18 (Nat.zero_le _) ?_
    refine z_ifb_ne C 39 dX12_stopping_21 (by decide) (fun h21 => ?_) (fun h21 => ?_)
    · refine z_iconst C dX12_stopping_39 ki_0 ?_
      refine z_ior C dX12_stopping_40 ?_
      refine z_istore_n C [(2, .int (a ||| 0)), (3, .int (nI i)), (0, .ref (B.1 + 113)), (1, .int bu)] dX12_stopping_41 rfl (by decide) rfl ?_
      refine z_iinc C [(3, .int (nI (i + 1))), (2, .int (a ||| 0)), (0, .ref (B.1 + 113)), (1, .int bu)] dX12_stopping_42 1 rfl (nI_inc i) (by decide) rfl ?_
      refine z_goto C 4 dX12_stopping_45 (by decide) ?_
      exact z_lv [0, 1, 2, 3] rfl (ih (i + 1) _ (by omega) (wWho_n1 ha ((has_bit hd.2.2.2.2.2.1 (by omega)).mp h21)))
    · refine z_aload_n C dX12_stopping_24 2 rfl rfl ?_
      refine z_iload_n C dX12_stopping_25 0 rfl rfl ?_
      refine z_iload_n C dX12_stopping_26 3 rfl rfl ?_
      refine f_callVr C hl (As := [.int (nI i), .int bu]) (rest := [.int a]) (c_X12_stopsOf l B s t i (by omega) (K i) (Lo i) (Ha i) dy (hd.2.2.1 i hi).1 (hd.2.2.1 i hi).2.1 (hd.2.2.1 i hi).2.2 hd.2.2.2.2.2.2 bu hb (hd.2.2.2.1 i hi)) zb_113 (zg_12 zk_113) rfl (zCB (nA := 2) C rfl rfl tw_870 tw_13 tw_867 (by decide +kernel) ⟨Nat.le_of_ble_eq_true rfl, Nat.le_of_ble_eq_true rfl⟩) tw_869 tp_35 rfl rfl (Nat.le_of_ble_eq_true rfl) dX12_stopping_27 (Nat.zero_le _) ?_
      refine z_ifb_eq C 39 dX12_stopping_30 (by decide) (fun h30 => ?_) (fun h30 => ?_)
      · refine z_iconst C dX12_stopping_39 ki_0 ?_
        refine z_ior C dX12_stopping_40 ?_
        refine z_istore_n C [(2, .int (a ||| 0)), (3, .int (nI i)), (0, .ref (B.1 + 113)), (1, .int bu)] dX12_stopping_41 rfl (by decide) rfl ?_
        refine z_iinc C [(3, .int (nI (i + 1))), (2, .int (a ||| 0)), (0, .ref (B.1 + 113)), (1, .int bu)] dX12_stopping_42 1 rfl (nI_inc i) (by decide) rfl ?_
        refine z_goto C 4 dX12_stopping_45 (by decide) ?_
        exact z_lv [0, 1, 2, 3] rfl (ih (i + 1) _ (by omega) (wWho_n2 ha h30))
      · refine z_iconst C dX12_stopping_33 ki_1 ?_
        refine z_iload_n C dX12_stopping_34 0 rfl rfl ?_
        refine z_ishl C dX12_stopping_35 ?_
        refine z_goto C 40 dX12_stopping_36 (by decide) ?_
        refine z_ior C dX12_stopping_40 ?_
        refine z_istore_n C [(2, .int (a ||| (1 <<< ((nI i) &&& 31)))), (3, .int (nI i)), (0, .ref (B.1 + 113)), (1, .int bu)] dX12_stopping_41 rfl (by decide) rfl ?_
        refine z_iinc C [(3, .int (nI (i + 1))), (2, .int (a ||| (1 <<< ((nI i) &&& 31)))), (0, .ref (B.1 + 113)), (1, .int bu)] dX12_stopping_42 1 rfl (nI_inc i) (by decide) rfl ?_
        refine z_goto C 4 dX12_stopping_45 (by decide) ?_
        exact z_lv [0, 1, 2, 3] rfl (ih (i + 1) _ (by omega) (by rw [← wBit_nI (by omega)]; exact wWho_y ha (Classical.byContradiction fun q => by rw [(has_bit hd.2.2.2.2.2.1 (by omega)).mpr q] at h21; exact absurd h21 (by decide)) h30))
set_option maxRecDepth 100000 in
set_option maxHeartbeats 4000000 in
theorem c_X12_stopping (l : Launch) (B : zB) (s : zS) (t : zL) (N : Nat) (K Lo Ha : Nat → Int32) (sl dy : Int32) (hd : wHd s N K Lo Ha sl dy) (bu : Int32) (hb : r8 bu) : zD l B mX12_stopping s t [.ref (B.1 + 113), .int bu] (some (.int (wWho K Lo Ha sl dy bu N))) s t := by
  refine z_met (by decide) (Nat.le_of_ble_eq_true rfl) ?_
  intro X hl C E hnm
  show Zf X B mX12_stopping s t 0 [(0, .ref (B.1 + 113)), (1, .int bu)] []
  refine z_iconst C dX12_stopping_0 ki_0 ?_
  refine z_istore_n C [(2, .int 0), (0, .ref (B.1 + 113)), (1, .int bu)] dX12_stopping_1 rfl (by decide) rfl ?_
  refine z_iconst C dX12_stopping_2 ki_0 ?_
  refine z_istore_n C [(3, .int 0), (2, .int 0), (0, .ref (B.1 + 113)), (1, .int bu)] dX12_stopping_3 rfl (by decide) rfl ?_
  exact z_lv [0, 1, 2, 3] rfl (l_X12_stopping hl C N K Lo Ha sl dy hd bu hb E N 0 0 (by omega) rfl)
abbrev mX12_costOf : zM := (yX12_costOf, cX12_costOf, 3, (some .int), { frames := 1, cells := 0, slots := 0, locals := 22 })
set_option maxRecDepth 100000 in
set_option maxHeartbeats 4000000 in
theorem c_X12_costOf (l : Launch) (B : zB) (s : zS) (t : zL) (i : Nat) (hi : i < 6) (k p : Int32) (e1 : s 118 i = k) (e2 : s 114 (9 + 4 * i + 3) = p) : zD l B mX12_costOf s t [.ref (B.1 + 113), .int (nI i)] (some (.int (wCost k p))) s t := by
  refine z_met (by decide) (Nat.le_of_ble_eq_true rfl) ?_
  intro X hl C E hnm
  show Zf X B mX12_costOf s t 0 [(0, .ref (B.1 + 113)), (1, .int (nI i))] []
  refine z_aload_n C dX12_costOf_0 0 rfl rfl ?_
  refine z_iload_n C dX12_costOf_1 1 rfl rfl ?_
  refine z_iconst C dX12_costOf_2 ki_3 ?_
  refine f_callVr C hl (As := [.int (nI i), .int 3]) (rest := []) (c_X12_get l B s t i 3 hi (by decide)) zb_113 (zg_12 zk_113) rfl (zCB (nA := 2) C rfl rfl tw_855 tw_13 tw_852 (by decide +kernel) ⟨Nat.le_of_ble_eq_true rfl, Nat.le_of_ble_eq_true rfl⟩) tw_854 tp_32 rfl rfl (Nat.le_of_ble_eq_true rfl) dX12_costOf_3 (Nat.zero_le _) ?_
  refine f_topi (y := p) e2 ?_
  refine z_istore_n C [(2, .int p), (0, .ref (B.1 + 113)), (1, .int (nI i))] dX12_costOf_6 rfl (by decide) rfl ?_
  refine z_aload_n C dX12_costOf_7 1 rfl rfl ?_
  refine f_get12 C 6 (v := .ref (B.1 + 118)) (by decide) tw_750 rfl zk_113 zb_113 rfl dX12_costOf_8 ?_
  refine z_iload_n C dX12_costOf_11 2 rfl rfl ?_
  refine f_ialdL C zk_118 zb_118 (ixN (n := 6) rfl (by omega) (by decide)).1 (j := i) (ixN (n := 6) rfl (by omega) (by decide)).2 dX12_costOf_12 ?_
  refine f_topi (y := k) e1 ?_
  refine z_iconst C dX12_costOf_13 ki_3 ?_
  refine z_icmp_ne C 25 dX12_costOf_14 (by decide) (fun h14 => ?_) (fun h14 => ?_)
  · refine z_aload_n C dX12_costOf_25 1 rfl rfl ?_
    refine f_get12 C 6 (v := .ref (B.1 + 118)) (by decide) tw_750 rfl zk_113 zb_113 rfl dX12_costOf_26 ?_
    refine z_iload_n C dX12_costOf_29 2 rfl rfl ?_
    refine f_ialdL C zk_118 zb_118 (ixN (n := 6) rfl (by omega) (by decide)).1 (j := i) (ixN (n := 6) rfl (by omega) (by decide)).2 dX12_costOf_30 ?_
    refine f_topi (y := k) e1 ?_
    refine z_iconst C dX12_costOf_31 ki_5 ?_
    refine z_icmp_ne C 41 dX12_costOf_32 (by decide) (fun h32 => ?_) (fun h32 => ?_)
    · refine z_iload_n C dX12_costOf_41 0 rfl rfl ?_
      refine z_iret C E rfl dX12_costOf_42 rfl (Nat.le_refl _) ⟨by rw [wCost, if_neg h14, if_neg h32], rfl⟩
    · refine z_iconst C dX12_costOf_35 ki_2 ?_
      refine z_iload_n C dX12_costOf_36 0 rfl rfl ?_
      refine z_imul C dX12_costOf_37 ?_
      refine z_goto C 42 dX12_costOf_38 (by decide) ?_
      refine z_iret C E rfl dX12_costOf_42 rfl (Nat.le_refl _) ⟨by rw [wCost, if_neg h14, if_pos h32], rfl⟩
  · refine z_iload_n C dX12_costOf_17 0 rfl rfl ?_
    refine z_iconst C dX12_costOf_18 ki_1 ?_
    refine z_iadd C dX12_costOf_19 ?_
    refine z_iconst C dX12_costOf_20 ki_2 ?_
    refine z_idiv C dX12_costOf_21 (by decide) ?_
    refine z_goto C 42 dX12_costOf_22 (by decide) ?_
    refine z_iret C E rfl dX12_costOf_42 rfl (Nat.le_refl _) ⟨by rw [wCost, if_pos h14], rfl⟩
abbrev mX12_free : zM := (yX12_free, cX12_free, 1, (some .int), { frames := 0, cells := 0, slots := 0, locals := 0 })
set_option maxRecDepth 100000 in
set_option maxHeartbeats 4000000 in
theorem c_X12_free (l : Launch) (B : zB) (s : zS) (t : zL)  : zD l B mX12_free s t [.ref (B.1 + 113)] (some (.int (255 &&& ((s 114 1 ||| s 114 2) ^^^ (-1))))) s t := by
  refine z_met (by decide) (Nat.le_of_ble_eq_true rfl) ?_
  intro X hl C E hnm
  show Zf X B mX12_free s t 0 [(0, .ref (B.1 + 113))] []
  refine z_sipush C dX12_free_0 ks_255 ?_
  refine z_aload_n C dX12_free_3 0 rfl rfl ?_
  refine f_get12 C 0 (v := .ref (B.1 + 114)) (by decide) tw_744 rfl zk_113 zb_113 rfl dX12_free_4 ?_
  refine z_iconst C dX12_free_7 ki_1 ?_
  refine f_ialdL C zk_114 zb_114 (by unfold vp_in; decide) (j := 1) (by decide) dX12_free_8 ?_
  refine z_iconst C dX12_free_9 ki_m1 ?_
  refine z_ixor C dX12_free_10 ?_
  refine z_iand C dX12_free_11 ?_
  refine z_aload_n C dX12_free_12 0 rfl rfl ?_
  refine f_get12 C 0 (v := .ref (B.1 + 114)) (by decide) tw_744 rfl zk_113 zb_113 rfl dX12_free_13 ?_
  refine z_iconst C dX12_free_16 ki_2 ?_
  refine f_ialdL C zk_114 zb_114 (by unfold vp_in; decide) (j := 2) (by decide) dX12_free_17 ?_
  refine z_iconst C dX12_free_18 ki_m1 ?_
  refine z_ixor C dX12_free_19 ?_
  refine z_iand C dX12_free_20 ?_
  refine z_iret C E rfl dX12_free_21 rfl (Nat.le_refl _) ⟨by rw [free_eq], rfl⟩
def wSh (s : zS) (i : Nat) : zS := fun k j => if k = 114 ∧ 57 ≤ j ∧ j < 57 + i then s 114 (j + 6) else s k j
theorem wSh_0 (s : zS) : wSh s 0 = s := by
  funext k j
  simp only [wSh]
  rw [if_neg (by omega)]
theorem wSh_s (s : zS) (i : Nat) : zu (wSh s i) 114 (57 + i) (wSh s i 114 (63 + i)) = wSh s (i + 1) := by
  funext k j
  have e : wSh s i 114 (63 + i) = s 114 (63 + i) := by simp only [wSh]; rw [if_neg (by omega)]
  rw [e]
  simp only [zu, wSh]
  by_cases h : k = 114 ∧ j = 57 + i
  · rw [if_pos h, if_pos (by omega), h.2, show 57 + i + 6 = 63 + i by omega]
  · rw [if_neg h]
    by_cases h2 : k = 114 ∧ 57 ≤ j ∧ j < 57 + i
    · rw [if_pos h2, if_pos (by omega)]
    · rw [if_neg h2, if_neg (by omega)]
def wCpp (s : zS) (u i : Nat) : zS := fun k j => if k = 114 ∧ 57 + 6 * u ≤ j ∧ j < 57 + 6 * u + i then s 114 (1 + (j - (57 + 6 * u))) else s k j
theorem wCpp_0 (s : zS) (u : Nat) : wCpp s u 0 = s := by
  funext k j
  simp only [wCpp]
  rw [if_neg (by omega)]
theorem wCpp_lo (s : zS) (u i : Nat) {j : Nat} (h : j < 57) : wCpp s u i 114 j = s 114 j := by simp only [wCpp]; rw [if_neg (by omega)]
theorem wCpp_s (s : zS) (u i : Nat) (hi : i < 6) : zu (wCpp s u i) 114 (57 + 6 * u + i) (wCpp s u i 114 (1 + i)) = wCpp s u (i + 1) := by
  funext k j
  rw [wCpp_lo s u i (by omega)]
  simp only [zu, wCpp]
  by_cases h : k = 114 ∧ j = 57 + 6 * u + i
  · rw [if_pos h, if_pos (by omega), h.2, show 57 + 6 * u + i - (57 + 6 * u) = i by omega]
  · rw [if_neg h]
    by_cases h2 : k = 114 ∧ 57 + 6 * u ≤ j ∧ j < 57 + 6 * u + i
    · rw [if_pos h2, if_pos (by omega)]
    · rw [if_neg h2, if_neg (by omega)]
def wKeep1 (s : zS) (p : Nat) : zS := zu (wCpp s p 6) 114 8 (nI (p + 1))
def wKeep (s : zS) (p : Nat) : zS := if p = 8 then wKeep1 (zu (wSh s 42) 114 8 7) 7 else wKeep1 s p
abbrev mX12_keep : zM := (yX12_keep, cX12_keep, 2, none, { frames := 0, cells := 0, slots := 0, locals := 0 })
set_option maxRecDepth 100000 in
set_option maxHeartbeats 4000000 in
theorem l_X12_keep2 {l : Launch} {B : zB} {s : zS} {t : zL} {X : zX} (hl : X.2.1 = l) (C : zC X B mX12_keep) (u : Nat) (hu8 : u < 8) (hu : s 114 8 = nI u) (E : zE X B mX12_keep 124 0 0 (zR B none (wKeep1 s u) t)) : ∀ (m : Nat) (i : Nat), i + m = 6 → Zf X B mX12_keep (wCpp s u i) t 55 [(1, .int (nI i)), (0, .ref (B.1 + 113))] [] := by
  intro m
  induction m with
  | zero =>
    intro i hi
    obtain rfl : i = 6 := by omega
    refine z_iload_n C dX12_keep_55 0 rfl rfl ?_
    refine z_bipush C dX12_keep_56 kb_6 ?_
    refine z_icmp_ge C 95 dX12_keep_58 (by decide) (fun _ => ?_) (fun hbr => absurd (by decide) hbr)
    refine z_aload_n C dX12_keep_95 1 rfl rfl ?_
    refine f_get12 C 0 (v := .ref (B.1 + 114)) (by decide) tw_744 rfl zk_113 zb_113 rfl dX12_keep_96 ?_
    refine z_bipush C dX12_keep_99 kb_8 ?_
    refine z_dup2 C dX12_keep_101 rfl rfl ?_
    refine f_ialdL C zk_114 zb_114 (by unfold vp_in; decide) (j := 8) (by decide) dX12_keep_102 ?_
    refine f_topi (y := nI u) (by rw [wCpp_lo s u _ (by decide)]; exact hu) ?_
    refine z_iconst C dX12_keep_103 ki_1 ?_
    refine z_iadd C dX12_keep_104 ?_
    refine f_topi (y := nI (u + 1)) (nI_1 u) ?_
    refine f_iastL C zk_114 zb_114 (by unfold vp_in; decide) (j := 8) (by decide) dX12_keep_105 ?_
    refine z_vret C E rfl dX12_keep_106 rfl (Nat.le_refl _) ⟨rfl, rfl⟩
  | succ m ih =>
    intro i hi0
    have hi : i < 6 := by omega
    refine z_iload_n C dX12_keep_55 0 rfl rfl ?_
    refine z_bipush C dX12_keep_56 kb_6 ?_
    refine z_icmp_ge C 95 dX12_keep_58 (by decide) (fun hbr => absurd hbr (show ¬ nI 6 ≤ nI i from nI_ge hi (by decide))) (fun _ => ?_)
    refine z_aload_n C dX12_keep_61 1 rfl rfl ?_
    refine f_get12 C 0 (v := .ref (B.1 + 114)) (by decide) tw_744 rfl zk_113 zb_113 rfl dX12_keep_62 ?_
    refine z_bipush C dX12_keep_65 kb_57 ?_
    refine z_bipush C dX12_keep_67 kb_6 ?_
    refine z_aload_n C dX12_keep_69 1 rfl rfl ?_
    refine f_get12 C 0 (v := .ref (B.1 + 114)) (by decide) tw_744 rfl zk_113 zb_113 rfl dX12_keep_70 ?_
    refine z_bipush C dX12_keep_73 kb_8 ?_
    refine f_ialdL C zk_114 zb_114 (by unfold vp_in; decide) (j := 8) (by decide) dX12_keep_75 ?_
    refine f_topi (y := nI u) (by rw [wCpp_lo s u _ (by decide)]; exact hu) ?_
    refine z_imul C dX12_keep_76 ?_
    refine z_iadd C dX12_keep_77 ?_
    refine z_iload_n C dX12_keep_78 0 rfl rfl ?_
    refine z_iadd C dX12_keep_79 ?_
    refine z_aload_n C dX12_keep_80 1 rfl rfl ?_
    refine f_get12 C 0 (v := .ref (B.1 + 114)) (by decide) tw_744 rfl zk_113 zb_113 rfl dX12_keep_81 ?_
    refine z_iconst C dX12_keep_84 ki_1 ?_
    refine z_iload_n C dX12_keep_85 0 rfl rfl ?_
    refine z_iadd C dX12_keep_86 ?_
    refine f_ialdL C zk_114 zb_114 (ixN (n := 105) (nA (a := 1) rfl rfl rfl) (by omega) (by decide)).1 (j := (1 + i)) (ixN (n := 105) (nA (a := 1) rfl rfl rfl) (by omega) (by decide)).2 dX12_keep_87 ?_
    refine f_iastL C zk_114 zb_114 (ixN (n := 105) (nA (nA (a := 57) rfl (nM (a := 6) rfl rfl rfl) rfl) rfl rfl) (by omega) (by decide)).1 (j := (57 + 6 * u + i)) (ixN (n := 105) (nA (nA (a := 57) rfl (nM (a := 6) rfl rfl rfl) rfl) rfl rfl) (by omega) (by decide)).2 dX12_keep_88 ?_
    refine z_iinc C [(1, .int (nI (i + 1))), (0, .ref (B.1 + 113))] dX12_keep_89 0 rfl (nI_inc i) (by decide) rfl ?_
    refine z_goto C 55 dX12_keep_92 (by decide) ?_
    refine z_G (congrArg (fun z => zg B z t) (wCpp_s s u i hi)) ?_
    exact z_lv [0, 1] rfl (ih (i + 1) (by omega))
set_option maxRecDepth 100000 in
set_option maxHeartbeats 4000000 in
theorem l_X12_keep1 {l : Launch} {B : zB} {s : zS} {t : zL} {X : zX} (hl : X.2.1 = l) (C : zC X B mX12_keep)  (E : zE X B mX12_keep 124 0 0 (zR B none (wKeep1 (zu (wSh s 42) 114 8 7) 7) t)) : ∀ (m : Nat) (i : Nat), i + m = 42 → Zf X B mX12_keep (wSh s i) t 14 [(1, .int (nI i)), (0, .ref (B.1 + 113))] [] := by
  intro m
  induction m with
  | zero =>
    intro i hi
    obtain rfl : i = 42 := by omega
    refine z_iload_n C dX12_keep_14 0 rfl rfl ?_
    refine z_bipush C dX12_keep_15 kb_42 ?_
    refine z_icmp_ge C 44 dX12_keep_17 (by decide) (fun _ => ?_) (fun hbr => absurd (by decide) hbr)
    refine z_aload_n C dX12_keep_44 1 rfl rfl ?_
    refine f_get12 C 0 (v := .ref (B.1 + 114)) (by decide) tw_744 rfl zk_113 zb_113 rfl dX12_keep_45 ?_
    refine z_bipush C dX12_keep_48 kb_8 ?_
    refine z_bipush C dX12_keep_50 kb_7 ?_
    refine f_iastL C zk_114 zb_114 (by unfold vp_in; decide) (j := 8) (by decide) dX12_keep_52 ?_
    refine z_iconst C dX12_keep_53 ki_0 ?_
    refine z_istore_n C [(1, .int 0), (0, .ref (B.1 + 113))] dX12_keep_54 rfl (by decide) rfl ?_
    refine z_G (congrArg (fun z => zg B z t) (wCpp_0 _ 7).symm) ?_
    exact z_lv [0, 1] rfl (l_X12_keep2 (s := zu (wSh s 42) 114 8 7) hl C 7 (by decide) (zu_same _ _ _ _) E 6 0 (by omega))
  | succ m ih =>
    intro i hi0
    have hi : i < 42 := by omega
    refine z_iload_n C dX12_keep_14 0 rfl rfl ?_
    refine z_bipush C dX12_keep_15 kb_42 ?_
    refine z_icmp_ge C 44 dX12_keep_17 (by decide) (fun hbr => absurd hbr (show ¬ nI 42 ≤ nI i from nI_ge hi (by decide))) (fun _ => ?_)
    refine z_aload_n C dX12_keep_20 1 rfl rfl ?_
    refine f_get12 C 0 (v := .ref (B.1 + 114)) (by decide) tw_744 rfl zk_113 zb_113 rfl dX12_keep_21 ?_
    refine z_bipush C dX12_keep_24 kb_57 ?_
    refine z_iload_n C dX12_keep_26 0 rfl rfl ?_
    refine z_iadd C dX12_keep_27 ?_
    refine z_aload_n C dX12_keep_28 1 rfl rfl ?_
    refine f_get12 C 0 (v := .ref (B.1 + 114)) (by decide) tw_744 rfl zk_113 zb_113 rfl dX12_keep_29 ?_
    refine z_bipush C dX12_keep_32 kb_63 ?_
    refine z_iload_n C dX12_keep_34 0 rfl rfl ?_
    refine z_iadd C dX12_keep_35 ?_
    refine f_ialdL C zk_114 zb_114 (ixN (n := 105) (nA (a := 63) rfl rfl rfl) (by omega) (by decide)).1 (j := (63 + i)) (ixN (n := 105) (nA (a := 63) rfl rfl rfl) (by omega) (by decide)).2 dX12_keep_36 ?_
    refine f_iastL C zk_114 zb_114 (ixN (n := 105) (nA (a := 57) rfl rfl rfl) (by omega) (by decide)).1 (j := (57 + i)) (ixN (n := 105) (nA (a := 57) rfl rfl rfl) (by omega) (by decide)).2 dX12_keep_37 ?_
    refine z_iinc C [(1, .int (nI (i + 1))), (0, .ref (B.1 + 113))] dX12_keep_38 0 rfl (nI_inc i) (by decide) rfl ?_
    refine z_goto C 14 dX12_keep_41 (by decide) ?_
    refine z_G (congrArg (fun z => zg B z t) (wSh_s s i)) ?_
    exact z_lv [0, 1] rfl (ih (i + 1) (by omega))
set_option maxRecDepth 100000 in
set_option maxHeartbeats 4000000 in
theorem c_X12_keepB (l : Launch) (B : zB) (s : zS) (t : zL) (hc : s 114 8 = 8) : zD l B mX12_keep s t [.ref (B.1 + 113)] none (wKeep1 (zu (wSh s 42) 114 8 7) 7) t := by
  refine z_met (by decide) (Nat.le_of_ble_eq_true rfl) ?_
  intro X hl C E hnm
  show Zf X B mX12_keep s t 0 [(0, .ref (B.1 + 113))] []
  refine z_aload_n C dX12_keep_0 0 rfl rfl ?_
  refine f_get12 C 0 (v := .ref (B.1 + 114)) (by decide) tw_744 rfl zk_113 zb_113 rfl dX12_keep_1 ?_
  refine z_bipush C dX12_keep_4 kb_8 ?_
  refine f_ialdL C zk_114 zb_114 (by unfold vp_in; decide) (j := 8) (by decide) dX12_keep_6 ?_
  refine f_topi (y := 8) hc ?_
  refine z_bipush C dX12_keep_7 kb_8 ?_
  refine z_icmp_ne C 53 dX12_keep_9 (by decide) (fun hbr => absurd (by decide) hbr) (fun _ => ?_)
  refine z_iconst C dX12_keep_12 ki_0 ?_
  refine z_istore_n C [(1, .int 0), (0, .ref (B.1 + 113))] dX12_keep_13 rfl (by decide) rfl ?_
  refine z_G (congrArg (fun z => zg B z t) (wSh_0 s).symm) ?_
  exact z_lv [0, 1] rfl (l_X12_keep1 hl C E 42 0 (by omega))
set_option maxRecDepth 100000 in
set_option maxHeartbeats 4000000 in
theorem c_X12_keepA (l : Launch) (B : zB) (s : zS) (t : zL) (u : Nat) (hu8 : u < 8) (hu : s 114 8 = nI u) : zD l B mX12_keep s t [.ref (B.1 + 113)] none (wKeep1 s u) t := by
  refine z_met (by decide) (Nat.le_of_ble_eq_true rfl) ?_
  intro X hl C E hnm
  show Zf X B mX12_keep s t 0 [(0, .ref (B.1 + 113))] []
  refine z_aload_n C dX12_keep_0 0 rfl rfl ?_
  refine f_get12 C 0 (v := .ref (B.1 + 114)) (by decide) tw_744 rfl zk_113 zb_113 rfl dX12_keep_1 ?_
  refine z_bipush C dX12_keep_4 kb_8 ?_
  refine f_ialdL C zk_114 zb_114 (by unfold vp_in; decide) (j := 8) (by decide) dX12_keep_6 ?_
  refine f_topi (y := nI u) hu ?_
  refine z_bipush C dX12_keep_7 kb_8 ?_
  refine z_icmp_ne C 53 dX12_keep_9 (by decide) (fun _ => ?_) (fun hbr => absurd hbr (fun q => absurd ((nI_eq (by omega) (by decide)).mp (show nI u = nI 8 from q)) (by omega)))
  refine z_iconst C dX12_keep_53 ki_0 ?_
  refine z_istore_n C [(1, .int 0), (0, .ref (B.1 + 113))] dX12_keep_54 rfl (by decide) rfl ?_
  refine z_G (congrArg (fun z => zg B z t) (wCpp_0 s u).symm) ?_
  exact z_lv [0, 1] rfl (l_X12_keep2 hl C u hu8 hu E 6 0 (by omega))
theorem c_X12_keep (l : Launch) (B : zB) (s : zS) (t : zL) (p : Nat) (hp : p ≤ 8) (hc : s 114 8 = nI p) : zD l B mX12_keep s t [.ref (B.1 + 113)] none (wKeep s p) t := by
  unfold wKeep
  split
  · next q => subst q; exact c_X12_keepB l B s t hc
  · next q => exact c_X12_keepA l B s t p (by omega) hc
def wGoEnd (s : zS) (c : Int32) : zS := zu (zu (zu (zu (zu s 114 2 (s 114 2 ||| c)) 114 1 0) 114 3 0) 114 4 0) 114 6 (s 114 6 + 1)
abbrev mX12_goEnd : zM := (yX12_goEnd, cX12_goEnd, 2, none, { frames := 0, cells := 0, slots := 0, locals := 0 })
set_option maxRecDepth 100000 in
set_option maxHeartbeats 4000000 in
theorem c_X12_goEnd (l : Launch) (B : zB) (s : zS) (t : zL) (c : Int32) : zD l B mX12_goEnd s t [.ref (B.1 + 113), .int c] none (wGoEnd s c) t := by
  refine z_met (by decide) (Nat.le_of_ble_eq_true rfl) ?_
  intro X hl C E hnm
  show Zf X B mX12_goEnd s t 0 [(0, .ref (B.1 + 113)), (1, .int c)] []
  refine z_aload_n C dX12_goEnd_0 0 rfl rfl ?_
  refine f_get12 C 0 (v := .ref (B.1 + 114)) (by decide) tw_744 rfl zk_113 zb_113 rfl dX12_goEnd_1 ?_
  refine z_iconst C dX12_goEnd_4 ki_2 ?_
  refine z_dup2 C dX12_goEnd_5 rfl rfl ?_
  refine f_ialdL C zk_114 zb_114 (by unfold vp_in; decide) (j := 2) (by decide) dX12_goEnd_6 ?_
  refine z_iload_n C dX12_goEnd_7 1 rfl rfl ?_
  refine z_ior C dX12_goEnd_8 ?_
  refine f_iastL C zk_114 zb_114 (by unfold vp_in; decide) (j := 2) (by decide) dX12_goEnd_9 ?_
  refine z_aload_n C dX12_goEnd_10 0 rfl rfl ?_
  refine f_get12 C 0 (v := .ref (B.1 + 114)) (by decide) tw_744 rfl zk_113 zb_113 rfl dX12_goEnd_11 ?_
  refine z_iconst C dX12_goEnd_14 ki_1 ?_
  refine z_iconst C dX12_goEnd_15 ki_0 ?_
  refine f_iastL C zk_114 zb_114 (by unfold vp_in; decide) (j := 1) (by decide) dX12_goEnd_16 ?_
  refine z_aload_n C dX12_goEnd_17 0 rfl rfl ?_
  refine f_get12 C 0 (v := .ref (B.1 + 114)) (by decide) tw_744 rfl zk_113 zb_113 rfl dX12_goEnd_18 ?_
  refine z_iconst C dX12_goEnd_21 ki_3 ?_
  refine z_iconst C dX12_goEnd_22 ki_0 ?_
  refine f_iastL C zk_114 zb_114 (by unfold vp_in; decide) (j := 3) (by decide) dX12_goEnd_23 ?_
  refine z_aload_n C dX12_goEnd_24 0 rfl rfl ?_
  refine f_get12 C 0 (v := .ref (B.1 + 114)) (by decide) tw_744 rfl zk_113 zb_113 rfl dX12_goEnd_25 ?_
  refine z_iconst C dX12_goEnd_28 ki_4 ?_
  refine z_iconst C dX12_goEnd_29 ki_0 ?_
  refine f_iastL C zk_114 zb_114 (by unfold vp_in; decide) (j := 4) (by decide) dX12_goEnd_30 ?_
  refine z_aload_n C dX12_goEnd_31 0 rfl rfl ?_
  refine f_get12 C 0 (v := .ref (B.1 + 114)) (by decide) tw_744 rfl zk_113 zb_113 rfl dX12_goEnd_32 ?_
  refine z_bipush C dX12_goEnd_35 kb_6 ?_
  refine z_dup2 C dX12_goEnd_37 rfl rfl ?_
  refine f_ialdL C zk_114 zb_114 (by unfold vp_in; decide) (j := 6) (by decide) dX12_goEnd_38 ?_
  refine z_iconst C dX12_goEnd_39 ki_1 ?_
  refine z_iadd C dX12_goEnd_40 ?_
  refine f_iastL C zk_114 zb_114 (by unfold vp_in; decide) (j := 6) (by decide) dX12_goEnd_41 ?_
  refine z_vret C E rfl dX12_goEnd_42 rfl (Nat.le_refl _) ⟨rfl, congrArg (fun z => zg B z t) (by simp [wGoEnd, zu])⟩
abbrev mX12_mostFree : zM := (yX12_mostFree, cX12_mostFree, 4, (some .int), { frames := 4, cells := 0, slots := 0, locals := 92 })
set_option maxRecDepth 100000 in
set_option maxHeartbeats 4000000 in
theorem l_X12_mostFree {l : Launch} {B : zB} {s : zS} {t : zL} {X : zX} (hl : X.2.1 = l) (C : zC X B mX12_mostFree) (N : Nat) (K Lo Ha : Nat → Int32) (sl dy : Int32) (hd : wHd s N K Lo Ha sl dy) (E : zE X B mX12_mostFree 124 0 0 (zR B (some (.int (wBest (fun b => decide (wWho K Lo Ha sl dy b N = 0)) (255 &&& ((s 114 1 ||| s 114 2) ^^^ (-1))) 255))) s t)) : ∀ (m : Nat) (i : Nat) (a : Int32), i + m = 255 → a = wBest (fun b => decide (wWho K Lo Ha sl dy b N = 0)) (255 &&& ((s 114 1 ||| s 114 2) ^^^ (-1))) i → Zf X B mX12_mostFree s t 4 [(2, .int (nI (i + 1))), (1, .int a), (0, .ref (B.1 + 113))] [] := by
  intro m
  induction m with
  | zero =>
    intro i a hi ha
    obtain rfl : i = 255 := by omega
    refine z_iload_n C dX12_mostFree_4 0 rfl rfl ?_
    refine z_sipush C dX12_mostFree_5 ks_255 ?_
    refine z_icmp_gt C 63 dX12_mostFree_8 (by decide) (fun _ => ?_) (fun hbr => absurd (by decide) hbr)
    refine z_iload_n C dX12_mostFree_63 1 rfl rfl ?_
    refine z_iret C E rfl dX12_mostFree_64 rfl (Nat.le_refl _) ⟨by rw [ha], rfl⟩
  | succ m ih =>
    intro i a hi0 ha
    have hi : i < 255 := by omega
    have h8 : r8 (nI (i + 1)) := r8_of (by omega)
    have h9 : r8 a := by rw [ha]; exact wBest_r8 _ _ _ (by omega)
    refine z_iload_n C dX12_mostFree_4 0 rfl rfl ?_
    refine z_sipush C dX12_mostFree_5 ks_255 ?_
    refine z_icmp_gt C 63 dX12_mostFree_8 (by decide) (fun hbr => absurd hbr (show ¬ nI 255 < nI (i + 1) from nI_nlt (by omega) (by decide))) (fun _ => ?_)
    refine z_iload_n C dX12_mostFree_11 0 rfl rfl ?_
    refine z_aload_n C dX12_mostFree_12 2 rfl rfl ?_
    refine f_callVr C hl (As := []) (rest := [.int (nI (i + 1))]) (c_X12_free l B s t) zb_113 (zg_12 zk_113) rfl (zCB (nA := 0) C rfl rfl tw_843 tw_13 tw_840 (by decide +kernel) ⟨Nat.le_of_ble_eq_true rfl, Nat.le_of_ble_eq_true rfl⟩) tw_842 tp_29 rfl rfl (Nat.le_of_ble_eq_true rfl) dX12_mostFree_13 (Nat.zero_le _) ?_
    refine z_iconst C dX12_mostFree_16 ki_m1 ?_
    refine z_ixor C dX12_mostFree_17 ?_
    refine z_iand C dX12_mostFree_18 ?_
    refine z_if_ne C 37 dX12_mostFree_19 (by decide) (fun h19 => ?_) (fun h19 => ?_)
    · refine z_iconst C dX12_mostFree_37 ki_0 ?_
      refine z_istore_n C [(3, .int 0), (2, .int (nI (i + 1))), (1, .int a), (0, .ref (B.1 + 113))] dX12_mostFree_38 rfl (by decide) rfl ?_
      refine z_iload_n C dX12_mostFree_39 0 rfl rfl ?_
      refine z_if_eq C 55 dX12_mostFree_40 (by decide) (fun _ => ?_) (fun hbr => absurd (by decide) hbr)
      refine z_iload_n C dX12_mostFree_55 2 rfl rfl ?_
      refine z_istore_n C [(1, .int a), (3, .int 0), (2, .int (nI (i + 1))), (0, .ref (B.1 + 113))] dX12_mostFree_56 rfl (by decide) rfl ?_
      refine z_iinc C [(2, .int (nI (i + 1 + 1))), (1, .int a), (3, .int 0), (0, .ref (B.1 + 113))] dX12_mostFree_57 2 rfl (nI_inc (i + 1)) (by decide) rfl ?_
      refine z_goto C 4 dX12_mostFree_60 (by decide) ?_
      exact z_lv [0, 1, 3] rfl (ih (i + 1) _ (by omega) (wBest_n1 ha h19))
    · refine z_iload_n C dX12_mostFree_22 0 rfl rfl ?_
      refine f_callSr C hl (As := [.int (nI (i + 1))]) (rest := []) (c_X12_bits l B s t (nI (i + 1)) h8) (zCB (nA := 1) C rfl rfl tw_877 tw_13 tw_875 (by decide +kernel) ⟨Nat.le_of_ble_eq_true rfl, Nat.le_of_ble_eq_true rfl⟩) tw_876 rfl rfl (Nat.le_of_ble_eq_true rfl) dX12_mostFree_23 (Nat.zero_le _) ?_
      refine z_iload_n C dX12_mostFree_26 1 rfl rfl ?_
      refine f_callSr C hl (As := [.int a]) (rest := [.int (wPop (nI (i + 1)))]) (c_X12_bits l B s t a h9) (zCB (nA := 1) C rfl rfl tw_877 tw_13 tw_875 (by decide +kernel) ⟨Nat.le_of_ble_eq_true rfl, Nat.le_of_ble_eq_true rfl⟩) tw_876 rfl rfl (Nat.le_of_ble_eq_true rfl) dX12_mostFree_27 (Nat.zero_le _) ?_
      refine z_icmp_le C 37 dX12_mostFree_30 (by decide) (fun h30 => ?_) (fun h30 => ?_)
      · refine z_iconst C dX12_mostFree_37 ki_0 ?_
        refine z_istore_n C [(3, .int 0), (2, .int (nI (i + 1))), (1, .int a), (0, .ref (B.1 + 113))] dX12_mostFree_38 rfl (by decide) rfl ?_
        refine z_iload_n C dX12_mostFree_39 0 rfl rfl ?_
        refine z_if_eq C 55 dX12_mostFree_40 (by decide) (fun _ => ?_) (fun hbr => absurd (by decide) hbr)
        refine z_iload_n C dX12_mostFree_55 2 rfl rfl ?_
        refine z_istore_n C [(1, .int a), (3, .int 0), (2, .int (nI (i + 1))), (0, .ref (B.1 + 113))] dX12_mostFree_56 rfl (by decide) rfl ?_
        refine z_iinc C [(2, .int (nI (i + 1 + 1))), (1, .int a), (3, .int 0), (0, .ref (B.1 + 113))] dX12_mostFree_57 2 rfl (nI_inc (i + 1)) (by decide) rfl ?_
        refine z_goto C 4 dX12_mostFree_60 (by decide) ?_
        exact z_lv [0, 1, 3] rfl (ih (i + 1) _ (by omega) (wBest_n2 ha h30))
      · refine z_iconst C dX12_mostFree_33 ki_1 ?_
        refine z_goto C 38 dX12_mostFree_34 (by decide) ?_
        refine z_istore_n C [(3, .int 1), (2, .int (nI (i + 1))), (1, .int a), (0, .ref (B.1 + 113))] dX12_mostFree_38 rfl (by decide) rfl ?_
        refine z_iload_n C dX12_mostFree_39 0 rfl rfl ?_
        refine z_if_eq C 55 dX12_mostFree_40 (by decide) (fun hbr => absurd hbr (by decide)) (fun _ => ?_)
        refine z_aload_n C dX12_mostFree_43 3 rfl rfl ?_
        refine z_iload_n C dX12_mostFree_44 1 rfl rfl ?_
        refine f_callVr C hl (As := [.int (nI (i + 1))]) (rest := []) (c_X12_stopping l B s t N K Lo Ha sl dy hd (nI (i + 1)) h8) zb_113 (zg_12 zk_113) rfl (zCB (nA := 1) C rfl rfl tw_863 tw_13 tw_860 (by decide +kernel) ⟨Nat.le_of_ble_eq_true rfl, Nat.le_of_ble_eq_true rfl⟩) tw_862 tp_34 rfl rfl (Nat.le_of_ble_eq_true rfl) dX12_mostFree_45 (Nat.zero_le _) ?_
        refine z_if_ne C 55 dX12_mostFree_48 (by decide) (fun h48 => ?_) (fun h48 => ?_)
        · refine z_iload_n C dX12_mostFree_55 2 rfl rfl ?_
          refine z_istore_n C [(1, .int a), (3, .int 1), (2, .int (nI (i + 1))), (0, .ref (B.1 + 113))] dX12_mostFree_56 rfl (by decide) rfl ?_
          refine z_iinc C [(2, .int (nI (i + 1 + 1))), (1, .int a), (3, .int 1), (0, .ref (B.1 + 113))] dX12_mostFree_57 2 rfl (nI_inc (i + 1)) (by decide) rfl ?_
          refine z_goto C 4 dX12_mostFree_60 (by decide) ?_
          exact z_lv [0, 1, 3] rfl (ih (i + 1) _ (by omega) (wBest_n3 ha (decide_eq_false h48)))
        · refine z_iload_n C dX12_mostFree_51 1 rfl rfl ?_
          refine z_goto C 56 dX12_mostFree_52 (by decide) ?_
          refine z_istore_n C [(1, .int (nI (i + 1))), (3, .int 1), (2, .int (nI (i + 1))), (0, .ref (B.1 + 113))] dX12_mostFree_56 rfl (by decide) rfl ?_
          refine z_iinc C [(2, .int (nI (i + 1 + 1))), (1, .int (nI (i + 1))), (3, .int 1), (0, .ref (B.1 + 113))] dX12_mostFree_57 2 rfl (nI_inc (i + 1)) (by decide) rfl ?_
          refine z_goto C 4 dX12_mostFree_60 (by decide) ?_
          exact z_lv [0, 1, 3] rfl (ih (i + 1) _ (by omega) (wBest_y ha h19 h30 (decide_eq_true h48)))
set_option maxRecDepth 100000 in
set_option maxHeartbeats 4000000 in
theorem c_X12_mostFree (l : Launch) (B : zB) (s : zS) (t : zL) (N : Nat) (K Lo Ha : Nat → Int32) (sl dy : Int32) (hd : wHd s N K Lo Ha sl dy) : zD l B mX12_mostFree s t [.ref (B.1 + 113)] (some (.int (wBest (fun b => decide (wWho K Lo Ha sl dy b N = 0)) (255 &&& ((s 114 1 ||| s 114 2) ^^^ (-1))) 255))) s t := by
  refine z_met (by decide) (Nat.le_of_ble_eq_true rfl) ?_
  intro X hl C E hnm
  show Zf X B mX12_mostFree s t 0 [(0, .ref (B.1 + 113))] []
  refine z_iconst C dX12_mostFree_0 ki_0 ?_
  refine z_istore_n C [(1, .int 0), (0, .ref (B.1 + 113))] dX12_mostFree_1 rfl (by decide) rfl ?_
  refine z_iconst C dX12_mostFree_2 ki_1 ?_
  refine z_istore_n C [(2, .int 1), (1, .int 0), (0, .ref (B.1 + 113))] dX12_mostFree_3 rfl (by decide) rfl ?_
  exact z_lv [0, 1, 2] rfl (l_X12_mostFree hl C N K Lo Ha sl dy hd E 255 0 0 (by omega) rfl)
abbrev mX12_costOfAll : zM := (yX12_costOfAll, cX12_costOfAll, 4, (some .int), { frames := 2, cells := 0, slots := 0, locals := 44 })
set_option maxRecDepth 100000 in
set_option maxHeartbeats 4000000 in
theorem l_X12_costOfAll {l : Launch} {B : zB} {s : zS} {t : zL} {X : zX} (hl : X.2.1 = l) (C : zC X B mX12_costOfAll) (N : Nat) (K Lo Ha : Nat → Int32) (sl dy : Int32) (hd : wHd s N K Lo Ha sl dy) (w : Int32) (hw : r8 w) (E : zE X B mX12_costOfAll 124 0 0 (zR B (some (.int (wSum K (fun d => s 114 (9 + 4 * d + 3)) w N))) s t)) : ∀ (m : Nat) (i : Nat) (a : Int32), i + m = N → a = wSum K (fun d => s 114 (9 + 4 * d + 3)) w i → Zf X B mX12_costOfAll s t 4 [(3, .int (nI i)), (2, .int a), (0, .ref (B.1 + 113)), (1, .int w)] [] := by
  intro m
  induction m with
  | zero =>
    intro i a hi ha
    have h6 := hd.2.1
    refine z_iload_n C dX12_costOfAll_4 0 rfl rfl ?_
    refine z_aload_n C dX12_costOfAll_5 2 rfl rfl ?_
    refine f_callVr C hl (As := []) (rest := [.int (nI i)]) (c_X12_many l B s t) zb_113 (zg_12 zk_113) rfl (zCB (nA := 0) C rfl rfl tw_818 tw_13 tw_815 (by decide +kernel) ⟨Nat.le_of_ble_eq_true rfl, Nat.le_of_ble_eq_true rfl⟩) tw_817 tp_27 rfl rfl (Nat.le_of_ble_eq_true rfl) dX12_costOfAll_6 (Nat.zero_le _) ?_
    refine f_topi (y := nI N) hd.1 ?_
    refine z_icmp_ge C 38 dX12_costOfAll_9 (by decide) (fun _ => ?_) (fun hbr => absurd (nI_le (by omega) (by omega)) hbr)
    refine z_iload_n C dX12_costOfAll_38 1 rfl rfl ?_
    refine z_iret C E rfl dX12_costOfAll_39 rfl (Nat.le_refl _) ⟨by rw [ha, show i = N by omega], rfl⟩
  | succ m ih =>
    intro i a hi0 ha
    have hi : i < N := by omega
    have h6 := hd.2.1
    refine z_iload_n C dX12_costOfAll_4 0 rfl rfl ?_
    refine z_aload_n C dX12_costOfAll_5 2 rfl rfl ?_
    refine f_callVr C hl (As := []) (rest := [.int (nI i)]) (c_X12_many l B s t) zb_113 (zg_12 zk_113) rfl (zCB (nA := 0) C rfl rfl tw_818 tw_13 tw_815 (by decide +kernel) ⟨Nat.le_of_ble_eq_true rfl, Nat.le_of_ble_eq_true rfl⟩) tw_817 tp_27 rfl rfl (Nat.le_of_ble_eq_true rfl) dX12_costOfAll_6 (Nat.zero_le _) ?_
    refine f_topi (y := nI N) hd.1 ?_
    refine z_icmp_ge C 38 dX12_costOfAll_9 (by decide) (fun hbr => absurd hbr (nI_ge hi (by omega))) (fun _ => ?_)
    refine z_iload_n C dX12_costOfAll_12 1 rfl rfl ?_
    refine z_iload_n C dX12_costOfAll_13 3 rfl rfl ?_
    refine z_iload_n C dX12_costOfAll_14 0 rfl rfl ?_
    refine f_callSr C hl (As := [.int w, .int (nI i)]) (rest := [.int a]) (c_X12_has l B s t w (nI i)) (zCB (nA := 2) C rfl rfl tw_866 tw_13 tw_864 (by decide +kernel) ⟨Nat.le_of_ble_eq_true rfl, Nat.le_of_ble_eq_true rfl⟩) tw_865 rfl rfl (Nat.le_of_ble_eq_true rfl) dX12_costOfAll_15 (Nat.zero_le _) ?_
    refine z_ifb_eq C 29 dX12_costOfAll_18 (by decide) (fun h18 => ?_) (fun h18 => ?_)
    · refine z_iconst C dX12_costOfAll_29 ki_0 ?_
      refine z_iadd C dX12_costOfAll_30 ?_
      refine z_istore_n C [(2, .int (a + 0)), (3, .int (nI i)), (0, .ref (B.1 + 113)), (1, .int w)] dX12_costOfAll_31 rfl (by decide) rfl ?_
      refine z_iinc C [(3, .int (nI (i + 1))), (2, .int (a + 0)), (0, .ref (B.1 + 113)), (1, .int w)] dX12_costOfAll_32 1 rfl (nI_inc i) (by decide) rfl ?_
      refine z_goto C 4 dX12_costOfAll_35 (by decide) ?_
      exact z_lv [0, 1, 2, 3] rfl (ih (i + 1) _ (by omega) (wSum_n (K := K) (P := fun d => s 114 (9 + 4 * d + 3)) ha (Classical.byContradiction fun q => by rw [(has_bit hw (by omega)).mpr q] at h18; exact absurd h18 (by decide))))
    · refine z_aload_n C dX12_costOfAll_21 2 rfl rfl ?_
      refine z_iload_n C dX12_costOfAll_22 0 rfl rfl ?_
      refine f_callVr C hl (As := [.int (nI i)]) (rest := [.int a]) (c_X12_costOf l B s t i (by omega) (K i) (s 114 (9 + 4 * i + 3)) (hd.2.2.1 i hi).1 rfl) zb_113 (zg_12 zk_113) rfl (zCB (nA := 1) C rfl rfl tw_897 tw_13 tw_894 (by decide +kernel) ⟨Nat.le_of_ble_eq_true rfl, Nat.le_of_ble_eq_true rfl⟩) tw_896 tp_39 rfl rfl (Nat.le_of_ble_eq_true rfl) dX12_costOfAll_23 (Nat.zero_le _) ?_
      refine z_goto C 30 dX12_costOfAll_26 (by decide) ?_
      refine z_iadd C dX12_costOfAll_30 ?_
      refine z_istore_n C [(2, .int (a + (wCost (K i) (s 114 (9 + 4 * i + 3))))), (3, .int (nI i)), (0, .ref (B.1 + 113)), (1, .int w)] dX12_costOfAll_31 rfl (by decide) rfl ?_
      refine z_iinc C [(3, .int (nI (i + 1))), (2, .int (a + (wCost (K i) (s 114 (9 + 4 * i + 3))))), (0, .ref (B.1 + 113)), (1, .int w)] dX12_costOfAll_32 1 rfl (nI_inc i) (by decide) rfl ?_
      refine z_goto C 4 dX12_costOfAll_35 (by decide) ?_
      exact z_lv [0, 1, 2, 3] rfl (ih (i + 1) _ (by omega) (wSum_y (K := K) (P := fun d => s 114 (9 + 4 * d + 3)) ha ((has_bit hw (by omega)).mp h18)))
set_option maxRecDepth 100000 in
set_option maxHeartbeats 4000000 in
theorem c_X12_costOfAll (l : Launch) (B : zB) (s : zS) (t : zL) (N : Nat) (K Lo Ha : Nat → Int32) (sl dy : Int32) (hd : wHd s N K Lo Ha sl dy) (w : Int32) (hw : r8 w) : zD l B mX12_costOfAll s t [.ref (B.1 + 113), .int w] (some (.int (wSum K (fun d => s 114 (9 + 4 * d + 3)) w N))) s t := by
  refine z_met (by decide) (Nat.le_of_ble_eq_true rfl) ?_
  intro X hl C E hnm
  show Zf X B mX12_costOfAll s t 0 [(0, .ref (B.1 + 113)), (1, .int w)] []
  refine z_iconst C dX12_costOfAll_0 ki_0 ?_
  refine z_istore_n C [(2, .int 0), (0, .ref (B.1 + 113)), (1, .int w)] dX12_costOfAll_1 rfl (by decide) rfl ?_
  refine z_iconst C dX12_costOfAll_2 ki_0 ?_
  refine z_istore_n C [(3, .int 0), (2, .int 0), (0, .ref (B.1 + 113)), (1, .int w)] dX12_costOfAll_3 rfl (by decide) rfl ?_
  exact z_lv [0, 1, 2, 3] rfl (l_X12_costOfAll hl C N K Lo Ha sl dy hd w hw E N 0 0 (by omega) rfl)
