abbrev mX12_diets : zM := (yX12_diets, cX12_diets, 10, (some .int), { frames := 4, cells := 0, slots := 0, locals := 92 })
set_option maxRecDepth 100000 in
set_option maxHeartbeats 4000000 in
theorem c_X12_diets_bad (l : Launch) (B : zB) (s : zS) (t : zL) (a n : Int32) (h : (wIn a 999999 && wIn n 30) = false) : zD l B mX12_diets s t [.ref (B.1 + 113), .int a, .int n] (some (.int (-2))) (zu s 117 0 (s 117 0 + 1)) t := by
  refine z_met (by decide) (Nat.le_of_ble_eq_true rfl) ?_
  intro X hl C E hnm
  show Zf X B mX12_diets s t 0 [(0, .ref (B.1 + 113)), (1, .int a), (2, .int n)] []
  refine z_iload_n C dX12_diets_0 1 rfl rfl ?_
  refine z_i2l C dX12_diets_1 ?_
  refine z_lconst C dX12_diets_2 kl_0 ?_
  refine z_ldc2 C dX12_diets_3 tw_1008 ?_
  refine f_callSr C hl (As := [.long ((a : Int32).toInt64), .long 0, .long 999999]) (rest := []) (c_X12_in0 l B s t a 999999 ((a : Int32).toInt64) 999999 rfl (by decide)) (zCB (nA := 3) C rfl rfl tw_810 tw_13 tw_808 (by decide +kernel) ⟨Nat.le_of_ble_eq_true rfl, Nat.le_of_ble_eq_true rfl⟩) tw_809 rfl rfl (Nat.le_of_ble_eq_true rfl) dX12_diets_6 (Nat.zero_le _) ?_
  refine z_ifb_eq C 24 dX12_diets_9 (by decide) (fun h9 => ?_) (fun h9 => ?_)
  · refine z_aload_n C dX12_diets_24 0 rfl rfl ?_
    refine z_bipush C dX12_diets_25 kb_m2 ?_
    refine f_callVr C hl (As := [.int (-2)]) (rest := []) (c_X12_bad l B s t (-2)) zb_113 (zg_12 zk_113) rfl (zCB (nA := 1) C rfl rfl tw_814 tw_13 tw_811 (by decide +kernel) ⟨Nat.le_of_ble_eq_true rfl, Nat.le_of_ble_eq_true rfl⟩) tw_813 tp_26 rfl rfl (Nat.le_of_ble_eq_true rfl) dX12_diets_27 (Nat.zero_le _) ?_
    refine z_iret C E rfl dX12_diets_30 rfl (Nat.le_refl _) ⟨rfl, rfl⟩
  · refine z_iload_n C dX12_diets_12 2 rfl rfl ?_
    refine z_i2l C dX12_diets_13 ?_
    refine z_lconst C dX12_diets_14 kl_0 ?_
    refine z_ldc2 C dX12_diets_15 tw_1009 ?_
    refine f_callSr C hl (As := [.long ((n : Int32).toInt64), .long 0, .long 30]) (rest := []) (c_X12_in0 l B s t n 30 ((n : Int32).toInt64) 30 rfl (by decide)) (zCB (nA := 3) C rfl rfl tw_810 tw_13 tw_808 (by decide +kernel) ⟨Nat.le_of_ble_eq_true rfl, Nat.le_of_ble_eq_true rfl⟩) tw_809 rfl rfl (Nat.le_of_ble_eq_true rfl) dX12_diets_18 (Nat.zero_le _) ?_
    refine z_ifb_ne C 31 dX12_diets_21 (by decide) (fun h21 => ?_) (fun h21 => ?_)
    · exact absurd h (by rw [h9, h21]; decide)
    · refine z_aload_n C dX12_diets_24 0 rfl rfl ?_
      refine z_bipush C dX12_diets_25 kb_m2 ?_
      refine f_callVr C hl (As := [.int (-2)]) (rest := []) (c_X12_bad l B s t (-2)) zb_113 (zg_12 zk_113) rfl (zCB (nA := 1) C rfl rfl tw_814 tw_13 tw_811 (by decide +kernel) ⟨Nat.le_of_ble_eq_true rfl, Nat.le_of_ble_eq_true rfl⟩) tw_813 tp_26 rfl rfl (Nat.le_of_ble_eq_true rfl) dX12_diets_27 (Nat.zero_le _) ?_
      refine z_iret C E rfl dX12_diets_30 rfl (Nat.le_refl _) ⟨rfl, rfl⟩
def mDx (x : Int64) : Nat → Int64
  | 0 => x
  | i + 1 => wDx (mDx x i)
def mDs (s : zS) : Nat → Int32
  | 0 => mS s
  | _ + 1 => 0
def mDp (s : zS) : Nat → Int32
  | 0 => s 114 1
  | _ + 1 => 0
def mDb (s : zS) (x : Int64) (i : Nat) (f : Int32) : Int32 := (wDl (mDx x (i + 1)) &&& (mDp s i ^^^ (-1))) &&& (f ^^^ (-1))
def mDw (s : zS) (N : Nat) (i : Nat) (b : Int32) : Int32 := wWho (mK s) (mL s) (mH s) (mDs s i) (s 114 6 + nI i) b N
def mDf (s : zS) (N : Nat) (x : Int64) : Nat → Int32
  | 0 => s 114 2
  | i + 1 => if mDw s N i (mDb s x i (mDf s N x i)) = 0 then mDf s N x i ||| (mDp s i ||| mDb s x i (mDf s N x i)) else mDf s N x i
def mDS (s : zS) (N : Nat) (i : Nat) : zS := zu (zu (wHand s N) 113 9 (mDs s i)) 113 10 (s 114 6 + nI i)
theorem mDS_row (s : zS) {N i k : Nat} (h : k ≠ 113) : mDS s N i k = wHand s N k := by rw [mDS, zu_row _ _ h, zu_row _ _ h]
theorem mDS_0 (s : zS) {N : Nat} (mo : mOk s N) : wHand s N = mDS s N 0 := by
  rw [mDS, show mDs s 0 = wHand s N 113 9 from (hd_hand mo).2.2.2.2.1.symm, zu_self, show s 114 6 + nI 0 = wHand s N 113 10 from (Int32.add_zero _).trans (hd_day mo).symm, zu_self]
theorem mDS_day (s : zS) (N i : Nat) : mDS s N i 113 10 = s 114 6 + nI i := zu_same _ _ _ _
theorem mDS_s (s : zS) (N i : Nat) : zu (zu (mDS s N i) 113 9 0) 113 10 (s 114 6 + nI (i + 1)) = mDS s N (i + 1) := by
  funext a b
  simp only [mDS, mDs, zu]
  by_cases h : a = 113 ∧ b = 10
  · simp only [if_pos h]
  · by_cases h2 : a = 113 ∧ b = 9
    · simp only [if_neg h, if_pos h2]
    · simp only [if_neg h, if_neg h2]
theorem mDs_r8 {s : zS} {N : Nat} (mo : mOk s N) (i : Nat) : r8 (mDs s i) := by
  cases i with
  | zero => exact mS_r8 mo
  | succ i => exact r8_of (n := 0) (by decide)
theorem mDp_r8 {s : zS} (h : r8 (s 114 1)) (i : Nat) : r8 (mDp s i) := by
  cases i with
  | zero => exact h
  | succ i => exact r8_of (n := 0) (by decide)
theorem mDS_hd {s : zS} {N : Nat} (mo : mOk s N) (i : Nat) : wHd (mDS s N i) N (mK s) (mL s) (mH s) (mDs s i) (s 114 6 + nI i) := by
  obtain ⟨h1, h2, h3, h4, h5, h6, h7⟩ := hd_sil (hd_hand mo) (mDs_r8 mo i)
  refine ⟨by rw [mDS, zu_row _ _ (by decide)]; exact h1, h2, fun d hd => ?_, h4, by rw [mDS, zu_ne _ _ (by omega)]; exact h5, h6, mDS_day s N i⟩
  rw [mDS, zu_row _ _ (by decide), zu_row _ _ (by decide), zu_row _ _ (by decide)]
  exact h3 d hd
theorem wDx_N {n : Nat} (h : n < 2 ^ 31) : ∃ k, k < 2 ^ 31 ∧ wDx (lN n) = lN k := by
  refine ⟨(n * 1103515245 + 12345) % 2147483648, Nat.mod_lt _ (by decide), ?_⟩
  have e : lN n * 1103515245 + 12345 = lN (n * 1103515245 + 12345) := by
    rw [show (1103515245 : Int64) = lN 1103515245 from rfl, show (12345 : Int64) = lN 12345 from rfl, lN_mul, lN_add]
  rw [wDx, e]
  exact pk_lRem (by omega) (by decide) (by decide)
theorem mDx_N {n : Nat} (h : n < 2 ^ 31) (i : Nat) : ∃ k, k < 2 ^ 31 ∧ mDx (lN n) i = lN k := by
  induction i with
  | zero => exact ⟨n, h, rfl⟩
  | succ i ih =>
    obtain ⟨k, hk, e⟩ := ih
    obtain ⟨k2, hk2, e2⟩ := wDx_N hk
    exact ⟨k2, hk2, by rw [mDx, e, e2]⟩
theorem wDl_N {n : Nat} (h : n < 2 ^ 31) : r8 (wDl (lN n)) := by
  have e : lN n / 65536 = lN (n / 65536) := pk_lDiv (by omega) (by decide) (by decide)
  rw [wDl, e, show lN (n / 65536) - lN (n / 65536) / 256 * 256 = lN (n / 65536 % 256) from pk_lRem (by omega) (by decide) (by decide), lN_i]
  exact r8_of (Nat.mod_lt _ (by decide))
theorem mDb_r8 {n : Nat} (h : n < 2 ^ 31) (s : zS) (i : Nat) (f : Int32) : r8 (mDb s (lN n) i f) := by
  obtain ⟨k, hk, e⟩ := mDx_N h (i + 1)
  rw [mDb, e]
  exact r8_and (r8_and (wDl_N hk))
theorem mDf_r8 {s : zS} {n : Nat} (h : n < 2 ^ 31) (h1 : r8 (s 114 1)) (h2 : r8 (s 114 2)) (N : Nat) (i : Nat) : r8 (mDf s N (lN n) i) := by
  induction i with
  | zero => exact h2
  | succ i ih =>
    rw [mDf]
    split
    · exact r8_or ih (r8_or (mDp_r8 h1 i) (mDb_r8 h s i _))
    · exact ih
set_option maxRecDepth 100000 in
set_option maxHeartbeats 4000000 in
theorem l_X12_diets {l : Launch} {B : zB} {s : zS} {t : zL} {X : zX} (hl : X.2.1 = l) (C : zC X B mX12_diets) (N : Nat) (mo : mOk s N) (h6 : N ≤ 6) (h1 : r8 (s 114 1)) (h2 : r8 (s 114 2)) (a0 : Nat) (ha0 : a0 < 2 ^ 31) (n : Nat) (hn : n ≤ 30) (E : zE X B mX12_diets 124 0 0 (zR B (some (.int (wPop (mDf s N (lN a0) n)))) (mDS s N n) t)) : ∀ (m : Nat) (i : Nat), i + m = n → Zf X B mX12_diets (mDS s N i) t 57 [(7, .int (nI i)), (6, .int (mDf s N (lN a0) i)), (5, .int (mDp s i)), (3, .long (mDx (lN a0) i)), (0, .ref (B.1 + 113)), (1, .int (nI a0)), (2, .int (nI n))] [] := by
  intro m
  induction m with
  | zero =>
    intro i hi
    refine z_iload C dX12_diets_57 0 rfl ?_
    refine z_iload_n C dX12_diets_59 6 rfl rfl ?_
    refine z_icmp_ge C 158 dX12_diets_60 (by decide) (fun _ => ?_) (fun hbr => absurd (nI_le (by omega) (by omega)) hbr)
    refine z_iload C dX12_diets_158 1 rfl ?_
    refine f_callSr C hl (As := [.int (mDf s N (lN a0) i)]) (rest := []) (c_X12_bits l B (mDS s N i) t (mDf s N (lN a0) i) (mDf_r8 ha0 h1 h2 N i)) (zCB (nA := 1) C rfl rfl tw_877 tw_13 tw_875 (by decide +kernel) ⟨Nat.le_of_ble_eq_true rfl, Nat.le_of_ble_eq_true rfl⟩) tw_876 rfl rfl (Nat.le_of_ble_eq_true rfl) dX12_diets_160 (Nat.zero_le _) ?_
    refine z_iret C E rfl dX12_diets_163 rfl (Nat.le_refl _) ⟨by rw [show i = n by omega], by rw [show i = n by omega]⟩
  | succ m ih =>
    intro i hi0
    have hi : i < n := by omega
    refine z_iload C dX12_diets_57 0 rfl ?_
    refine z_iload_n C dX12_diets_59 6 rfl rfl ?_
    refine z_icmp_ge C 158 dX12_diets_60 (by decide) (fun hbr => absurd hbr (nI_ge hi (by omega))) (fun _ => ?_)
    refine z_lload_n C dX12_diets_63 3 rfl rfl ?_
    refine z_ldc2 C dX12_diets_64 tw_1010 ?_
    refine z_lmul C dX12_diets_67 ?_
    refine z_ldc2 C dX12_diets_68 tw_1011 ?_
    refine z_ladd C dX12_diets_71 ?_
    refine z_ldc2 C dX12_diets_72 tw_1012 ?_
    refine z_lrem C dX12_diets_75 (by decide) ?_
    refine f_topl (y := mDx (lN a0) (i + 1)) rfl ?_
    refine z_lstore_n C [(3, .long (mDx (lN a0) (i + 1))), (7, .int (nI i)), (6, .int (mDf s N (lN a0) i)), (5, .int (mDp s i)), (0, .ref (B.1 + 113)), (1, .int (nI a0)), (2, .int (nI n))] dX12_diets_76 rfl (by decide) rfl ?_
    refine z_lload_n C dX12_diets_77 0 rfl rfl ?_
    refine z_ldc2 C dX12_diets_78 tw_1013 ?_
    refine z_ldiv C dX12_diets_81 (by decide) ?_
    refine z_ldc2 C dX12_diets_82 tw_1014 ?_
    refine z_lrem C dX12_diets_85 (by decide) ?_
    refine z_l2i C dX12_diets_86 ?_
    refine f_topi (y := wDl (mDx (lN a0) (i + 1))) rfl ?_
    refine z_iload C dX12_diets_87 3 rfl ?_
    refine z_iconst C dX12_diets_89 ki_m1 ?_
    refine z_ixor C dX12_diets_90 ?_
    refine z_iand C dX12_diets_91 ?_
    refine z_iload C dX12_diets_92 2 rfl ?_
    refine z_iconst C dX12_diets_94 ki_m1 ?_
    refine z_ixor C dX12_diets_95 ?_
    refine z_iand C dX12_diets_96 ?_
    refine f_topi (y := mDb s (lN a0) i (mDf s N (lN a0) i)) rfl ?_
    refine z_istore C [(8, .int (mDb s (lN a0) i (mDf s N (lN a0) i))), (3, .long (mDx (lN a0) (i + 1))), (7, .int (nI i)), (6, .int (mDf s N (lN a0) i)), (5, .int (mDp s i)), (0, .ref (B.1 + 113)), (1, .int (nI a0)), (2, .int (nI n))] dX12_diets_97 (by decide) rfl ?_
    refine z_aload_n C dX12_diets_99 5 rfl rfl ?_
    refine z_iload C dX12_diets_100 0 rfl ?_
    refine f_callVr C hl (As := [.int (mDb s (lN a0) i (mDf s N (lN a0) i))]) (rest := []) (c_X12_stopping l B (mDS s N i) t N (mK s) (mL s) (mH s) (mDs s i) (s 114 6 + nI i) (mDS_hd mo i) (mDb s (lN a0) i (mDf s N (lN a0) i)) (mDb_r8 ha0 s i _)) zb_113 (zg_12 zk_113) rfl (zCB (nA := 1) C rfl rfl tw_863 tw_13 tw_860 (by decide +kernel) ⟨Nat.le_of_ble_eq_true rfl, Nat.le_of_ble_eq_true rfl⟩) tw_862 tp_34 rfl rfl (Nat.le_of_ble_eq_true rfl) dX12_diets_102 (Nat.zero_le _) ?_
    refine f_topi (y := mDw s N i (mDb s (lN a0) i (mDf s N (lN a0) i))) rfl ?_
    refine z_if_eq C 112 dX12_diets_105 (by decide) (fun h105 => ?_) (fun h105 => ?_)
    · refine z_iconst C dX12_diets_112 ki_0 ?_
      refine z_istore C [(9, .int 0), (8, .int (mDb s (lN a0) i (mDf s N (lN a0) i))), (3, .long (mDx (lN a0) (i + 1))), (7, .int (nI i)), (6, .int (mDf s N (lN a0) i)), (5, .int (mDp s i)), (0, .ref (B.1 + 113)), (1, .int (nI a0)), (2, .int (nI n))] dX12_diets_113 (by decide) rfl ?_
      refine z_iload C dX12_diets_115 4 rfl ?_
      refine z_iload C dX12_diets_117 0 rfl ?_
      refine z_if_eq C 126 dX12_diets_119 (by decide) (fun _ => ?_) (fun hbr => absurd (by decide) hbr)
      refine z_iload C dX12_diets_126 5 rfl ?_
      refine z_iload C dX12_diets_128 1 rfl ?_
      refine z_ior C dX12_diets_130 ?_
      refine z_ior C dX12_diets_131 ?_
      refine z_istore C [(6, .int ((mDf s N (lN a0) i) ||| ((mDp s i) ||| (mDb s (lN a0) i (mDf s N (lN a0) i))))), (9, .int 0), (8, .int (mDb s (lN a0) i (mDf s N (lN a0) i))), (3, .long (mDx (lN a0) (i + 1))), (7, .int (nI i)), (5, .int (mDp s i)), (0, .ref (B.1 + 113)), (1, .int (nI a0)), (2, .int (nI n))] dX12_diets_132 (by decide) rfl ?_
      refine z_iconst C dX12_diets_134 ki_0 ?_
      refine z_istore C [(5, .int 0), (6, .int ((mDf s N (lN a0) i) ||| ((mDp s i) ||| (mDb s (lN a0) i (mDf s N (lN a0) i))))), (9, .int 0), (8, .int (mDb s (lN a0) i (mDf s N (lN a0) i))), (3, .long (mDx (lN a0) (i + 1))), (7, .int (nI i)), (0, .ref (B.1 + 113)), (1, .int (nI a0)), (2, .int (nI n))] dX12_diets_135 (by decide) rfl ?_
      refine z_aload_n C dX12_diets_137 6 rfl rfl ?_
      refine z_iconst C dX12_diets_138 ki_0 ?_
      refine f_put12_9 C tw_753 zk_113 zb_113 dX12_diets_139 ?_
      refine z_aload_n C dX12_diets_142 6 rfl rfl ?_
      refine z_dup C dX12_diets_143 rfl ?_
      refine f_get12 C 10 (v := .int ((zu (mDS s N i) 113 9 0) 113 10)) (by decide) tw_754 rfl zk_113 zb_113 rfl dX12_diets_144 ?_
      refine f_topi (y := s 114 6 + nI i) (by rw [zu_ne _ _ (by omega)]; exact mDS_day s N i) ?_
      refine z_iconst C dX12_diets_147 ki_1 ?_
      refine z_iadd C dX12_diets_148 ?_
      refine f_topi (y := s 114 6 + nI (i + 1)) (by rw [Int32.add_assoc]; exact congrArg (fun z => s 114 6 + z) (nI_1 i)) ?_
      refine f_put12_10 C tw_754 zk_113 zb_113 dX12_diets_149 ?_
      refine z_iinc C [(7, .int (nI (i + 1))), (5, .int 0), (6, .int ((mDf s N (lN a0) i) ||| ((mDp s i) ||| (mDb s (lN a0) i (mDf s N (lN a0) i))))), (9, .int 0), (8, .int (mDb s (lN a0) i (mDf s N (lN a0) i))), (3, .long (mDx (lN a0) (i + 1))), (0, .ref (B.1 + 113)), (1, .int (nI a0)), (2, .int (nI n))] dX12_diets_152 5 rfl (nI_inc i) (by decide) rfl ?_
      refine z_goto C 57 dX12_diets_155 (by decide) ?_
      refine z_G (congrArg (fun z => zg B z t) (mDS_s s N i)) ?_
      refine z_lv (lv2 := [(7, .int (nI (i + 1))), (6, .int (mDf s N (lN a0) (i + 1))), (5, .int (mDp s (i + 1))), (3, .long (mDx (lN a0) (i + 1))), (0, .ref (B.1 + 113)), (1, .int (nI a0)), (2, .int (nI n))]) [0, 2, 1, 5, 6, 7, 8] ?_ (ih (i + 1) (by omega))
      rw [show mDf s N (lN a0) (i + 1) = (mDf s N (lN a0) i) ||| ((mDp s i) ||| (mDb s (lN a0) i (mDf s N (lN a0) i))) from (by rw [mDf, if_pos h105])]
      rfl
    · refine z_iconst C dX12_diets_108 ki_1 ?_
      refine z_goto C 113 dX12_diets_109 (by decide) ?_
      refine z_istore C [(9, .int 1), (8, .int (mDb s (lN a0) i (mDf s N (lN a0) i))), (3, .long (mDx (lN a0) (i + 1))), (7, .int (nI i)), (6, .int (mDf s N (lN a0) i)), (5, .int (mDp s i)), (0, .ref (B.1 + 113)), (1, .int (nI a0)), (2, .int (nI n))] dX12_diets_113 (by decide) rfl ?_
      refine z_iload C dX12_diets_115 4 rfl ?_
      refine z_iload C dX12_diets_117 0 rfl ?_
      refine z_if_eq C 126 dX12_diets_119 (by decide) (fun hbr => absurd hbr (by decide)) (fun _ => ?_)
      refine z_iconst C dX12_diets_122 ki_0 ?_
      refine z_goto C 131 dX12_diets_123 (by decide) ?_
      refine z_ior C dX12_diets_131 ?_
      refine z_istore C [(6, .int ((mDf s N (lN a0) i) ||| 0)), (9, .int 1), (8, .int (mDb s (lN a0) i (mDf s N (lN a0) i))), (3, .long (mDx (lN a0) (i + 1))), (7, .int (nI i)), (5, .int (mDp s i)), (0, .ref (B.1 + 113)), (1, .int (nI a0)), (2, .int (nI n))] dX12_diets_132 (by decide) rfl ?_
      refine z_iconst C dX12_diets_134 ki_0 ?_
      refine z_istore C [(5, .int 0), (6, .int ((mDf s N (lN a0) i) ||| 0)), (9, .int 1), (8, .int (mDb s (lN a0) i (mDf s N (lN a0) i))), (3, .long (mDx (lN a0) (i + 1))), (7, .int (nI i)), (0, .ref (B.1 + 113)), (1, .int (nI a0)), (2, .int (nI n))] dX12_diets_135 (by decide) rfl ?_
      refine z_aload_n C dX12_diets_137 6 rfl rfl ?_
      refine z_iconst C dX12_diets_138 ki_0 ?_
      refine f_put12_9 C tw_753 zk_113 zb_113 dX12_diets_139 ?_
      refine z_aload_n C dX12_diets_142 6 rfl rfl ?_
      refine z_dup C dX12_diets_143 rfl ?_
      refine f_get12 C 10 (v := .int ((zu (mDS s N i) 113 9 0) 113 10)) (by decide) tw_754 rfl zk_113 zb_113 rfl dX12_diets_144 ?_
      refine f_topi (y := s 114 6 + nI i) (by rw [zu_ne _ _ (by omega)]; exact mDS_day s N i) ?_
      refine z_iconst C dX12_diets_147 ki_1 ?_
      refine z_iadd C dX12_diets_148 ?_
      refine f_topi (y := s 114 6 + nI (i + 1)) (by rw [Int32.add_assoc]; exact congrArg (fun z => s 114 6 + z) (nI_1 i)) ?_
      refine f_put12_10 C tw_754 zk_113 zb_113 dX12_diets_149 ?_
      refine z_iinc C [(7, .int (nI (i + 1))), (5, .int 0), (6, .int ((mDf s N (lN a0) i) ||| 0)), (9, .int 1), (8, .int (mDb s (lN a0) i (mDf s N (lN a0) i))), (3, .long (mDx (lN a0) (i + 1))), (0, .ref (B.1 + 113)), (1, .int (nI a0)), (2, .int (nI n))] dX12_diets_152 5 rfl (nI_inc i) (by decide) rfl ?_
      refine z_goto C 57 dX12_diets_155 (by decide) ?_
      refine z_G (congrArg (fun z => zg B z t) (mDS_s s N i)) ?_
      refine z_lv (lv2 := [(7, .int (nI (i + 1))), (6, .int (mDf s N (lN a0) (i + 1))), (5, .int (mDp s (i + 1))), (3, .long (mDx (lN a0) (i + 1))), (0, .ref (B.1 + 113)), (1, .int (nI a0)), (2, .int (nI n))]) [0, 2, 1, 5, 6, 7, 8] ?_ (ih (i + 1) (by omega))
      rw [show mDf s N (lN a0) (i + 1) = (mDf s N (lN a0) i) ||| 0 from (by rw [mDf, if_neg h105]; exact Int32.or_zero.symm)]
      rfl
set_option maxRecDepth 100000 in
set_option maxHeartbeats 4000000 in
theorem c_X12_diets_ok (l : Launch) (B : zB) (s : zS) (t : zL) (N : Nat) (mo : mOk s N) (h1 : r8 (s 114 1)) (h2 : r8 (s 114 2)) (a0 : Nat) (ha0 : a0 ≤ 999999) (n : Nat) (hn : n ≤ 30) : zD l B mX12_diets s t [.ref (B.1 + 113), .int (nI a0), .int (nI n)] (some (.int (wPop (mDf s N (lN a0) n)))) (mDS s N n) t := by
  have h6 := mo.2.1
  refine z_met (by decide) (Nat.le_of_ble_eq_true rfl) ?_
  intro X hl C E hnm
  show Zf X B mX12_diets s t 0 [(0, .ref (B.1 + 113)), (1, .int (nI a0)), (2, .int (nI n))] []
  refine z_iload_n C dX12_diets_0 1 rfl rfl ?_
  refine z_i2l C dX12_diets_1 ?_
  refine z_lconst C dX12_diets_2 kl_0 ?_
  refine z_ldc2 C dX12_diets_3 tw_1008 ?_
  refine f_callSr C hl (As := [.long ((nI a0 : Int32).toInt64), .long 0, .long 999999]) (rest := []) (c_X12_in0 l B s t (nI a0) 999999 ((nI a0 : Int32).toInt64) 999999 rfl (by decide)) (zCB (nA := 3) C rfl rfl tw_810 tw_13 tw_808 (by decide +kernel) ⟨Nat.le_of_ble_eq_true rfl, Nat.le_of_ble_eq_true rfl⟩) tw_809 rfl rfl (Nat.le_of_ble_eq_true rfl) dX12_diets_6 (Nat.zero_le _) ?_
  refine z_ifb_eq C 24 dX12_diets_9 (by decide) (fun hbr => absurd hbr (by rw [show wIn (nI a0) 999999 = true from wIn_nI (n := 999999) ha0 (by decide)]; decide)) (fun _ => ?_)
  refine z_iload_n C dX12_diets_12 2 rfl rfl ?_
  refine z_i2l C dX12_diets_13 ?_
  refine z_lconst C dX12_diets_14 kl_0 ?_
  refine z_ldc2 C dX12_diets_15 tw_1009 ?_
  refine f_callSr C hl (As := [.long ((nI n : Int32).toInt64), .long 0, .long 30]) (rest := []) (c_X12_in0 l B s t (nI n) 30 ((nI n : Int32).toInt64) 30 rfl (by decide)) (zCB (nA := 3) C rfl rfl tw_810 tw_13 tw_808 (by decide +kernel) ⟨Nat.le_of_ble_eq_true rfl, Nat.le_of_ble_eq_true rfl⟩) tw_809 rfl rfl (Nat.le_of_ble_eq_true rfl) dX12_diets_18 (Nat.zero_le _) ?_
  refine z_ifb_ne C 31 dX12_diets_21 (by decide) (fun _ => ?_) (fun hbr => Bool.noConfusion (show false = true from hbr.symm.trans (wIn_nI (n := 30) hn (by decide))))
  refine z_iload_n C dX12_diets_31 1 rfl rfl ?_
  refine z_i2l C dX12_diets_32 ?_
  refine f_topl (y := lN a0) (nI_l (by omega)) ?_
  refine z_lstore_n C [(3, .long (lN a0)), (0, .ref (B.1 + 113)), (1, .int (nI a0)), (2, .int (nI n))] dX12_diets_33 rfl (by decide) rfl ?_
  refine z_aload_n C dX12_diets_34 1 rfl rfl ?_
  refine f_get12 C 0 (v := .ref (B.1 + 114)) (by decide) tw_744 rfl zk_113 zb_113 rfl dX12_diets_35 ?_
  refine z_iconst C dX12_diets_38 ki_1 ?_
  refine f_ialdL C zk_114 zb_114 (by unfold vp_in; decide) (j := 1) (by decide) dX12_diets_39 ?_
  refine z_istore C [(5, .int (s 114 1)), (3, .long (lN a0)), (0, .ref (B.1 + 113)), (1, .int (nI a0)), (2, .int (nI n))] dX12_diets_40 (by decide) rfl ?_
  refine z_aload_n C dX12_diets_42 2 rfl rfl ?_
  refine f_get12 C 0 (v := .ref (B.1 + 114)) (by decide) tw_744 rfl zk_113 zb_113 rfl dX12_diets_43 ?_
  refine z_iconst C dX12_diets_46 ki_2 ?_
  refine f_ialdL C zk_114 zb_114 (by unfold vp_in; decide) (j := 2) (by decide) dX12_diets_47 ?_
  refine z_istore C [(6, .int (s 114 2)), (5, .int (s 114 1)), (3, .long (lN a0)), (0, .ref (B.1 + 113)), (1, .int (nI a0)), (2, .int (nI n))] dX12_diets_48 (by decide) rfl ?_
  refine z_aload_n C dX12_diets_50 3 rfl rfl ?_
  refine f_callVv C hl (As := []) (rest := []) (c_X12_layHand l B s t N mo.1 mo.2.1) zb_113 (zg_12 zk_113) rfl (zCB (nA := 0) C rfl rfl tw_851 tw_13 tw_848 (by decide +kernel) ⟨Nat.le_of_ble_eq_true rfl, Nat.le_of_ble_eq_true rfl⟩) tw_850 tp_31 rfl rfl (Nat.le_of_ble_eq_true rfl) dX12_diets_51 (Nat.zero_le _) ?_
  refine z_iconst C dX12_diets_54 ki_0 ?_
  refine z_istore C [(7, .int 0), (6, .int (s 114 2)), (5, .int (s 114 1)), (3, .long (lN a0)), (0, .ref (B.1 + 113)), (1, .int (nI a0)), (2, .int (nI n))] dX12_diets_55 (by decide) rfl ?_
  refine z_G (congrArg (fun z => zg B z t) (mDS_0 s mo)) ?_
  exact z_lv [0, 1, 2, 3, 4, 5, 6] rfl (l_X12_diets hl C N mo h6 h1 h2 a0 (by omega) n hn E n 0 (by omega))
