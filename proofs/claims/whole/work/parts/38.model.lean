def mGcd : Nat → Int64 → Int64 → Option Int64
  | 0, _, _ => none
  | f + 1, a, b => if b = 0 then some a else mGcd f b (a - a / b * b)
def mFr2 (t : zL) (a b : Int64) : zL := zv (zv t 113 4 a) 113 5 b
abbrev mX12_fraction : zM := (yX12_fraction, cX12_fraction, 11, none, { frames := 0, cells := 0, slots := 0, locals := 0 })
set_option maxRecDepth 100000 in
set_option maxHeartbeats 4000000 in
theorem l_X12_fraction {l : Launch} {B : zB} {s : zS} {t : zL} {X : zX} (hl : X.2.1 = l) (C : zC X B mX12_fraction) (o u g : Int64) (hg : ¬ g = 0) (E : zE X B mX12_fraction 124 0 0 (zR B none s (mFr2 t (o / g) (u / g)))) : ∀ (m : Nat) (a b : Int64), mGcd m a b = some g → Zf X B mX12_fraction s t 6 [(7, .long b), (5, .long a), (0, .ref (B.1 + 113)), (1, .long o), (3, .long u)] [] := by
  intro m
  induction m with
  | zero =>
    intro a b h
    exact absurd h (by simp [mGcd])
  | succ m ih =>
    intro a b h
    refine z_lload C dX12_fraction_6 0 rfl ?_
    refine z_lconst C dX12_fraction_8 kl_0 ?_
    refine z_lcmp C dX12_fraction_9 ?_
    refine z_if_eq C 31 dX12_fraction_10 (by decide) (fun h10 => ?_) (fun h10 => ?_)
    · have eg : a = g := by rw [mGcd, if_pos ((lg_cmp_eq _ _).mp h10)] at h; exact Option.some.inj h
      refine z_aload_n C dX12_fraction_31 2 rfl rfl ?_
      refine z_lload_n C dX12_fraction_32 3 rfl rfl ?_
      refine z_lload C dX12_fraction_33 1 rfl ?_
      refine z_ldiv C dX12_fraction_35 (fun z => hg (eg ▸ z)) ?_
      refine f_put12_4 C tw_748 zk_113 zb_113 dX12_fraction_36 ?_
      refine z_aload_n C dX12_fraction_39 2 rfl rfl ?_
      refine z_lload_n C dX12_fraction_40 4 rfl rfl ?_
      refine z_lload C dX12_fraction_41 1 rfl ?_
      refine z_ldiv C dX12_fraction_43 (fun z => hg (eg ▸ z)) ?_
      refine f_put12_5 C tw_749 zk_113 zb_113 dX12_fraction_44 ?_
      refine z_vret C E rfl dX12_fraction_47 rfl (Nat.le_refl _) ⟨rfl, by rw [eg]; rfl⟩
    · refine z_lload C dX12_fraction_13 1 rfl ?_
      refine z_lload C dX12_fraction_15 0 rfl ?_
      refine z_lrem C dX12_fraction_17 (fun z => h10 ((lg_cmp_eq _ _).mpr z)) ?_
      refine z_lstore C [(9, .long (a - a / b * b)), (7, .long b), (5, .long a), (0, .ref (B.1 + 113)), (1, .long o), (3, .long u)] dX12_fraction_18 (by decide) rfl ?_
      refine z_lload C dX12_fraction_20 1 rfl ?_
      refine z_lstore C [(5, .long b), (9, .long (a - a / b * b)), (7, .long b), (0, .ref (B.1 + 113)), (1, .long o), (3, .long u)] dX12_fraction_22 (by decide) rfl ?_
      refine z_lload C dX12_fraction_24 1 rfl ?_
      refine z_lstore C [(7, .long (a - a / b * b)), (5, .long b), (9, .long (a - a / b * b)), (0, .ref (B.1 + 113)), (1, .long o), (3, .long u)] dX12_fraction_26 (by decide) rfl ?_
      refine z_goto C 6 dX12_fraction_28 (by decide) ?_
      exact z_lv [0, 1, 3, 4, 5] rfl (ih _ _ (by rw [mGcd, if_neg (fun z => h10 ((lg_cmp_eq _ _).mpr z))] at h; exact h))
set_option maxRecDepth 100000 in
set_option maxHeartbeats 4000000 in
theorem c_X12_fraction (l : Launch) (B : zB) (s : zS) (t : zL) (o u g : Int64) (hg : ¬ g = 0) (f : Nat) (h : mGcd f o u = some g) : zD l B mX12_fraction s t [.ref (B.1 + 113), .long o, .long u] none s (mFr2 t (o / g) (u / g)) := by
  refine z_met (by decide) (Nat.le_of_ble_eq_true rfl) ?_
  intro X hl C E hnm
  show Zf X B mX12_fraction s t 0 [(0, .ref (B.1 + 113)), (1, .long o), (3, .long u)] []
  refine z_lload_n C dX12_fraction_0 1 rfl rfl ?_
  refine z_lstore C [(5, .long o), (0, .ref (B.1 + 113)), (1, .long o), (3, .long u)] dX12_fraction_1 (by decide) rfl ?_
  refine z_lload_n C dX12_fraction_3 3 rfl rfl ?_
  refine z_lstore C [(7, .long u), (5, .long o), (0, .ref (B.1 + 113)), (1, .long o), (3, .long u)] dX12_fraction_4 (by decide) rfl ?_
  exact z_lv [0, 1, 2, 3, 4] rfl (l_X12_fraction hl C o u g hg E f o u h)
abbrev mX12_away : zM := (yX12_away, cX12_away, 8, (some .int), { frames := 4, cells := 0, slots := 0, locals := 92 })
set_option maxRecDepth 100000 in
set_option maxHeartbeats 4000000 in
theorem c_X12_away_bad (l : Launch) (B : zB) (s : zS) (t : zL) (b c : Int32) (h : (wIn b 255 && wIn c 10) = false) : zD l B mX12_away s t [.ref (B.1 + 113), .int b, .int c] (some (.int (-2))) (zu s 117 0 (s 117 0 + 1)) t := by
  refine z_met (by decide) (Nat.le_of_ble_eq_true rfl) ?_
  intro X hl C E hnm
  show Zf X B mX12_away s t 0 [(0, .ref (B.1 + 113)), (1, .int b), (2, .int c)] []
  refine z_iload_n C dX12_away_0 1 rfl rfl ?_
  refine f_callSr C hl (As := [.int b]) (rest := []) (c_X12_isBundle l B s t b) (zCB (nA := 1) C rfl rfl tw_826 tw_13 tw_824 (by decide +kernel) ⟨Nat.le_of_ble_eq_true rfl, Nat.le_of_ble_eq_true rfl⟩) tw_825 rfl rfl (Nat.le_of_ble_eq_true rfl) dX12_away_1 (Nat.zero_le _) ?_
  refine z_ifb_eq C 19 dX12_away_4 (by decide) (fun h4 => ?_) (fun h4 => ?_)
  · refine z_aload_n C dX12_away_19 0 rfl rfl ?_
    refine z_bipush C dX12_away_20 kb_m2 ?_
    refine f_callVr C hl (As := [.int (-2)]) (rest := []) (c_X12_bad l B s t (-2)) zb_113 (zg_12 zk_113) rfl (zCB (nA := 1) C rfl rfl tw_814 tw_13 tw_811 (by decide +kernel) ⟨Nat.le_of_ble_eq_true rfl, Nat.le_of_ble_eq_true rfl⟩) tw_813 tp_26 rfl rfl (Nat.le_of_ble_eq_true rfl) dX12_away_22 (Nat.zero_le _) ?_
    refine z_iret C E rfl dX12_away_25 rfl (Nat.le_refl _) ⟨rfl, rfl⟩
  · refine z_iload_n C dX12_away_7 2 rfl rfl ?_
    refine z_i2l C dX12_away_8 ?_
    refine z_lconst C dX12_away_9 kl_0 ?_
    refine z_ldc2 C dX12_away_10 tw_999 ?_
    refine f_callSr C hl (As := [.long ((c : Int32).toInt64), .long 0, .long 10]) (rest := []) (c_X12_in0 l B s t c 10 ((c : Int32).toInt64) 10 rfl (by decide)) (zCB (nA := 3) C rfl rfl tw_810 tw_13 tw_808 (by decide +kernel) ⟨Nat.le_of_ble_eq_true rfl, Nat.le_of_ble_eq_true rfl⟩) tw_809 rfl rfl (Nat.le_of_ble_eq_true rfl) dX12_away_13 (Nat.zero_le _) ?_
    refine z_ifb_ne C 26 dX12_away_16 (by decide) (fun h16 => ?_) (fun h16 => ?_)
    · exact absurd h (by rw [h4, h16]; decide)
    · refine z_aload_n C dX12_away_19 0 rfl rfl ?_
      refine z_bipush C dX12_away_20 kb_m2 ?_
      refine f_callVr C hl (As := [.int (-2)]) (rest := []) (c_X12_bad l B s t (-2)) zb_113 (zg_12 zk_113) rfl (zCB (nA := 1) C rfl rfl tw_814 tw_13 tw_811 (by decide +kernel) ⟨Nat.le_of_ble_eq_true rfl, Nat.le_of_ble_eq_true rfl⟩) tw_813 tp_26 rfl rfl (Nat.le_of_ble_eq_true rfl) dX12_away_22 (Nat.zero_le _) ?_
      refine z_iret C E rfl dX12_away_25 rfl (Nat.le_refl _) ⟨rfl, rfl⟩
def wU (c : Nat) : Int32 := [0, 1, 1, 3, 2, 1, 3, 7, 4, 9, 1].getD c 0
def wV (c : Nat) : Int32 := [1, 10, 5, 10, 5, 2, 5, 10, 5, 10, 1].getD c 0
def mFrOk (c K : Nat) : Bool := match mGcd 40 (wPow (nI c).toInt64 K) (wPow 10 K) with
  | some g => decide (¬ g = 0) && (decide (wPow (nI c).toInt64 K / g = wPow (wU c).toInt64 K) && decide (wPow 10 K / g = wPow (wV c).toInt64 K))
  | none => false
theorem mFr_all : ∀ c, c < 11 → ∀ K, K < 9 → mFrOk c K = true := by decide +kernel
theorem mFr_ex {c K : Nat} (hc : c < 11) (hK : K < 9) : ∃ g, mGcd 40 (wPow (nI c).toInt64 K) (wPow 10 K) = some g ∧ ¬ g = 0 ∧ wPow (nI c).toInt64 K / g = wPow (wU c).toInt64 K ∧ wPow 10 K / g = wPow (wV c).toInt64 K := by
  have h := mFr_all c hc K hK
  unfold mFrOk at h
  split at h
  · next g e =>
    simp only [Bool.and_eq_true, decide_eq_true_eq] at h
    exact ⟨g, e, h.1, h.2.1, h.2.2⟩
  · exact absurd h (by decide)
theorem D_T {l : Launch} {B : zB} {κ : zM} {s s2 : zS} {t t2 t3 : zL} {as : List Value} {v : Option Value} (h : zD l B κ s t as v s2 t2) (e : t2 = t3) : zD l B κ s t as v s2 t3 := e ▸ h
set_option maxRecDepth 100000 in
set_option maxHeartbeats 4000000 in
theorem l_X12_away {l : Launch} {B : zB} {s : zS} {t : zL} {X : zX} (hl : X.2.1 = l) (C : zC X B mX12_away) (N : Nat) (mo : mOk s N) (h6 : N ≤ 6) (b : Int32) (g : wIn b 255 = true) (c : Nat) (hc : c < 11) (K : Nat) (hK : K < 9) (eK : wPop (mW s N b) = nI K) (E : zE X B mX12_away 124 0 0 (zR B (some (.int 1)) (wHand s N) (mFr2 t (wPow (wU c).toInt64 K) (wPow (wV c).toInt64 K)))) : ∀ (m : Nat) (i : Nat), i + m = K → Zf X B mX12_away (wHand s N) t 38 [(7, .int (nI i)), (5, .long (wPow 10 i)), (3, .long (wPow (nI c).toInt64 i)), (0, .ref (B.1 + 113)), (1, .int b), (2, .int (nI c))] [] := by
  intro m
  induction m with
  | zero =>
    intro i hi
    obtain ⟨gg, hg, hg0, hg1, hg2⟩ := mFr_ex hc hK
    refine z_iload C dX12_away_38 0 rfl ?_
    refine z_aload_n C dX12_away_40 3 rfl rfl ?_
    refine z_iload_n C dX12_away_41 4 rfl rfl ?_
    refine f_callVr C hl (As := [.int b]) (rest := [.int (nI i)]) (c_X12_stopping l B (wHand s N) t N (mK s) (mL s) (mH s) (mS s) (s 114 6) (hd_hand mo) b (wIn_r8 g)) zb_113 (zg_12 zk_113) rfl (zCB (nA := 1) C rfl rfl tw_863 tw_13 tw_860 (by decide +kernel) ⟨Nat.le_of_ble_eq_true rfl, Nat.le_of_ble_eq_true rfl⟩) tw_862 tp_34 rfl rfl (Nat.le_of_ble_eq_true rfl) dX12_away_42 (Nat.zero_le _) ?_
    refine f_callSr C hl (As := [.int (mW s N b)]) (rest := [.int (nI i)]) (c_X12_bits l B (wHand s N) t (mW s N b) (mW_r8 h6 b)) (zCB (nA := 1) C rfl rfl tw_877 tw_13 tw_875 (by decide +kernel) ⟨Nat.le_of_ble_eq_true rfl, Nat.le_of_ble_eq_true rfl⟩) tw_876 rfl rfl (Nat.le_of_ble_eq_true rfl) dX12_away_45 (Nat.zero_le _) ?_
    refine f_topi (y := nI K) eK ?_
    refine z_icmp_ge C 70 dX12_away_48 (by decide) (fun _ => ?_) (fun hbr => absurd (nI_le (by omega) (by omega)) hbr)
    refine z_aload_n C dX12_away_70 3 rfl rfl ?_
    refine z_lload_n C dX12_away_71 2 rfl rfl ?_
    refine z_lload C dX12_away_72 1 rfl ?_
    refine f_callVv C hl (As := [.long (wPow (nI c).toInt64 i), .long (wPow 10 i)]) (rest := []) (D_T (c_X12_fraction l B (wHand s N) t (wPow (nI c).toInt64 i) (wPow 10 i) gg hg0 40 (by rw [show i = K by omega]; exact hg)) (show mFr2 t _ _ = (mFr2 t (wPow (wU c).toInt64 K) (wPow (wV c).toInt64 K)) by rw [show i = K by omega, hg1, hg2])) zb_113 (zg_12 zk_113) rfl (zCB (nA := 2) C rfl rfl tw_1003 tw_13 tw_1000 (by decide +kernel) ⟨Nat.le_of_ble_eq_true rfl, Nat.le_of_ble_eq_true rfl⟩) tw_1002 tp_45 rfl rfl (Nat.le_of_ble_eq_true rfl) dX12_away_74 (Nat.zero_le _) ?_
    refine z_iconst C dX12_away_77 ki_1 ?_
    refine z_iret C E rfl dX12_away_78 rfl (Nat.le_refl _) ⟨rfl, rfl⟩
  | succ m ih =>
    intro i hi0
    have hi : i < K := by omega
    refine z_iload C dX12_away_38 0 rfl ?_
    refine z_aload_n C dX12_away_40 3 rfl rfl ?_
    refine z_iload_n C dX12_away_41 4 rfl rfl ?_
    refine f_callVr C hl (As := [.int b]) (rest := [.int (nI i)]) (c_X12_stopping l B (wHand s N) t N (mK s) (mL s) (mH s) (mS s) (s 114 6) (hd_hand mo) b (wIn_r8 g)) zb_113 (zg_12 zk_113) rfl (zCB (nA := 1) C rfl rfl tw_863 tw_13 tw_860 (by decide +kernel) ⟨Nat.le_of_ble_eq_true rfl, Nat.le_of_ble_eq_true rfl⟩) tw_862 tp_34 rfl rfl (Nat.le_of_ble_eq_true rfl) dX12_away_42 (Nat.zero_le _) ?_
    refine f_callSr C hl (As := [.int (mW s N b)]) (rest := [.int (nI i)]) (c_X12_bits l B (wHand s N) t (mW s N b) (mW_r8 h6 b)) (zCB (nA := 1) C rfl rfl tw_877 tw_13 tw_875 (by decide +kernel) ⟨Nat.le_of_ble_eq_true rfl, Nat.le_of_ble_eq_true rfl⟩) tw_876 rfl rfl (Nat.le_of_ble_eq_true rfl) dX12_away_45 (Nat.zero_le _) ?_
    refine f_topi (y := nI K) eK ?_
    refine z_icmp_ge C 70 dX12_away_48 (by decide) (fun hbr => absurd hbr (nI_ge hi (by omega))) (fun _ => ?_)
    refine z_lload_n C dX12_away_51 2 rfl rfl ?_
    refine z_iload_n C dX12_away_52 5 rfl rfl ?_
    refine z_i2l C dX12_away_53 ?_
    refine z_lmul C dX12_away_54 ?_
    refine z_lstore_n C [(3, .long ((wPow (nI c).toInt64 i) * ((nI c : Int32).toInt64))), (7, .int (nI i)), (5, .long (wPow 10 i)), (0, .ref (B.1 + 113)), (1, .int b), (2, .int (nI c))] dX12_away_55 rfl (by decide) rfl ?_
    refine z_lload C dX12_away_56 2 rfl ?_
    refine z_ldc2 C dX12_away_58 tw_999 ?_
    refine z_lmul C dX12_away_61 ?_
    refine z_lstore C [(5, .long ((wPow 10 i) * 10)), (3, .long ((wPow (nI c).toInt64 i) * ((nI c : Int32).toInt64))), (7, .int (nI i)), (0, .ref (B.1 + 113)), (1, .int b), (2, .int (nI c))] dX12_away_62 (by decide) rfl ?_
    refine z_iinc C [(7, .int (nI (i + 1))), (5, .long ((wPow 10 i) * 10)), (3, .long ((wPow (nI c).toInt64 i) * ((nI c : Int32).toInt64))), (0, .ref (B.1 + 113)), (1, .int b), (2, .int (nI c))] dX12_away_64 2 rfl (nI_inc i) (by decide) rfl ?_
    refine z_goto C 38 dX12_away_67 (by decide) ?_
    exact z_lv [0, 1, 2, 3, 4, 5] rfl (ih (i + 1) (by omega))
set_option maxRecDepth 100000 in
set_option maxHeartbeats 4000000 in
theorem c_X12_away_ok (l : Launch) (B : zB) (s : zS) (t : zL) (N : Nat) (mo : mOk s N) (b : Int32) (g : wIn b 255 = true) (c : Nat) (hc : c < 11) : zD l B mX12_away s t [.ref (B.1 + 113), .int b, .int (nI c)] (some (.int 1)) (wHand s N) (mFr2 t (wPow (wU c).toInt64 (pcN (mW s N b).toBitVec.toNat)) (wPow (wV c).toInt64 (pcN (mW s N b).toBitVec.toNat))) := by
  have h6 := mo.2.1
  refine z_met (by decide) (Nat.le_of_ble_eq_true rfl) ?_
  intro X hl C E hnm
  show Zf X B mX12_away s t 0 [(0, .ref (B.1 + 113)), (1, .int b), (2, .int (nI c))] []
  refine z_iload_n C dX12_away_0 1 rfl rfl ?_
  refine f_callSr C hl (As := [.int b]) (rest := []) (c_X12_isBundle l B s t b) (zCB (nA := 1) C rfl rfl tw_826 tw_13 tw_824 (by decide +kernel) ⟨Nat.le_of_ble_eq_true rfl, Nat.le_of_ble_eq_true rfl⟩) tw_825 rfl rfl (Nat.le_of_ble_eq_true rfl) dX12_away_1 (Nat.zero_le _) ?_
  refine z_ifb_eq C 19 dX12_away_4 (by decide) (fun hbr => absurd hbr (by rw [g]; decide)) (fun _ => ?_)
  refine z_iload_n C dX12_away_7 2 rfl rfl ?_
  refine z_i2l C dX12_away_8 ?_
  refine z_lconst C dX12_away_9 kl_0 ?_
  refine z_ldc2 C dX12_away_10 tw_999 ?_
  refine f_callSr C hl (As := [.long ((nI c : Int32).toInt64), .long 0, .long 10]) (rest := []) (c_X12_in0 l B s t (nI c) 10 ((nI c : Int32).toInt64) 10 rfl (by decide)) (zCB (nA := 3) C rfl rfl tw_810 tw_13 tw_808 (by decide +kernel) ⟨Nat.le_of_ble_eq_true rfl, Nat.le_of_ble_eq_true rfl⟩) tw_809 rfl rfl (Nat.le_of_ble_eq_true rfl) dX12_away_13 (Nat.zero_le _) ?_
  refine z_ifb_ne C 26 dX12_away_16 (by decide) (fun _ => ?_) (fun hbr => Bool.noConfusion (show false = true from hbr.symm.trans (wIn_nI (n := 10) (by omega) (by decide))))
  refine z_lconst C dX12_away_26 kl_1 ?_
  refine z_lstore_n C [(3, .long 1), (0, .ref (B.1 + 113)), (1, .int b), (2, .int (nI c))] dX12_away_27 rfl (by decide) rfl ?_
  refine z_lconst C dX12_away_28 kl_1 ?_
  refine z_lstore C [(5, .long 1), (3, .long 1), (0, .ref (B.1 + 113)), (1, .int b), (2, .int (nI c))] dX12_away_29 (by decide) rfl ?_
  refine z_aload_n C dX12_away_31 2 rfl rfl ?_
  refine f_callVv C hl (As := []) (rest := []) (c_X12_layHand l B s t N mo.1 mo.2.1) zb_113 (zg_12 zk_113) rfl (zCB (nA := 0) C rfl rfl tw_851 tw_13 tw_848 (by decide +kernel) ⟨Nat.le_of_ble_eq_true rfl, Nat.le_of_ble_eq_true rfl⟩) tw_850 tp_31 rfl rfl (Nat.le_of_ble_eq_true rfl) dX12_away_32 (Nat.zero_le _) ?_
  refine z_iconst C dX12_away_35 ki_0 ?_
  refine z_istore C [(7, .int 0), (5, .long 1), (3, .long 1), (0, .ref (B.1 + 113)), (1, .int b), (2, .int (nI c))] dX12_away_36 (by decide) rfl ?_
  exact z_lv [0, 1, 2, 3, 4, 5] rfl (l_X12_away hl C N mo h6 b g c hc _ (Nat.lt_succ_of_le (pcN_lt _)) rfl E _ 0 (Nat.zero_add _))
def mSum (q : Nat → Int32) (f : Nat) (h : Int64) : Nat → Int64
  | 0 => h
  | n + 1 => d31 (mSum q f h n) (q (f + n))
abbrev mX12_sums : zM := (yX12_sums, cX12_sums, 8, (some .long), { frames := 0, cells := 0, slots := 0, locals := 0 })
set_option maxRecDepth 100000 in
set_option maxHeartbeats 4000000 in
theorem l_X12_sums {l : Launch} {B : zB} {s : zS} {t : zL} {X : zX} (hl : X.2.1 = l) (C : zC X B mX12_sums) (h : Int64) (f n : Nat) (hf : f + n ≤ 105) (E : zE X B mX12_sums 124 0 0 (zR B (some (.long (mSum (s 114) f h n))) s t)) : ∀ (m : Nat) (i : Nat) (a : Int64), i + m = n → a = mSum (s 114) f h i → Zf X B mX12_sums s t 6 [(7, .int (nI i)), (5, .long a), (0, .ref (B.1 + 113)), (1, .long h), (3, .int (nI f)), (4, .int (nI n))] [] := by
  intro m
  induction m with
  | zero =>
    intro i a hi ha
    refine z_iload C dX12_sums_6 0 rfl ?_
    refine z_iload C dX12_sums_8 5 rfl ?_
    refine z_icmp_ge C 38 dX12_sums_10 (by decide) (fun _ => ?_) (fun hbr => absurd (nI_le (by omega) (by omega)) hbr)
    refine z_lload C dX12_sums_38 1 rfl ?_
    refine z_lret C E rfl dX12_sums_40 rfl (Nat.le_refl _) ⟨by rw [ha, show i = n by omega], rfl⟩
  | succ m ih =>
    intro i a hi0 ha
    have hi : i < n := by omega
    refine z_iload C dX12_sums_6 0 rfl ?_
    refine z_iload C dX12_sums_8 5 rfl ?_
    refine z_icmp_ge C 38 dX12_sums_10 (by decide) (fun hbr => absurd hbr (nI_ge hi (by omega))) (fun _ => ?_)
    refine z_ldc2 C dX12_sums_13 tw_1103 ?_
    refine z_lload C dX12_sums_16 1 rfl ?_
    refine z_lmul C dX12_sums_18 ?_
    refine z_aload_n C dX12_sums_19 2 rfl rfl ?_
    refine f_get12 C 0 (v := .ref (B.1 + 114)) (by decide) tw_744 rfl zk_113 zb_113 rfl dX12_sums_20 ?_
    refine z_iload_n C dX12_sums_23 4 rfl rfl ?_
    refine z_iload C dX12_sums_24 0 rfl ?_
    refine z_iadd C dX12_sums_26 ?_
    refine f_ialdL C zk_114 zb_114 (ixN (n := 105) (nA rfl rfl rfl) (by omega) (by decide)).1 (j := (f + i)) (ixN (n := 105) (nA rfl rfl rfl) (by omega) (by decide)).2 dX12_sums_27 ?_
    refine z_i2l C dX12_sums_28 ?_
    refine z_ladd C dX12_sums_29 ?_
    refine z_lstore C [(5, .long ((31 * a) + ((s 114 (f + i) : Int32).toInt64))), (7, .int (nI i)), (0, .ref (B.1 + 113)), (1, .long h), (3, .int (nI f)), (4, .int (nI n))] dX12_sums_30 (by decide) rfl ?_
    refine z_iinc C [(7, .int (nI (i + 1))), (5, .long ((31 * a) + ((s 114 (f + i) : Int32).toInt64))), (0, .ref (B.1 + 113)), (1, .long h), (3, .int (nI f)), (4, .int (nI n))] dX12_sums_32 1 rfl (nI_inc i) (by decide) rfl ?_
    refine z_goto C 6 dX12_sums_35 (by decide) ?_
    exact z_lv [0, 1, 2, 3, 4, 5] rfl (ih (i + 1) _ (by omega) (by rw [mSum, ← ha]; rfl))
set_option maxRecDepth 100000 in
set_option maxHeartbeats 4000000 in
theorem c_X12_sums (l : Launch) (B : zB) (s : zS) (t : zL) (h : Int64) (f n : Nat) (hf : f + n ≤ 105) : zD l B mX12_sums s t [.ref (B.1 + 113), .long h, .int (nI f), .int (nI n)] (some (.long (mSum (s 114) f h n))) s t := by
  refine z_met (by decide) (Nat.le_of_ble_eq_true rfl) ?_
  intro X hl C E hnm
  show Zf X B mX12_sums s t 0 [(0, .ref (B.1 + 113)), (1, .long h), (3, .int (nI f)), (4, .int (nI n))] []
  refine z_lload_n C dX12_sums_0 1 rfl rfl ?_
  refine z_lstore C [(5, .long h), (0, .ref (B.1 + 113)), (1, .long h), (3, .int (nI f)), (4, .int (nI n))] dX12_sums_1 (by decide) rfl ?_
  refine z_iconst C dX12_sums_3 ki_0 ?_
  refine z_istore C [(7, .int 0), (5, .long h), (0, .ref (B.1 + 113)), (1, .long h), (3, .int (nI f)), (4, .int (nI n))] dX12_sums_4 (by decide) rfl ?_
  exact z_lv [0, 1, 2, 3, 4, 5] rfl (l_X12_sums hl C h f n hf E n 0 h (by omega) rfl)
def mG1 (s : zS) : Nat → Int64
  | 0 => 1187
  | n + 1 => d31 (mG1 s n) (mHow s n)
def mDD (q : Nat → Int32) (h : Int64) (d : Nat) : Int64 := d31 (d31 (mSum q (9 + 4 * d) h 4) ((q 3 >>> (nI d &&& 31)) &&& 1)) ((q 4 >>> (nI d &&& 31)) &&& 1)
def mG2 (q : Nat → Int32) (h : Int64) : Nat → Int64
  | 0 => h
  | n + 1 => mDD q (mG2 q h n) n
def mG (s : zS) (t : zL) (N M : Nat) : Int64 := 31 * (31 * mSum (s 114) 33 (mG2 (s 114) (mSum (s 114) 1 (mG1 s 8) 2) N) (4 * M) + t 113 4) + t 113 5
abbrev mX12_digest : zM := (yX12_digest, cX12_digest, 4, (some .long), { frames := 2, cells := 0, slots := 0, locals := 43 })
set_option maxRecDepth 100000 in
set_option maxHeartbeats 4000000 in
theorem l_X12_digest2 {l : Launch} {B : zB} {s : zS} {t : zL} {X : zX} (hl : X.2.1 = l) (C : zC X B mX12_digest) (N M : Nat) (hN : s 114 0 = nI N) (h6 : N ≤ 6) (hM : s 114 7 = nI M) (hM6 : M ≤ 6) (h1 : r8 (s 114 1)) (h2 : r8 (s 114 2)) (E : zE X B mX12_digest 124 0 0 (zR B (some (.long (mG s t N M))) s t)) : ∀ (m : Nat) (i : Nat) (h : Int64), i + m = N → h = mG2 (s 114) (mSum (s 114) 1 (mG1 s 8) 2) i → Zf X B mX12_digest s t 41 [(3, .int (nI i)), (1, .long h), (0, .ref (B.1 + 113))] [] := by
  intro m
  induction m with
  | zero =>
    intro i h hi ha
    refine z_iload_n C dX12_digest_41 0 rfl rfl ?_
    refine z_aload_n C dX12_digest_42 2 rfl rfl ?_
    refine f_callVr C hl (As := []) (rest := [.int (nI i)]) (c_X12_many l B s t) zb_113 (zg_12 zk_113) rfl (zCB (nA := 0) C rfl rfl tw_818 tw_13 tw_815 (by decide +kernel) ⟨Nat.le_of_ble_eq_true rfl, Nat.le_of_ble_eq_true rfl⟩) tw_817 tp_27 rfl rfl (Nat.le_of_ble_eq_true rfl) dX12_digest_43 (Nat.zero_le _) ?_
    refine f_topi (y := nI N) hN ?_
    refine z_icmp_ge C 102 dX12_digest_46 (by decide) (fun _ => ?_) (fun hbr => absurd (nI_le (by omega) (by omega)) hbr)
    refine z_aload_n C dX12_digest_102 2 rfl rfl ?_
    refine z_lload_n C dX12_digest_103 1 rfl rfl ?_
    refine z_bipush C dX12_digest_104 kb_33 ?_
    refine z_iconst C dX12_digest_106 ki_4 ?_
    refine z_aload_n C dX12_digest_107 2 rfl rfl ?_
    refine f_get12 C 0 (v := .ref (B.1 + 114)) (by decide) tw_744 rfl zk_113 zb_113 rfl dX12_digest_108 ?_
    refine z_bipush C dX12_digest_111 kb_7 ?_
    refine f_ialdL C zk_114 zb_114 (by unfold vp_in; decide) (j := 7) (by decide) dX12_digest_113 ?_
    refine f_topi (y := nI M) hM ?_
    refine z_imul C dX12_digest_114 ?_
    refine f_topi (y := nI (4 * M)) (nM (a := 4) rfl rfl rfl) ?_
    refine f_callVr C hl (As := [.long h, .int 33, .int (nI (4 * M))]) (rest := []) (c_X12_sums l B s t h 33 (4 * M) (by omega)) zb_113 (zg_12 zk_113) rfl (zCB (nA := 3) C rfl rfl tw_1107 tw_13 tw_1104 (by decide +kernel) ⟨Nat.le_of_ble_eq_true rfl, Nat.le_of_ble_eq_true rfl⟩) tw_1106 tp_56 rfl rfl (Nat.le_of_ble_eq_true rfl) dX12_digest_115 (Nat.zero_le _) ?_
    refine z_lstore_n C [(1, .long (mSum (s 114) 33 h (4 * M))), (3, .int (nI i)), (0, .ref (B.1 + 113))] dX12_digest_118 rfl (by decide) rfl ?_
    refine z_ldc2 C dX12_digest_119 tw_1103 ?_
    refine z_ldc2 C dX12_digest_122 tw_1103 ?_
    refine z_lload_n C dX12_digest_125 0 rfl rfl ?_
    refine z_lmul C dX12_digest_126 ?_
    refine z_aload_n C dX12_digest_127 2 rfl rfl ?_
    refine f_get12 C 4 (v := .long (t 113 4)) (by decide) tw_748 rfl zk_113 zb_113 rfl dX12_digest_128 ?_
    refine z_ladd C dX12_digest_131 ?_
    refine z_lmul C dX12_digest_132 ?_
    refine z_aload_n C dX12_digest_133 2 rfl rfl ?_
    refine f_get12 C 5 (v := .long (t 113 5)) (by decide) tw_749 rfl zk_113 zb_113 rfl dX12_digest_134 ?_
    refine z_ladd C dX12_digest_137 ?_
    refine z_lret C E rfl dX12_digest_138 rfl (Nat.le_refl _) ⟨by rw [ha, show i = N by omega]; rfl, rfl⟩
  | succ m ih =>
    intro i h hi0 ha
    have hi : i < N := by omega
    refine z_iload_n C dX12_digest_41 0 rfl rfl ?_
    refine z_aload_n C dX12_digest_42 2 rfl rfl ?_
    refine f_callVr C hl (As := []) (rest := [.int (nI i)]) (c_X12_many l B s t) zb_113 (zg_12 zk_113) rfl (zCB (nA := 0) C rfl rfl tw_818 tw_13 tw_815 (by decide +kernel) ⟨Nat.le_of_ble_eq_true rfl, Nat.le_of_ble_eq_true rfl⟩) tw_817 tp_27 rfl rfl (Nat.le_of_ble_eq_true rfl) dX12_digest_43 (Nat.zero_le _) ?_
    refine f_topi (y := nI N) hN ?_
    refine z_icmp_ge C 102 dX12_digest_46 (by decide) (fun hbr => absurd hbr (nI_ge hi (by omega))) (fun _ => ?_)
    refine z_aload_n C dX12_digest_49 2 rfl rfl ?_
    refine z_lload_n C dX12_digest_50 1 rfl rfl ?_
    refine z_bipush C dX12_digest_51 kb_9 ?_
    refine z_iconst C dX12_digest_53 ki_4 ?_
    refine z_iload_n C dX12_digest_54 0 rfl rfl ?_
    refine z_imul C dX12_digest_55 ?_
    refine z_iadd C dX12_digest_56 ?_
    refine f_topi (y := nI (9 + 4 * i)) (nA (a := 9) rfl (nM (a := 4) rfl rfl rfl) rfl) ?_
    refine z_iconst C dX12_digest_57 ki_4 ?_
    refine f_callVr C hl (As := [.long h, .int (nI (9 + 4 * i)), .int 4]) (rest := []) (c_X12_sums l B s t h (9 + 4 * i) 4 (by omega)) zb_113 (zg_12 zk_113) rfl (zCB (nA := 3) C rfl rfl tw_1107 tw_13 tw_1104 (by decide +kernel) ⟨Nat.le_of_ble_eq_true rfl, Nat.le_of_ble_eq_true rfl⟩) tw_1106 tp_56 rfl rfl (Nat.le_of_ble_eq_true rfl) dX12_digest_58 (Nat.zero_le _) ?_
    refine z_lstore_n C [(1, .long (mSum (s 114) (9 + 4 * i) h 4)), (3, .int (nI i)), (0, .ref (B.1 + 113))] dX12_digest_61 rfl (by decide) rfl ?_
    refine z_ldc2 C dX12_digest_62 tw_1103 ?_
    refine z_ldc2 C dX12_digest_65 tw_1103 ?_
    refine z_lload_n C dX12_digest_68 0 rfl rfl ?_
    refine z_lmul C dX12_digest_69 ?_
    refine z_aload_n C dX12_digest_70 2 rfl rfl ?_
    refine f_get12 C 0 (v := .ref (B.1 + 114)) (by decide) tw_744 rfl zk_113 zb_113 rfl dX12_digest_71 ?_
    refine z_iconst C dX12_digest_74 ki_3 ?_
    refine f_ialdL C zk_114 zb_114 (by unfold vp_in; decide) (j := 3) (by decide) dX12_digest_75 ?_
    refine z_iload_n C dX12_digest_76 1 rfl rfl ?_
    refine z_ishr C dX12_digest_77 ?_
    refine z_iconst C dX12_digest_78 ki_1 ?_
    refine z_iand C dX12_digest_79 ?_
    refine z_i2l C dX12_digest_80 ?_
    refine z_ladd C dX12_digest_81 ?_
    refine z_lmul C dX12_digest_82 ?_
    refine z_aload_n C dX12_digest_83 2 rfl rfl ?_
    refine f_get12 C 0 (v := .ref (B.1 + 114)) (by decide) tw_744 rfl zk_113 zb_113 rfl dX12_digest_84 ?_
    refine z_iconst C dX12_digest_87 ki_4 ?_
    refine f_ialdL C zk_114 zb_114 (by unfold vp_in; decide) (j := 4) (by decide) dX12_digest_88 ?_
    refine z_iload_n C dX12_digest_89 1 rfl rfl ?_
    refine z_ishr C dX12_digest_90 ?_
    refine z_iconst C dX12_digest_91 ki_1 ?_
    refine z_iand C dX12_digest_92 ?_
    refine z_i2l C dX12_digest_93 ?_
    refine z_ladd C dX12_digest_94 ?_
    refine z_lstore_n C [(1, .long ((31 * ((31 * (mSum (s 114) (9 + 4 * i) h 4)) + ((((s 114 3) >>> ((nI i) &&& 31)) &&& 1 : Int32).toInt64))) + ((((s 114 4) >>> ((nI i) &&& 31)) &&& 1 : Int32).toInt64))), (3, .int (nI i)), (0, .ref (B.1 + 113))] dX12_digest_95 rfl (by decide) rfl ?_
    refine z_iinc C [(3, .int (nI (i + 1))), (1, .long ((31 * ((31 * (mSum (s 114) (9 + 4 * i) h 4)) + ((((s 114 3) >>> ((nI i) &&& 31)) &&& 1 : Int32).toInt64))) + ((((s 114 4) >>> ((nI i) &&& 31)) &&& 1 : Int32).toInt64))), (0, .ref (B.1 + 113))] dX12_digest_96 1 rfl (nI_inc i) (by decide) rfl ?_
    refine z_goto C 41 dX12_digest_99 (by decide) ?_
    exact z_lv [0, 1, 2] rfl (ih (i + 1) _ (by omega) (by rw [mG2, ← ha]; rfl))
set_option maxRecDepth 100000 in
set_option maxHeartbeats 4000000 in
theorem l_X12_digest1 {l : Launch} {B : zB} {s : zS} {t : zL} {X : zX} (hl : X.2.1 = l) (C : zC X B mX12_digest) (N M : Nat) (hN : s 114 0 = nI N) (h6 : N ≤ 6) (hM : s 114 7 = nI M) (hM6 : M ≤ 6) (h1 : r8 (s 114 1)) (h2 : r8 (s 114 2)) (E : zE X B mX12_digest 124 0 0 (zR B (some (.long (mG s t N M))) s t)) : ∀ (m : Nat) (i : Nat) (h : Int64), i + m = 8 → h = mG1 s i → Zf X B mX12_digest s t 6 [(3, .int (nI i)), (1, .long h), (0, .ref (B.1 + 113))] [] := by
  intro m
  induction m with
  | zero =>
    intro i h hi ha
    obtain rfl : i = 8 := by omega
    refine z_iload_n C dX12_digest_6 0 rfl rfl ?_
    refine z_bipush C dX12_digest_7 kb_8 ?_
    refine z_icmp_ge C 31 dX12_digest_9 (by decide) (fun _ => ?_) (fun hbr => absurd (by decide) hbr)
    refine z_aload_n C dX12_digest_31 2 rfl rfl ?_
    refine z_lload_n C dX12_digest_32 1 rfl rfl ?_
    refine z_iconst C dX12_digest_33 ki_1 ?_
    refine z_iconst C dX12_digest_34 ki_2 ?_
    refine f_callVr C hl (As := [.long h, .int 1, .int 2]) (rest := []) (c_X12_sums l B s t h 1 2 (by decide)) zb_113 (zg_12 zk_113) rfl (zCB (nA := 3) C rfl rfl tw_1107 tw_13 tw_1104 (by decide +kernel) ⟨Nat.le_of_ble_eq_true rfl, Nat.le_of_ble_eq_true rfl⟩) tw_1106 tp_56 rfl rfl (Nat.le_of_ble_eq_true rfl) dX12_digest_35 (Nat.zero_le _) ?_
    refine z_lstore_n C [(1, .long (mSum (s 114) 1 h 2)), (3, .int (nI 8)), (0, .ref (B.1 + 113))] dX12_digest_38 rfl (by decide) rfl ?_
    refine z_iconst C dX12_digest_39 ki_0 ?_
    refine z_istore_n C [(3, .int 0), (1, .long (mSum (s 114) 1 h 2)), (0, .ref (B.1 + 113))] dX12_digest_40 rfl (by decide) rfl ?_
    exact z_lv [0, 1, 2] rfl (l_X12_digest2 hl C N M hN h6 hM hM6 h1 h2 E N 0 _ (by omega) (by rw [ha]; rfl))
  | succ m ih =>
    intro i h hi0 ha
    have hi : i < 8 := by omega
    refine z_iload_n C dX12_digest_6 0 rfl rfl ?_
    refine z_bipush C dX12_digest_7 kb_8 ?_
    refine z_icmp_ge C 31 dX12_digest_9 (by decide) (fun hbr => absurd hbr (show ¬ nI 8 ≤ nI i from nI_ge hi (by decide))) (fun _ => ?_)
    refine z_ldc2 C dX12_digest_12 tw_1103 ?_
    refine z_lload_n C dX12_digest_15 1 rfl rfl ?_
    refine z_lmul C dX12_digest_16 ?_
    refine z_aload_n C dX12_digest_17 2 rfl rfl ?_
    refine z_iload_n C dX12_digest_18 0 rfl rfl ?_
    refine f_callVr C hl (As := [.int (nI i)]) (rest := [.long (31 * h)]) (c_X12_counted l B s t h1 h2 i hi) zb_113 (zg_12 zk_113) rfl (zCB (nA := 1) C rfl rfl tw_1097 tw_13 tw_1094 (by decide +kernel) ⟨Nat.le_of_ble_eq_true rfl, Nat.le_of_ble_eq_true rfl⟩) tw_1096 tp_55 rfl rfl (Nat.le_of_ble_eq_true rfl) dX12_digest_19 (Nat.zero_le _) ?_
    refine z_i2l C dX12_digest_22 ?_
    refine z_ladd C dX12_digest_23 ?_
    refine z_lstore_n C [(1, .long ((31 * h) + ((mHow s i : Int32).toInt64))), (3, .int (nI i)), (0, .ref (B.1 + 113))] dX12_digest_24 rfl (by decide) rfl ?_
    refine z_iinc C [(3, .int (nI (i + 1))), (1, .long ((31 * h) + ((mHow s i : Int32).toInt64))), (0, .ref (B.1 + 113))] dX12_digest_25 1 rfl (nI_inc i) (by decide) rfl ?_
    refine z_goto C 6 dX12_digest_28 (by decide) ?_
    exact z_lv [0, 1, 2] rfl (ih (i + 1) _ (by omega) (by rw [mG1, ← ha]; rfl))
set_option maxRecDepth 100000 in
set_option maxHeartbeats 4000000 in
theorem c_X12_digest (l : Launch) (B : zB) (s : zS) (t : zL) (N M : Nat) (hN : s 114 0 = nI N) (h6 : N ≤ 6) (hM : s 114 7 = nI M) (hM6 : M ≤ 6) (h1 : r8 (s 114 1)) (h2 : r8 (s 114 2)) : zD l B mX12_digest s t [.ref (B.1 + 113)] (some (.long (mG s t N M))) s t := by
  refine z_met (by decide) (Nat.le_of_ble_eq_true rfl) ?_
  intro X hl C E hnm
  show Zf X B mX12_digest s t 0 [(0, .ref (B.1 + 113))] []
  refine z_ldc2 C dX12_digest_0 tw_1102 ?_
  refine z_lstore_n C [(1, .long 1187), (0, .ref (B.1 + 113))] dX12_digest_3 rfl (by decide) rfl ?_
  refine z_iconst C dX12_digest_4 ki_0 ?_
  refine z_istore_n C [(3, .int 0), (1, .long 1187), (0, .ref (B.1 + 113))] dX12_digest_5 rfl (by decide) rfl ?_
  exact z_lv [0, 1, 2] rfl (l_X12_digest1 hl C N M hN h6 hM hM6 h1 h2 E 8 0 _ (by omega) rfl)
