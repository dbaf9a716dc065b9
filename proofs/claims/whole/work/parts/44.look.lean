def mTf (s : zS) (a g k v : Int32) : zS := fun i j => if i = 113 then (if j = 13 then a else if j = 14 then g else if j = 15 then k else if j = 16 then v else s 113 j) else s i j
def mV (b : Nat → Int32) (n q : Nat) : Int32 := if n ≤ q then 0 else if q < tEnd b n 97 122 q then 0 else if q < tEnd b n 48 57 q then tNum b q (min 2 (tEnd b n 48 57 q - q)) else 0
def mT (s : zS) (b : Nat → Int32) (n q : Nat) : zS := mTf s (nI q) (nI (tE b n q - q)) (tK b n q) (mV b n q)
theorem mTf_row (s : zS) (a g k v : Int32) {i : Nat} (h : i ≠ 113) : mTf s a g k v i = s i := by funext j; simp [mTf, h]
theorem mTf_o (s : zS) (a g k v : Int32) {j : Nat} (h1 : j ≠ 13) (h2 : j ≠ 14) (h3 : j ≠ 15) (h4 : j ≠ 16) : mTf s a g k v 113 j = s 113 j := by simp [mTf, h1, h2, h3, h4]
theorem mTf_13 (s : zS) (a g k v : Int32) : mTf s a g k v 113 13 = a := by simp [mTf]
theorem mTf_14 (s : zS) (a g k v : Int32) : mTf s a g k v 113 14 = g := by simp [mTf]
theorem mTf_15 (s : zS) (a g k v : Int32) : mTf s a g k v 113 15 = k := by simp [mTf]
theorem mTf_16 (s : zS) (a g k v : Int32) : mTf s a g k v 113 16 = v := by simp [mTf]
theorem mTf_self (s : zS) : mTf s (s 113 13) (s 113 14) (s 113 15) (s 113 16) = s := by
  funext i j
  simp only [mTf]
  split
  · next h =>
    subst h
    split
    · next h => rw [h]
    · split
      · next h => rw [h]
      · split
        · next h => rw [h]
        · split
          · next h => rw [h]
          · rfl
  · rfl
theorem mTf_u13 (s : zS) (a g k v x : Int32) : zu (mTf s a g k v) 113 13 x = mTf s x g k v := by
  funext i j
  simp only [mTf, zu]
  by_cases hi : i = 113
  · by_cases hj : j = 13
    · simp [hi, hj]
    · simp [hi, hj]
  · simp [hi]
theorem mTf_u14 (s : zS) (a g k v x : Int32) : zu (mTf s a g k v) 113 14 x = mTf s a x k v := by
  funext i j
  simp only [mTf, zu]
  by_cases hi : i = 113
  · by_cases hj : j = 14
    · simp [hi, hj]
    · simp [hi, hj]
  · simp [hi]
theorem mTf_u15 (s : zS) (a g k v x : Int32) : zu (mTf s a g k v) 113 15 x = mTf s a g x v := by
  funext i j
  simp only [mTf, zu]
  by_cases hi : i = 113
  · by_cases hj : j = 15
    · simp [hi, hj]
    · simp [hi, hj]
  · simp [hi]
theorem mTf_u16 (s : zS) (a g k v x : Int32) : zu (mTf s a g k v) 113 16 x = mTf s a g k x := by
  funext i j
  simp only [mTf, zu]
  by_cases hi : i = 113
  · by_cases hj : j = 16
    · simp [hi, hj]
    · simp [hi, hj]
  · simp [hi]
theorem eq_btw {x c : Int32} : (¬ x < c ∧ ¬ c < x) ↔ x = c := by
  refine ⟨fun h => Int32.le_antisymm (Int32.not_lt.mp h.2) (Int32.not_lt.mp h.1), fun h => ?_⟩
  subst h
  exact ⟨Int32.lt_irrefl, Int32.lt_irrefl⟩
theorem tEnd_gt {b : Nat → Int32} {n q : Nat} {lo hi : Int32} (h : q < n) : q < tEnd b n lo hi q ↔ wIn2 (b q) lo hi = true := by
  unfold tEnd wIn2
  obtain ⟨f, e⟩ : ∃ f, n - q = f + 1 := ⟨n - q - 1, by omega⟩
  rw [e, tRun, decide_eq_true_eq]
  split
  · next g => exact ⟨fun _ => g, fun _ => Nat.lt_of_lt_of_le (Nat.lt_succ_self q) (tRun_ge b lo hi f (q + 1))⟩
  · next g => exact ⟨fun z => absurd z (Nat.lt_irrefl q), fun z => absurd z g⟩
theorem tEnd_1 {b : Nat → Int32} {n q : Nat} {lo hi : Int32} (h : q < n) (g : wIn2 (b q) lo hi = true) : tRun b lo hi (n - (q + 1)) (q + 1) = tEnd b n lo hi q := by
  unfold tEnd
  obtain ⟨f, e⟩ : ∃ f, n - q = f + 1 := ⟨n - q - 1, by omega⟩
  rw [e, tRun, if_pos (of_decide_eq_true g), show n - (q + 1) = f by omega]
abbrev mX12_isSmall : zM := (yX12_isSmall, cX12_isSmall, 1, (some .boolean), { frames := 1, cells := 0, slots := 0, locals := 25 })
set_option maxRecDepth 100000 in
set_option maxHeartbeats 4000000 in
theorem c_X12_isSmall (l : Launch) (B : zB) (s : zS) (t : zL) (c : Int32) : zD l B mX12_isSmall s t [.int c] (some (.int (zi (wIn2 c 97 122)))) s t := by
  refine z_met (by decide) (Nat.le_of_ble_eq_true rfl) ?_
  intro X hl C E hnm
  show Zf X B mX12_isSmall s t 0 [(0, .int c)] []
  refine z_iload_n C dX12_isSmall_0 0 rfl rfl ?_
  refine z_i2l C dX12_isSmall_1 ?_
  refine z_ldc2 C dX12_isSmall_2 tw_1035 ?_
  refine z_ldc2 C dX12_isSmall_5 tw_1036 ?_
  refine f_callSr C hl (As := [.long ((c : Int32).toInt64), .long 97, .long 122]) (rest := []) (c_X12_in l B s t c 97 122 ((c : Int32).toInt64) 97 122 rfl (by decide) (by decide)) (zCB (nA := 3) C rfl rfl tw_810 tw_13 tw_808 (by decide +kernel) ⟨Nat.le_of_ble_eq_true rfl, Nat.le_of_ble_eq_true rfl⟩) tw_809 rfl rfl (Nat.le_of_ble_eq_true rfl) dX12_isSmall_8 (Nat.zero_le _) ?_
  refine z_zret C E rfl dX12_isSmall_11 (zi_nar _) rfl (Nat.le_refl _) ⟨rfl, rfl⟩
abbrev mX12_isFigure : zM := (yX12_isFigure, cX12_isFigure, 1, (some .boolean), { frames := 1, cells := 0, slots := 0, locals := 25 })
set_option maxRecDepth 100000 in
set_option maxHeartbeats 4000000 in
theorem c_X12_isFigure (l : Launch) (B : zB) (s : zS) (t : zL) (c : Int32) : zD l B mX12_isFigure s t [.int c] (some (.int (zi (wIn2 c 48 57)))) s t := by
  refine z_met (by decide) (Nat.le_of_ble_eq_true rfl) ?_
  intro X hl C E hnm
  show Zf X B mX12_isFigure s t 0 [(0, .int c)] []
  refine z_iload_n C dX12_isFigure_0 0 rfl rfl ?_
  refine z_i2l C dX12_isFigure_1 ?_
  refine z_ldc2 C dX12_isFigure_2 tw_1040 ?_
  refine z_ldc2 C dX12_isFigure_5 tw_1041 ?_
  refine f_callSr C hl (As := [.long ((c : Int32).toInt64), .long 48, .long 57]) (rest := []) (c_X12_in l B s t c 48 57 ((c : Int32).toInt64) 48 57 rfl (by decide) (by decide)) (zCB (nA := 3) C rfl rfl tw_810 tw_13 tw_808 (by decide +kernel) ⟨Nat.le_of_ble_eq_true rfl, Nat.le_of_ble_eq_true rfl⟩) tw_809 rfl rfl (Nat.le_of_ble_eq_true rfl) dX12_isFigure_8 (Nat.zero_le _) ?_
  refine z_zret C E rfl dX12_isFigure_11 (zi_nar _) rfl (Nat.le_refl _) ⟨rfl, rfl⟩
abbrev mX12_lookAt : zM := (yX12_lookAt, cX12_lookAt, 5, none, { frames := 2, cells := 0, slots := 0, locals := 45 })
set_option maxRecDepth 100000 in
set_option maxHeartbeats 4000000 in
theorem l_X12_lookAt_t3 {l : Launch} {B : zB} {s : zS} {t : zL} {X : zX} (hl : X.2.1 = l) (C : zC X B mX12_lookAt) (b : Nat → Int32) (hb : s 121 = b) (n : Nat) (hn : s 113 12 = nI n) (h150 : n ≤ 150) (q : Nat) (hq : q < n) (p c : Int32) (e1 : ¬ q < tEnd b n 97 122 q) (e2 : ¬ q < tEnd b n 48 57 q) (e3 : b q = 59) (E : zE X B mX12_lookAt 124 0 0 (zR B none (mT s b n q) t)) : Zf X B mX12_lookAt (mTf s (nI q) 0 3 0) t 117 [(2, .int c), (0, .ref (B.1 + 113)), (1, .int p)] [] := by
  refine z_aload_n C dX12_lookAt_117 1 rfl rfl ?_
  refine z_iconst C dX12_lookAt_118 ki_1 ?_
  refine f_put12_14 C tw_758 zk_113 zb_113 dX12_lookAt_119 ?_
  refine z_G (congrArg (fun z => zg B z t) (mTf_u14 _ _ _ _ _ _)) ?_
  refine z_aload_n C dX12_lookAt_122 1 rfl rfl ?_
  refine f_get12 C 15 (v := .int ((mTf s (nI q) 1 3 0) 113 15)) (by decide) tw_759 rfl zk_113 zb_113 rfl dX12_lookAt_123 ?_
  refine f_topi (y := 3) (mTf_15 _ _ _ _ _) ?_
  refine z_iconst C dX12_lookAt_126 ki_3 ?_
  refine z_icmp_ge C 134 dX12_lookAt_127 (by decide) (fun _ => ?_) (fun hbr => absurd (by decide) hbr)
  refine z_iconst C dX12_lookAt_134 ki_0 ?_
  refine z_istore_n C [(3, .int 0), (2, .int c), (0, .ref (B.1 + 113)), (1, .int p)] dX12_lookAt_135 rfl (by decide) rfl ?_
  refine z_iload_n C dX12_lookAt_136 0 rfl rfl ?_
  refine z_if_eq C 215 dX12_lookAt_137 (by decide) (fun _ => ?_) (fun hbr => absurd (by decide) hbr)
  refine z_iconst C dX12_lookAt_215 ki_0 ?_
  refine z_istore C [(4, .int 0), (3, .int 0), (2, .int c), (0, .ref (B.1 + 113)), (1, .int p)] dX12_lookAt_216 (by decide) rfl ?_
  refine z_iload C dX12_lookAt_218 0 rfl ?_
  refine z_aload_n C dX12_lookAt_220 3 rfl rfl ?_
  refine f_get12 C 14 (v := .int ((mTf s (nI q) 1 3 0) 113 14)) (by decide) tw_758 rfl zk_113 zb_113 rfl dX12_lookAt_221 ?_
  refine f_topi (y := 1) (mTf_14 _ _ _ _ _) ?_
  refine z_icmp_ge C 274 dX12_lookAt_224 (by decide) (fun hbr => absurd hbr (by decide)) (fun _ => ?_)
  refine z_iload C dX12_lookAt_227 0 rfl ?_
  refine z_iconst C dX12_lookAt_229 ki_2 ?_
  refine z_icmp_ge C 274 dX12_lookAt_230 (by decide) (fun hbr => absurd hbr (by decide)) (fun _ => ?_)
  refine z_aload_n C dX12_lookAt_233 3 rfl rfl ?_
  refine f_get12 C 15 (v := .int ((mTf s (nI q) 1 3 0) 113 15)) (by decide) tw_759 rfl zk_113 zb_113 rfl dX12_lookAt_234 ?_
  refine f_topi (y := 3) (mTf_15 _ _ _ _ _) ?_
  refine z_iconst C dX12_lookAt_237 ki_2 ?_
  refine z_icmp_ne C 274 dX12_lookAt_238 (by decide) (fun _ => ?_) (fun hbr => absurd hbr (by decide))
  refine z_aload_n C dX12_lookAt_274 3 rfl rfl ?_
  refine z_aload_n C dX12_lookAt_275 3 rfl rfl ?_
  refine f_get12 C 15 (v := .int ((mTf s (nI q) 1 3 0) 113 15)) (by decide) tw_759 rfl zk_113 zb_113 rfl dX12_lookAt_276 ?_
  refine f_topi (y := 3) (mTf_15 _ _ _ _ _) ?_
  refine z_iconst C dX12_lookAt_279 ki_2 ?_
  refine z_icmp_ne C 295 dX12_lookAt_280 (by decide) (fun _ => ?_) (fun hbr => absurd hbr (by decide))
  refine z_aload_n C dX12_lookAt_295 3 rfl rfl ?_
  refine f_get12 C 15 (v := .int ((mTf s (nI q) 1 3 0) 113 15)) (by decide) tw_759 rfl zk_113 zb_113 rfl dX12_lookAt_296 ?_
  refine f_topi (y := 3) (mTf_15 _ _ _ _ _) ?_
  refine f_put12_15 C tw_759 zk_113 zb_113 dX12_lookAt_299 ?_
  refine z_vret C E rfl dX12_lookAt_302 rfl (Nat.le_refl _) ⟨rfl, congrArg (fun z => zg B z t) (by rw [mTf_u15, mT, tE, if_neg (by omega), if_neg e1, if_neg e2, tK, if_neg (by omega), if_neg e1, if_neg e2, if_pos e3, mV, if_neg (by omega), if_neg e1, if_neg e2, show q + 1 - q = 1 by omega]; rfl)⟩
set_option maxRecDepth 100000 in
set_option maxHeartbeats 4000000 in
theorem l_X12_lookAt_t4 {l : Launch} {B : zB} {s : zS} {t : zL} {X : zX} (hl : X.2.1 = l) (C : zC X B mX12_lookAt) (b : Nat → Int32) (hb : s 121 = b) (n : Nat) (hn : s 113 12 = nI n) (h150 : n ≤ 150) (q : Nat) (hq : q < n) (p c : Int32) (e1 : ¬ q < tEnd b n 97 122 q) (e2 : ¬ q < tEnd b n 48 57 q) (e3 : ¬ b q = 59) (E : zE X B mX12_lookAt 124 0 0 (zR B none (mT s b n q) t)) : Zf X B mX12_lookAt (mTf s (nI q) 0 4 0) t 117 [(2, .int c), (0, .ref (B.1 + 113)), (1, .int p)] [] := by
  refine z_aload_n C dX12_lookAt_117 1 rfl rfl ?_
  refine z_iconst C dX12_lookAt_118 ki_1 ?_
  refine f_put12_14 C tw_758 zk_113 zb_113 dX12_lookAt_119 ?_
  refine z_G (congrArg (fun z => zg B z t) (mTf_u14 _ _ _ _ _ _)) ?_
  refine z_aload_n C dX12_lookAt_122 1 rfl rfl ?_
  refine f_get12 C 15 (v := .int ((mTf s (nI q) 1 4 0) 113 15)) (by decide) tw_759 rfl zk_113 zb_113 rfl dX12_lookAt_123 ?_
  refine f_topi (y := 4) (mTf_15 _ _ _ _ _) ?_
  refine z_iconst C dX12_lookAt_126 ki_3 ?_
  refine z_icmp_ge C 134 dX12_lookAt_127 (by decide) (fun _ => ?_) (fun hbr => absurd (by decide) hbr)
  refine z_iconst C dX12_lookAt_134 ki_0 ?_
  refine z_istore_n C [(3, .int 0), (2, .int c), (0, .ref (B.1 + 113)), (1, .int p)] dX12_lookAt_135 rfl (by decide) rfl ?_
  refine z_iload_n C dX12_lookAt_136 0 rfl rfl ?_
  refine z_if_eq C 215 dX12_lookAt_137 (by decide) (fun _ => ?_) (fun hbr => absurd (by decide) hbr)
  refine z_iconst C dX12_lookAt_215 ki_0 ?_
  refine z_istore C [(4, .int 0), (3, .int 0), (2, .int c), (0, .ref (B.1 + 113)), (1, .int p)] dX12_lookAt_216 (by decide) rfl ?_
  refine z_iload C dX12_lookAt_218 0 rfl ?_
  refine z_aload_n C dX12_lookAt_220 3 rfl rfl ?_
  refine f_get12 C 14 (v := .int ((mTf s (nI q) 1 4 0) 113 14)) (by decide) tw_758 rfl zk_113 zb_113 rfl dX12_lookAt_221 ?_
  refine f_topi (y := 1) (mTf_14 _ _ _ _ _) ?_
  refine z_icmp_ge C 274 dX12_lookAt_224 (by decide) (fun hbr => absurd hbr (by decide)) (fun _ => ?_)
  refine z_iload C dX12_lookAt_227 0 rfl ?_
  refine z_iconst C dX12_lookAt_229 ki_2 ?_
  refine z_icmp_ge C 274 dX12_lookAt_230 (by decide) (fun hbr => absurd hbr (by decide)) (fun _ => ?_)
  refine z_aload_n C dX12_lookAt_233 3 rfl rfl ?_
  refine f_get12 C 15 (v := .int ((mTf s (nI q) 1 4 0) 113 15)) (by decide) tw_759 rfl zk_113 zb_113 rfl dX12_lookAt_234 ?_
  refine f_topi (y := 4) (mTf_15 _ _ _ _ _) ?_
  refine z_iconst C dX12_lookAt_237 ki_2 ?_
  refine z_icmp_ne C 274 dX12_lookAt_238 (by decide) (fun _ => ?_) (fun hbr => absurd hbr (by decide))
  refine z_aload_n C dX12_lookAt_274 3 rfl rfl ?_
  refine z_aload_n C dX12_lookAt_275 3 rfl rfl ?_
  refine f_get12 C 15 (v := .int ((mTf s (nI q) 1 4 0) 113 15)) (by decide) tw_759 rfl zk_113 zb_113 rfl dX12_lookAt_276 ?_
  refine f_topi (y := 4) (mTf_15 _ _ _ _ _) ?_
  refine z_iconst C dX12_lookAt_279 ki_2 ?_
  refine z_icmp_ne C 295 dX12_lookAt_280 (by decide) (fun _ => ?_) (fun hbr => absurd hbr (by decide))
  refine z_aload_n C dX12_lookAt_295 3 rfl rfl ?_
  refine f_get12 C 15 (v := .int ((mTf s (nI q) 1 4 0) 113 15)) (by decide) tw_759 rfl zk_113 zb_113 rfl dX12_lookAt_296 ?_
  refine f_topi (y := 4) (mTf_15 _ _ _ _ _) ?_
  refine f_put12_15 C tw_759 zk_113 zb_113 dX12_lookAt_299 ?_
  refine z_vret C E rfl dX12_lookAt_302 rfl (Nat.le_refl _) ⟨rfl, congrArg (fun z => zg B z t) (by rw [mTf_u15, mT, tE, if_neg (by omega), if_neg e1, if_neg e2, tK, if_neg (by omega), if_neg e1, if_neg e2, if_neg e3, mV, if_neg (by omega), if_neg e1, if_neg e2, show q + 1 - q = 1 by omega]; rfl)⟩
set_option maxRecDepth 100000 in
set_option maxHeartbeats 4000000 in
theorem l_X12_lookAt_d1 {l : Launch} {B : zB} {s : zS} {t : zL} {X : zX} (hl : X.2.1 = l) (C : zC X B mX12_lookAt) (b : Nat → Int32) (hb : s 121 = b) (n : Nat) (hn : s 113 12 = nI n) (h150 : n ≤ 150) (q : Nat) (hq : q < n) (p c : Int32) (gs : Int32) (L : Nat) (hL : 1 ≤ L) (hL2 : L ≤ 150) (e1 : q < tEnd b n 97 122 q) (eL : L = tEnd b n 97 122 q - q) (E : zE X B mX12_lookAt 124 0 0 (zR B none (mT s b n q) t)) : Zf X B mX12_lookAt (mTf s (nI q) (nI L) 1 0) t 215 [(3, .int gs), (2, .int c), (0, .ref (B.1 + 113)), (1, .int p)] [] := by
  refine z_iconst C dX12_lookAt_215 ki_0 ?_
  refine z_istore C [(4, .int 0), (3, .int gs), (2, .int c), (0, .ref (B.1 + 113)), (1, .int p)] dX12_lookAt_216 (by decide) rfl ?_
  refine z_iload C dX12_lookAt_218 0 rfl ?_
  refine z_aload_n C dX12_lookAt_220 3 rfl rfl ?_
  refine f_get12 C 14 (v := .int ((mTf s (nI q) (nI L) 1 0) 113 14)) (by decide) tw_758 rfl zk_113 zb_113 rfl dX12_lookAt_221 ?_
  refine f_topi (y := nI L) (mTf_14 _ _ _ _ _) ?_
  refine z_icmp_ge C 274 dX12_lookAt_224 (by decide) (fun hbr => absurd hbr (show ¬ nI L ≤ nI 0 from nI_ge (by omega) (by omega))) (fun _ => ?_)
  refine z_iload C dX12_lookAt_227 0 rfl ?_
  refine z_iconst C dX12_lookAt_229 ki_2 ?_
  refine z_icmp_ge C 274 dX12_lookAt_230 (by decide) (fun hbr => absurd hbr (by decide)) (fun _ => ?_)
  refine z_aload_n C dX12_lookAt_233 3 rfl rfl ?_
  refine f_get12 C 15 (v := .int ((mTf s (nI q) (nI L) 1 0) 113 15)) (by decide) tw_759 rfl zk_113 zb_113 rfl dX12_lookAt_234 ?_
  refine f_topi (y := 1) (mTf_15 _ _ _ _ _) ?_
  refine z_iconst C dX12_lookAt_237 ki_2 ?_
  refine z_icmp_ne C 274 dX12_lookAt_238 (by decide) (fun _ => ?_) (fun hbr => absurd hbr (by decide))
  refine z_aload_n C dX12_lookAt_274 3 rfl rfl ?_
  refine z_aload_n C dX12_lookAt_275 3 rfl rfl ?_
  refine f_get12 C 15 (v := .int ((mTf s (nI q) (nI L) 1 0) 113 15)) (by decide) tw_759 rfl zk_113 zb_113 rfl dX12_lookAt_276 ?_
  refine f_topi (y := 1) (mTf_15 _ _ _ _ _) ?_
  refine z_iconst C dX12_lookAt_279 ki_2 ?_
  refine z_icmp_ne C 295 dX12_lookAt_280 (by decide) (fun _ => ?_) (fun hbr => absurd hbr (by decide))
  refine z_aload_n C dX12_lookAt_295 3 rfl rfl ?_
  refine f_get12 C 15 (v := .int ((mTf s (nI q) (nI L) 1 0) 113 15)) (by decide) tw_759 rfl zk_113 zb_113 rfl dX12_lookAt_296 ?_
  refine f_topi (y := 1) (mTf_15 _ _ _ _ _) ?_
  refine f_put12_15 C tw_759 zk_113 zb_113 dX12_lookAt_299 ?_
  refine z_vret C E rfl dX12_lookAt_302 rfl (Nat.le_refl _) ⟨rfl, congrArg (fun z => zg B z t) (by rw [mTf_u15, mT, tE, if_neg (by omega), if_pos e1, tK, if_neg (by omega), if_pos e1, mV, if_neg (by omega), if_pos e1, eL])⟩
set_option maxRecDepth 100000 in
set_option maxHeartbeats 4000000 in
theorem l_X12_lookAt_e2 {l : Launch} {B : zB} {s : zS} {t : zL} {X : zX} (hl : X.2.1 = l) (C : zC X B mX12_lookAt) (b : Nat → Int32) (hb : s 121 = b) (n : Nat) (hn : s 113 12 = nI n) (h150 : n ≤ 150) (q : Nat) (hq : q < n) (p c : Int32) (gs : Int32) (L : Nat) (hL : 1 ≤ L) (hL2 : L ≤ 150) (e1 : ¬ q < tEnd b n 97 122 q) (e2 : q < tEnd b n 48 57 q) (eL : L = tEnd b n 48 57 q - q) (ks : Int32) (E : zE X B mX12_lookAt 124 0 0 (zR B none (mT s b n q) t)) : Zf X B mX12_lookAt (mTf s (nI q) (nI L) 2 (tNum b q (min 2 L))) t 274 [(4, .int ks), (3, .int gs), (2, .int c), (0, .ref (B.1 + 113)), (1, .int p)] [] := by
  refine z_aload_n C dX12_lookAt_274 3 rfl rfl ?_
  refine z_aload_n C dX12_lookAt_275 3 rfl rfl ?_
  refine f_get12 C 15 (v := .int ((mTf s (nI q) (nI L) 2 (tNum b q (min 2 L))) 113 15)) (by decide) tw_759 rfl zk_113 zb_113 rfl dX12_lookAt_276 ?_
  refine f_topi (y := 2) (mTf_15 _ _ _ _ _) ?_
  refine z_iconst C dX12_lookAt_279 ki_2 ?_
  refine z_icmp_ne C 295 dX12_lookAt_280 (by decide) (fun hbr => absurd (by decide) hbr) (fun _ => ?_)
  refine z_aload_n C dX12_lookAt_283 3 rfl rfl ?_
  refine f_get12 C 14 (v := .int ((mTf s (nI q) (nI L) 2 (tNum b q (min 2 L))) 113 14)) (by decide) tw_758 rfl zk_113 zb_113 rfl dX12_lookAt_284 ?_
  refine f_topi (y := nI L) (mTf_14 _ _ _ _ _) ?_
  refine z_iconst C dX12_lookAt_287 ki_2 ?_
  refine z_icmp_le C 295 dX12_lookAt_288 (by decide) (fun h288 => ?_) (fun h288 => ?_)
  · refine z_aload_n C dX12_lookAt_295 3 rfl rfl ?_
    refine f_get12 C 15 (v := .int ((mTf s (nI q) (nI L) 2 (tNum b q (min 2 L))) 113 15)) (by decide) tw_759 rfl zk_113 zb_113 rfl dX12_lookAt_296 ?_
    refine f_topi (y := 2) (mTf_15 _ _ _ _ _) ?_
    refine f_put12_15 C tw_759 zk_113 zb_113 dX12_lookAt_299 ?_
    have e6 : tEnd b n 48 57 q - q ≤ 2 := by rw [← eL]; exact (nI_leI (b := 2) (by omega) (by decide)).mp h288
    refine z_vret C E rfl dX12_lookAt_302 rfl (Nat.le_refl _) ⟨rfl, congrArg (fun z => zg B z t) (by rw [mTf_u15, mT, tE, if_neg (by omega), if_neg e1, if_pos e2, tK, if_neg (by omega), if_neg e1, if_pos e2, if_pos e6, mV, if_neg (by omega), if_neg e1, if_pos e2, eL])⟩
  · refine z_iconst C dX12_lookAt_291 ki_4 ?_
    refine z_goto C 299 dX12_lookAt_292 (by decide) ?_
    refine f_put12_15 C tw_759 zk_113 zb_113 dX12_lookAt_299 ?_
    have e6 : ¬ tEnd b n 48 57 q - q ≤ 2 := by rw [← eL]; exact fun z => h288 ((nI_leI (b := 2) (by omega) (by decide)).mpr z)
    refine z_vret C E rfl dX12_lookAt_302 rfl (Nat.le_refl _) ⟨rfl, congrArg (fun z => zg B z t) (by rw [mTf_u15, mT, tE, if_neg (by omega), if_neg e1, if_pos e2, tK, if_neg (by omega), if_neg e1, if_pos e2, if_neg e6, mV, if_neg (by omega), if_neg e1, if_pos e2, eL])⟩
set_option maxRecDepth 100000 in
set_option maxHeartbeats 4000000 in
theorem l_X12_lookAt_k {l : Launch} {B : zB} {s : zS} {t : zL} {X : zX} (hl : X.2.1 = l) (C : zC X B mX12_lookAt) (b : Nat → Int32) (hb : s 121 = b) (n : Nat) (hn : s 113 12 = nI n) (h150 : n ≤ 150) (q : Nat) (hq : q < n) (p c : Int32) (gs : Int32) (L : Nat) (hL : 1 ≤ L) (hL2 : L ≤ 150) (e1 : ¬ q < tEnd b n 97 122 q) (e2 : q < tEnd b n 48 57 q) (eL : L = tEnd b n 48 57 q - q) (hLn : q + L ≤ n) (E : zE X B mX12_lookAt 124 0 0 (zR B none (mT s b n q) t)) : ∀ (m : Nat) (k : Nat), k + m = min 2 L → Zf X B mX12_lookAt (mTf s (nI q) (nI L) 2 (tNum b q k)) t 218 [(4, .int (nI k)), (3, .int gs), (2, .int c), (0, .ref (B.1 + 113)), (1, .int p)] [] := by
  intro m
  induction m with
  | zero =>
    intro k hk0
    refine z_iload C dX12_lookAt_218 0 rfl ?_
    refine z_aload_n C dX12_lookAt_220 3 rfl rfl ?_
    refine f_get12 C 14 (v := .int ((mTf s (nI q) (nI L) 2 (tNum b q k)) 113 14)) (by decide) tw_758 rfl zk_113 zb_113 rfl dX12_lookAt_221 ?_
    refine f_topi (y := nI L) (mTf_14 _ _ _ _ _) ?_
    refine z_icmp_ge C 274 dX12_lookAt_224 (by decide) (fun h224 => ?_) (fun h224 => ?_)
    · rw [show k = min 2 L by omega]
      exact z_lv [0, 1, 2, 3, 4] rfl (l_X12_lookAt_e2 hl C b hb n hn h150 q hq p c gs L hL hL2 e1 e2 eL _ E)
    · refine z_iload C dX12_lookAt_227 0 rfl ?_
      refine z_iconst C dX12_lookAt_229 ki_2 ?_
      refine z_icmp_ge C 274 dX12_lookAt_230 (by decide) (fun _ => ?_) (fun hbr => absurd (show nI 2 ≤ nI k from nI_le (by have h9 : ¬ L ≤ k := fun z => h224 (nI_le z (by omega)); omega) (by omega)) hbr)
      rw [show k = min 2 L by omega]
      exact z_lv [0, 1, 2, 3, 4] rfl (l_X12_lookAt_e2 hl C b hb n hn h150 q hq p c gs L hL hL2 e1 e2 eL _ E)
  | succ m ih =>
    intro k hk0
    refine z_iload C dX12_lookAt_218 0 rfl ?_
    refine z_aload_n C dX12_lookAt_220 3 rfl rfl ?_
    refine f_get12 C 14 (v := .int ((mTf s (nI q) (nI L) 2 (tNum b q k)) 113 14)) (by decide) tw_758 rfl zk_113 zb_113 rfl dX12_lookAt_221 ?_
    refine f_topi (y := nI L) (mTf_14 _ _ _ _ _) ?_
    refine z_icmp_ge C 274 dX12_lookAt_224 (by decide) (fun hbr => absurd hbr (nI_ge (by omega) (by omega))) (fun _ => ?_)
    refine z_iload C dX12_lookAt_227 0 rfl ?_
    refine z_iconst C dX12_lookAt_229 ki_2 ?_
    refine z_icmp_ge C 274 dX12_lookAt_230 (by decide) (fun hbr => absurd hbr (show ¬ nI 2 ≤ nI k from nI_ge (by omega) (by decide))) (fun _ => ?_)
    refine z_aload_n C dX12_lookAt_233 3 rfl rfl ?_
    refine f_get12 C 15 (v := .int ((mTf s (nI q) (nI L) 2 (tNum b q k)) 113 15)) (by decide) tw_759 rfl zk_113 zb_113 rfl dX12_lookAt_234 ?_
    refine f_topi (y := 2) (mTf_15 _ _ _ _ _) ?_
    refine z_iconst C dX12_lookAt_237 ki_2 ?_
    refine z_icmp_ne C 274 dX12_lookAt_238 (by decide) (fun hbr => absurd (by decide) hbr) (fun _ => ?_)
    refine z_aload_n C dX12_lookAt_241 3 rfl rfl ?_
    refine z_bipush C dX12_lookAt_242 kb_10 ?_
    refine z_aload_n C dX12_lookAt_244 3 rfl rfl ?_
    refine f_get12 C 16 (v := .int ((mTf s (nI q) (nI L) 2 (tNum b q k)) 113 16)) (by decide) tw_760 rfl zk_113 zb_113 rfl dX12_lookAt_245 ?_
    refine f_topi (y := tNum b q k) (mTf_16 _ _ _ _ _) ?_
    refine z_imul C dX12_lookAt_248 ?_
    refine z_aload_n C dX12_lookAt_249 3 rfl rfl ?_
    refine f_get12 C 11 (v := .ref (B.1 + 121)) (by decide) tw_755 rfl zk_113 zb_113 rfl dX12_lookAt_250 ?_
    refine z_aload_n C dX12_lookAt_253 3 rfl rfl ?_
    refine f_get12 C 13 (v := .int ((mTf s (nI q) (nI L) 2 (tNum b q k)) 113 13)) (by decide) tw_757 rfl zk_113 zb_113 rfl dX12_lookAt_254 ?_
    refine f_topi (y := nI q) (mTf_13 _ _ _ _ _) ?_
    refine z_iload C dX12_lookAt_257 0 rfl ?_
    refine z_iadd C dX12_lookAt_259 ?_
    refine f_ialdL C zk_121 zb_121 (ixN (n := 150) (nA rfl rfl rfl) (by omega) (by decide)).1 (j := (q + k)) (ixN (n := 150) (nA rfl rfl rfl) (by omega) (by decide)).2 dX12_lookAt_260 ?_
    refine f_topi (y := b (q + k)) (by rw [mTf_row _ _ _ _ _ (by decide), hb]) ?_
    refine z_iadd C dX12_lookAt_261 ?_
    refine z_bipush C dX12_lookAt_262 kb_48 ?_
    refine z_isub C dX12_lookAt_264 ?_
    refine f_topi (y := tNum b q (k + 1)) rfl ?_
    refine f_put12_16 C tw_760 zk_113 zb_113 dX12_lookAt_265 ?_
    refine z_G (congrArg (fun z => zg B z t) (mTf_u16 _ _ _ _ _ _)) ?_
    refine z_iinc C [(4, .int (nI (k + 1))), (3, .int gs), (2, .int c), (0, .ref (B.1 + 113)), (1, .int p)] dX12_lookAt_268 0 rfl (nI_inc k) (by decide) rfl ?_
    refine z_goto C 218 dX12_lookAt_271 (by decide) ?_
    exact z_lv [0, 1, 2, 3, 4] rfl (ih (k + 1) (by omega))
set_option maxRecDepth 100000 in
set_option maxHeartbeats 4000000 in
theorem l_X12_lookAt_d2 {l : Launch} {B : zB} {s : zS} {t : zL} {X : zX} (hl : X.2.1 = l) (C : zC X B mX12_lookAt) (b : Nat → Int32) (hb : s 121 = b) (n : Nat) (hn : s 113 12 = nI n) (h150 : n ≤ 150) (q : Nat) (hq : q < n) (p c : Int32) (gs : Int32) (L : Nat) (hL : 1 ≤ L) (hL2 : L ≤ 150) (e1 : ¬ q < tEnd b n 97 122 q) (e2 : q < tEnd b n 48 57 q) (eL : L = tEnd b n 48 57 q - q) (hLn : q + L ≤ n) (E : zE X B mX12_lookAt 124 0 0 (zR B none (mT s b n q) t)) : Zf X B mX12_lookAt (mTf s (nI q) (nI L) 2 0) t 215 [(3, .int gs), (2, .int c), (0, .ref (B.1 + 113)), (1, .int p)] [] := by
  refine z_iconst C dX12_lookAt_215 ki_0 ?_
  refine z_istore C [(4, .int 0), (3, .int gs), (2, .int c), (0, .ref (B.1 + 113)), (1, .int p)] dX12_lookAt_216 (by decide) rfl ?_
  exact z_lv (lv2 := [(4, .int (nI 0)), (3, .int gs), (2, .int c), (0, .ref (B.1 + 113)), (1, .int p)]) [0, 1, 2, 3, 4] rfl (l_X12_lookAt_k hl C b hb n hn h150 q hq p c gs L hL hL2 e1 e2 eL hLn E (min 2 L) 0 (by omega))
set_option maxRecDepth 100000 in
set_option maxHeartbeats 4000000 in
theorem l_X12_lookAt_f1 {l : Launch} {B : zB} {s : zS} {t : zL} {X : zX} (hl : X.2.1 = l) (C : zC X B mX12_lookAt) (b : Nat → Int32) (hb : s 121 = b) (n : Nat) (hn : s 113 12 = nI n) (h150 : n ≤ 150) (q : Nat) (hq : q < n) (p c : Int32) (e : Nat) (kk : ∀ gs : Int32, Zf X B mX12_lookAt (mTf s (nI q) (nI (e - q)) 1 0) t 215 [(3, .int gs), (2, .int c), (0, .ref (B.1 + 113)), (1, .int p)] []) (L : Nat) (e9 : L = e - q) (E : zE X B mX12_lookAt 124 0 0 (zR B none (mT s b n q) t)) : Zf X B mX12_lookAt (mTf s (nI q) (nI L) 1 0) t 136 [(3, .int (zi false)), (2, .int c), (0, .ref (B.1 + 113)), (1, .int p)] [] := by
  refine z_iload_n C dX12_lookAt_136 0 rfl rfl ?_
  refine z_ifb_eq C 215 dX12_lookAt_137 (by decide) (fun _ => ?_) (fun hbr => Bool.noConfusion (show true = false from hbr.symm.trans rfl))
  rw [e9]
  exact z_lv [0, 1, 2, 3] rfl (kk _)
set_option maxRecDepth 100000 in
set_option maxHeartbeats 4000000 in
theorem l_X12_lookAt_r1 {l : Launch} {B : zB} {s : zS} {t : zL} {X : zX} (hl : X.2.1 = l) (C : zC X B mX12_lookAt) (b : Nat → Int32) (hb : s 121 = b) (n : Nat) (hn : s 113 12 = nI n) (h150 : n ≤ 150) (q : Nat) (hq : q < n) (p c : Int32) (e : Nat) (kk : ∀ gs : Int32, Zf X B mX12_lookAt (mTf s (nI q) (nI (e - q)) 1 0) t 215 [(3, .int gs), (2, .int c), (0, .ref (B.1 + 113)), (1, .int p)] []) (E : zE X B mX12_lookAt 124 0 0 (zR B none (mT s b n q) t)) : ∀ (m : Nat) (L : Nat), q + L + m = n → 1 ≤ L → tRun b 97 122 m (q + L) = e → Zf X B mX12_lookAt (mTf s (nI q) (nI L) 1 0) t 136 [(3, .int (zi true)), (2, .int c), (0, .ref (B.1 + 113)), (1, .int p)] [] := by
  intro m
  induction m with
  | zero =>
    intro L hL0 hL hr
    refine z_iload_n C dX12_lookAt_136 0 rfl rfl ?_
    refine z_ifb_eq C 215 dX12_lookAt_137 (by decide) (fun hbr => absurd hbr (by decide)) (fun _ => ?_)
    refine z_aload_n C dX12_lookAt_140 2 rfl rfl ?_
    refine f_get12 C 13 (v := .int ((mTf s (nI q) (nI L) 1 0) 113 13)) (by decide) tw_757 rfl zk_113 zb_113 rfl dX12_lookAt_141 ?_
    refine f_topi (y := nI q) (mTf_13 _ _ _ _ _) ?_
    refine z_aload_n C dX12_lookAt_144 2 rfl rfl ?_
    refine f_get12 C 14 (v := .int ((mTf s (nI q) (nI L) 1 0) 113 14)) (by decide) tw_758 rfl zk_113 zb_113 rfl dX12_lookAt_145 ?_
    refine f_topi (y := nI L) (mTf_14 _ _ _ _ _) ?_
    refine z_iadd C dX12_lookAt_148 ?_
    refine f_topi (y := nI (q + L)) (nA rfl rfl rfl) ?_
    refine z_aload_n C dX12_lookAt_149 2 rfl rfl ?_
    refine f_get12 C 12 (v := .int ((mTf s (nI q) (nI L) 1 0) 113 12)) (by decide) tw_756 rfl zk_113 zb_113 rfl dX12_lookAt_150 ?_
    refine f_topi (y := nI n) (by rw [mTf_o _ _ _ _ _ (by decide) (by decide) (by decide) (by decide)]; exact hn) ?_
    refine z_icmp_ge C 215 dX12_lookAt_153 (by decide) (fun _ => ?_) (fun hbr => absurd (nI_le (by omega) (by omega)) hbr)
    rw [show L = e - q by rw [← hr, tRun]; omega]
    exact z_lv [0, 1, 2, 3] rfl (kk _)
  | succ m ih =>
    intro L hL0 hL hr
    refine z_iload_n C dX12_lookAt_136 0 rfl rfl ?_
    refine z_ifb_eq C 215 dX12_lookAt_137 (by decide) (fun hbr => absurd hbr (by decide)) (fun _ => ?_)
    refine z_aload_n C dX12_lookAt_140 2 rfl rfl ?_
    refine f_get12 C 13 (v := .int ((mTf s (nI q) (nI L) 1 0) 113 13)) (by decide) tw_757 rfl zk_113 zb_113 rfl dX12_lookAt_141 ?_
    refine f_topi (y := nI q) (mTf_13 _ _ _ _ _) ?_
    refine z_aload_n C dX12_lookAt_144 2 rfl rfl ?_
    refine f_get12 C 14 (v := .int ((mTf s (nI q) (nI L) 1 0) 113 14)) (by decide) tw_758 rfl zk_113 zb_113 rfl dX12_lookAt_145 ?_
    refine f_topi (y := nI L) (mTf_14 _ _ _ _ _) ?_
    refine z_iadd C dX12_lookAt_148 ?_
    refine f_topi (y := nI (q + L)) (nA rfl rfl rfl) ?_
    refine z_aload_n C dX12_lookAt_149 2 rfl rfl ?_
    refine f_get12 C 12 (v := .int ((mTf s (nI q) (nI L) 1 0) 113 12)) (by decide) tw_756 rfl zk_113 zb_113 rfl dX12_lookAt_150 ?_
    refine f_topi (y := nI n) (by rw [mTf_o _ _ _ _ _ (by decide) (by decide) (by decide) (by decide)]; exact hn) ?_
    refine z_icmp_ge C 215 dX12_lookAt_153 (by decide) (fun hbr => absurd hbr (nI_ge (by omega) (by omega))) (fun _ => ?_)
    refine z_aload_n C dX12_lookAt_156 2 rfl rfl ?_
    refine f_get12 C 11 (v := .ref (B.1 + 121)) (by decide) tw_755 rfl zk_113 zb_113 rfl dX12_lookAt_157 ?_
    refine z_aload_n C dX12_lookAt_160 2 rfl rfl ?_
    refine f_get12 C 13 (v := .int ((mTf s (nI q) (nI L) 1 0) 113 13)) (by decide) tw_757 rfl zk_113 zb_113 rfl dX12_lookAt_161 ?_
    refine f_topi (y := nI q) (mTf_13 _ _ _ _ _) ?_
    refine z_aload_n C dX12_lookAt_164 2 rfl rfl ?_
    refine f_get12 C 14 (v := .int ((mTf s (nI q) (nI L) 1 0) 113 14)) (by decide) tw_758 rfl zk_113 zb_113 rfl dX12_lookAt_165 ?_
    refine f_topi (y := nI L) (mTf_14 _ _ _ _ _) ?_
    refine z_iadd C dX12_lookAt_168 ?_
    refine f_topi (y := nI (q + L)) (nA rfl rfl rfl) ?_
    refine f_ialdL C zk_121 zb_121 (ixN (n := 150) rfl (by omega) (by decide)).1 (j := (q + L)) (ixN (n := 150) rfl (by omega) (by decide)).2 dX12_lookAt_169 ?_
    refine f_topi (y := b (q + L)) (by rw [mTf_row _ _ _ _ _ (by decide), hb]) ?_
    refine z_istore C [(4, .int (b (q + L))), (3, .int (zi true)), (2, .int c), (0, .ref (B.1 + 113)), (1, .int p)] dX12_lookAt_170 (by decide) rfl ?_
    refine z_aload_n C dX12_lookAt_172 3 rfl rfl ?_
    refine f_get12 C 15 (v := .int ((mTf s (nI q) (nI L) 1 0) 113 15)) (by decide) tw_759 rfl zk_113 zb_113 rfl dX12_lookAt_173 ?_
    refine f_topi (y := 1) (mTf_15 _ _ _ _ _) ?_
    refine z_iconst C dX12_lookAt_176 ki_1 ?_
    refine z_icmp_ne C 188 dX12_lookAt_177 (by decide) (fun hbr => absurd (by decide) hbr) (fun _ => ?_)
    refine z_iload C dX12_lookAt_180 0 rfl ?_
    refine f_callSr C hl (As := [.int (b (q + L))]) (rest := []) (c_X12_isSmall l B (mTf s (nI q) (nI L) 1 0) t (b (q + L))) (zCB (nA := 1) C rfl rfl tw_1034 tw_13 tw_1032 (by decide +kernel) ⟨Nat.le_of_ble_eq_true rfl, Nat.le_of_ble_eq_true rfl⟩) tw_1033 rfl rfl (Nat.le_of_ble_eq_true rfl) dX12_lookAt_182 (Nat.zero_le _) ?_
    refine z_goto C 193 dX12_lookAt_185 (by decide) ?_
    refine z_istore_n C [(3, .int (zi (wIn2 (b (q + L)) 97 122))), (4, .int (b (q + L))), (2, .int c), (0, .ref (B.1 + 113)), (1, .int p)] dX12_lookAt_193 rfl (by decide) rfl ?_
    refine z_aload_n C dX12_lookAt_194 3 rfl rfl ?_
    refine z_dup C dX12_lookAt_195 rfl ?_
    refine f_get12 C 14 (v := .int ((mTf s (nI q) (nI L) 1 0) 113 14)) (by decide) tw_758 rfl zk_113 zb_113 rfl dX12_lookAt_196 ?_
    refine f_topi (y := nI L) (mTf_14 _ _ _ _ _) ?_
    refine z_iload_n C dX12_lookAt_199 0 rfl rfl ?_
    refine z_ifb_eq C 207 dX12_lookAt_200 (by decide) (fun h200 => ?_) (fun h200 => ?_)
    · refine z_iconst C dX12_lookAt_207 ki_0 ?_
      refine z_iadd C dX12_lookAt_208 ?_
      refine f_topi (y := nI L) (Int32.add_zero _) ?_
      refine f_put12_14 C tw_758 zk_113 zb_113 dX12_lookAt_209 ?_
      refine z_G (congrArg (fun z => zg B z t) (mTf_u14 _ _ _ _ _ _)) ?_
      refine z_goto C 136 dX12_lookAt_212 (by decide) ?_
      have e9 : L = e - q := by rw [← hr, tRun, if_neg (fun z => by rw [show wIn2 (b (q + L)) 97 122 = true from decide_eq_true z] at h200; exact absurd h200 (by decide))]; omega
      exact z_lv (lv2 := [(3, .int (zi false)), (2, .int c), (0, .ref (B.1 + 113)), (1, .int p)]) [0, 2, 3, 4] (by rw [h200]; rfl) (l_X12_lookAt_f1 hl C b hb n hn h150 q hq p c e kk L e9 E)
    · refine z_iconst C dX12_lookAt_203 ki_1 ?_
      refine z_goto C 208 dX12_lookAt_204 (by decide) ?_
      refine z_iadd C dX12_lookAt_208 ?_
      refine f_topi (y := nI (L + 1)) (nI_1 L) ?_
      refine f_put12_14 C tw_758 zk_113 zb_113 dX12_lookAt_209 ?_
      refine z_G (congrArg (fun z => zg B z t) (mTf_u14 _ _ _ _ _ _)) ?_
      refine z_goto C 136 dX12_lookAt_212 (by decide) ?_
      exact z_lv (lv2 := [(3, .int (zi true)), (2, .int c), (0, .ref (B.1 + 113)), (1, .int p)]) [0, 2, 3, 4] (by rw [h200]; rfl) (ih (L + 1) (by omega) (by omega) (by rw [← hr, tRun, if_pos (of_decide_eq_true h200)]; rfl))
set_option maxRecDepth 100000 in
set_option maxHeartbeats 4000000 in
theorem l_X12_lookAt_f2 {l : Launch} {B : zB} {s : zS} {t : zL} {X : zX} (hl : X.2.1 = l) (C : zC X B mX12_lookAt) (b : Nat → Int32) (hb : s 121 = b) (n : Nat) (hn : s 113 12 = nI n) (h150 : n ≤ 150) (q : Nat) (hq : q < n) (p c : Int32) (e : Nat) (kk : ∀ gs : Int32, Zf X B mX12_lookAt (mTf s (nI q) (nI (e - q)) 2 0) t 215 [(3, .int gs), (2, .int c), (0, .ref (B.1 + 113)), (1, .int p)] []) (L : Nat) (e9 : L = e - q) (E : zE X B mX12_lookAt 124 0 0 (zR B none (mT s b n q) t)) : Zf X B mX12_lookAt (mTf s (nI q) (nI L) 2 0) t 136 [(3, .int (zi false)), (2, .int c), (0, .ref (B.1 + 113)), (1, .int p)] [] := by
  refine z_iload_n C dX12_lookAt_136 0 rfl rfl ?_
  refine z_ifb_eq C 215 dX12_lookAt_137 (by decide) (fun _ => ?_) (fun hbr => Bool.noConfusion (show true = false from hbr.symm.trans rfl))
  rw [e9]
  exact z_lv [0, 1, 2, 3] rfl (kk _)
set_option maxRecDepth 100000 in
set_option maxHeartbeats 4000000 in
theorem l_X12_lookAt_r2 {l : Launch} {B : zB} {s : zS} {t : zL} {X : zX} (hl : X.2.1 = l) (C : zC X B mX12_lookAt) (b : Nat → Int32) (hb : s 121 = b) (n : Nat) (hn : s 113 12 = nI n) (h150 : n ≤ 150) (q : Nat) (hq : q < n) (p c : Int32) (e : Nat) (kk : ∀ gs : Int32, Zf X B mX12_lookAt (mTf s (nI q) (nI (e - q)) 2 0) t 215 [(3, .int gs), (2, .int c), (0, .ref (B.1 + 113)), (1, .int p)] []) (E : zE X B mX12_lookAt 124 0 0 (zR B none (mT s b n q) t)) : ∀ (m : Nat) (L : Nat), q + L + m = n → 1 ≤ L → tRun b 48 57 m (q + L) = e → Zf X B mX12_lookAt (mTf s (nI q) (nI L) 2 0) t 136 [(3, .int (zi true)), (2, .int c), (0, .ref (B.1 + 113)), (1, .int p)] [] := by
  intro m
  induction m with
  | zero =>
    intro L hL0 hL hr
    refine z_iload_n C dX12_lookAt_136 0 rfl rfl ?_
    refine z_ifb_eq C 215 dX12_lookAt_137 (by decide) (fun hbr => absurd hbr (by decide)) (fun _ => ?_)
    refine z_aload_n C dX12_lookAt_140 2 rfl rfl ?_
    refine f_get12 C 13 (v := .int ((mTf s (nI q) (nI L) 2 0) 113 13)) (by decide) tw_757 rfl zk_113 zb_113 rfl dX12_lookAt_141 ?_
    refine f_topi (y := nI q) (mTf_13 _ _ _ _ _) ?_
    refine z_aload_n C dX12_lookAt_144 2 rfl rfl ?_
    refine f_get12 C 14 (v := .int ((mTf s (nI q) (nI L) 2 0) 113 14)) (by decide) tw_758 rfl zk_113 zb_113 rfl dX12_lookAt_145 ?_
    refine f_topi (y := nI L) (mTf_14 _ _ _ _ _) ?_
    refine z_iadd C dX12_lookAt_148 ?_
    refine f_topi (y := nI (q + L)) (nA rfl rfl rfl) ?_
    refine z_aload_n C dX12_lookAt_149 2 rfl rfl ?_
    refine f_get12 C 12 (v := .int ((mTf s (nI q) (nI L) 2 0) 113 12)) (by decide) tw_756 rfl zk_113 zb_113 rfl dX12_lookAt_150 ?_
    refine f_topi (y := nI n) (by rw [mTf_o _ _ _ _ _ (by decide) (by decide) (by decide) (by decide)]; exact hn) ?_
    refine z_icmp_ge C 215 dX12_lookAt_153 (by decide) (fun _ => ?_) (fun hbr => absurd (nI_le (by omega) (by omega)) hbr)
    rw [show L = e - q by rw [← hr, tRun]; omega]
    exact z_lv [0, 1, 2, 3] rfl (kk _)
  | succ m ih =>
    intro L hL0 hL hr
    refine z_iload_n C dX12_lookAt_136 0 rfl rfl ?_
    refine z_ifb_eq C 215 dX12_lookAt_137 (by decide) (fun hbr => absurd hbr (by decide)) (fun _ => ?_)
    refine z_aload_n C dX12_lookAt_140 2 rfl rfl ?_
    refine f_get12 C 13 (v := .int ((mTf s (nI q) (nI L) 2 0) 113 13)) (by decide) tw_757 rfl zk_113 zb_113 rfl dX12_lookAt_141 ?_
    refine f_topi (y := nI q) (mTf_13 _ _ _ _ _) ?_
    refine z_aload_n C dX12_lookAt_144 2 rfl rfl ?_
    refine f_get12 C 14 (v := .int ((mTf s (nI q) (nI L) 2 0) 113 14)) (by decide) tw_758 rfl zk_113 zb_113 rfl dX12_lookAt_145 ?_
    refine f_topi (y := nI L) (mTf_14 _ _ _ _ _) ?_
    refine z_iadd C dX12_lookAt_148 ?_
    refine f_topi (y := nI (q + L)) (nA rfl rfl rfl) ?_
    refine z_aload_n C dX12_lookAt_149 2 rfl rfl ?_
    refine f_get12 C 12 (v := .int ((mTf s (nI q) (nI L) 2 0) 113 12)) (by decide) tw_756 rfl zk_113 zb_113 rfl dX12_lookAt_150 ?_
    refine f_topi (y := nI n) (by rw [mTf_o _ _ _ _ _ (by decide) (by decide) (by decide) (by decide)]; exact hn) ?_
    refine z_icmp_ge C 215 dX12_lookAt_153 (by decide) (fun hbr => absurd hbr (nI_ge (by omega) (by omega))) (fun _ => ?_)
    refine z_aload_n C dX12_lookAt_156 2 rfl rfl ?_
    refine f_get12 C 11 (v := .ref (B.1 + 121)) (by decide) tw_755 rfl zk_113 zb_113 rfl dX12_lookAt_157 ?_
    refine z_aload_n C dX12_lookAt_160 2 rfl rfl ?_
    refine f_get12 C 13 (v := .int ((mTf s (nI q) (nI L) 2 0) 113 13)) (by decide) tw_757 rfl zk_113 zb_113 rfl dX12_lookAt_161 ?_
    refine f_topi (y := nI q) (mTf_13 _ _ _ _ _) ?_
    refine z_aload_n C dX12_lookAt_164 2 rfl rfl ?_
    refine f_get12 C 14 (v := .int ((mTf s (nI q) (nI L) 2 0) 113 14)) (by decide) tw_758 rfl zk_113 zb_113 rfl dX12_lookAt_165 ?_
    refine f_topi (y := nI L) (mTf_14 _ _ _ _ _) ?_
    refine z_iadd C dX12_lookAt_168 ?_
    refine f_topi (y := nI (q + L)) (nA rfl rfl rfl) ?_
    refine f_ialdL C zk_121 zb_121 (ixN (n := 150) rfl (by omega) (by decide)).1 (j := (q + L)) (ixN (n := 150) rfl (by omega) (by decide)).2 dX12_lookAt_169 ?_
    refine f_topi (y := b (q + L)) (by rw [mTf_row _ _ _ _ _ (by decide), hb]) ?_
    refine z_istore C [(4, .int (b (q + L))), (3, .int (zi true)), (2, .int c), (0, .ref (B.1 + 113)), (1, .int p)] dX12_lookAt_170 (by decide) rfl ?_
    refine z_aload_n C dX12_lookAt_172 3 rfl rfl ?_
    refine f_get12 C 15 (v := .int ((mTf s (nI q) (nI L) 2 0) 113 15)) (by decide) tw_759 rfl zk_113 zb_113 rfl dX12_lookAt_173 ?_
    refine f_topi (y := 2) (mTf_15 _ _ _ _ _) ?_
    refine z_iconst C dX12_lookAt_176 ki_1 ?_
    refine z_icmp_ne C 188 dX12_lookAt_177 (by decide) (fun _ => ?_) (fun hbr => absurd hbr (by decide))
    refine z_iload C dX12_lookAt_188 0 rfl ?_
    refine f_callSr C hl (As := [.int (b (q + L))]) (rest := []) (c_X12_isFigure l B (mTf s (nI q) (nI L) 2 0) t (b (q + L))) (zCB (nA := 1) C rfl rfl tw_1039 tw_13 tw_1037 (by decide +kernel) ⟨Nat.le_of_ble_eq_true rfl, Nat.le_of_ble_eq_true rfl⟩) tw_1038 rfl rfl (Nat.le_of_ble_eq_true rfl) dX12_lookAt_190 (Nat.zero_le _) ?_
    refine z_istore_n C [(3, .int (zi (wIn2 (b (q + L)) 48 57))), (4, .int (b (q + L))), (2, .int c), (0, .ref (B.1 + 113)), (1, .int p)] dX12_lookAt_193 rfl (by decide) rfl ?_
    refine z_aload_n C dX12_lookAt_194 3 rfl rfl ?_
    refine z_dup C dX12_lookAt_195 rfl ?_
    refine f_get12 C 14 (v := .int ((mTf s (nI q) (nI L) 2 0) 113 14)) (by decide) tw_758 rfl zk_113 zb_113 rfl dX12_lookAt_196 ?_
    refine f_topi (y := nI L) (mTf_14 _ _ _ _ _) ?_
    refine z_iload_n C dX12_lookAt_199 0 rfl rfl ?_
    refine z_ifb_eq C 207 dX12_lookAt_200 (by decide) (fun h200 => ?_) (fun h200 => ?_)
    · refine z_iconst C dX12_lookAt_207 ki_0 ?_
      refine z_iadd C dX12_lookAt_208 ?_
      refine f_topi (y := nI L) (Int32.add_zero _) ?_
      refine f_put12_14 C tw_758 zk_113 zb_113 dX12_lookAt_209 ?_
      refine z_G (congrArg (fun z => zg B z t) (mTf_u14 _ _ _ _ _ _)) ?_
      refine z_goto C 136 dX12_lookAt_212 (by decide) ?_
      have e9 : L = e - q := by rw [← hr, tRun, if_neg (fun z => by rw [show wIn2 (b (q + L)) 48 57 = true from decide_eq_true z] at h200; exact absurd h200 (by decide))]; omega
      exact z_lv (lv2 := [(3, .int (zi false)), (2, .int c), (0, .ref (B.1 + 113)), (1, .int p)]) [0, 2, 3, 4] (by rw [h200]; rfl) (l_X12_lookAt_f2 hl C b hb n hn h150 q hq p c e kk L e9 E)
    · refine z_iconst C dX12_lookAt_203 ki_1 ?_
      refine z_goto C 208 dX12_lookAt_204 (by decide) ?_
      refine z_iadd C dX12_lookAt_208 ?_
      refine f_topi (y := nI (L + 1)) (nI_1 L) ?_
      refine f_put12_14 C tw_758 zk_113 zb_113 dX12_lookAt_209 ?_
      refine z_G (congrArg (fun z => zg B z t) (mTf_u14 _ _ _ _ _ _)) ?_
      refine z_goto C 136 dX12_lookAt_212 (by decide) ?_
      exact z_lv (lv2 := [(3, .int (zi true)), (2, .int c), (0, .ref (B.1 + 113)), (1, .int p)]) [0, 2, 3, 4] (by rw [h200]; rfl) (ih (L + 1) (by omega) (by omega) (by rw [← hr, tRun, if_pos (of_decide_eq_true h200)]; rfl))
set_option maxRecDepth 100000 in
set_option maxHeartbeats 4000000 in
theorem l_X12_lookAt_t1 {l : Launch} {B : zB} {s : zS} {t : zL} {X : zX} (hl : X.2.1 = l) (C : zC X B mX12_lookAt) (b : Nat → Int32) (hb : s 121 = b) (n : Nat) (hn : s 113 12 = nI n) (h150 : n ≤ 150) (q : Nat) (hq : q < n) (p c : Int32) (e1 : q < tEnd b n 97 122 q) (E : zE X B mX12_lookAt 124 0 0 (zR B none (mT s b n q) t)) : Zf X B mX12_lookAt (mTf s (nI q) 0 1 0) t 117 [(2, .int c), (0, .ref (B.1 + 113)), (1, .int p)] [] := by
  refine z_aload_n C dX12_lookAt_117 1 rfl rfl ?_
  refine z_iconst C dX12_lookAt_118 ki_1 ?_
  refine f_put12_14 C tw_758 zk_113 zb_113 dX12_lookAt_119 ?_
  refine z_G (congrArg (fun z => zg B z t) (mTf_u14 _ _ _ _ _ _)) ?_
  refine z_aload_n C dX12_lookAt_122 1 rfl rfl ?_
  refine f_get12 C 15 (v := .int ((mTf s (nI q) 1 1 0) 113 15)) (by decide) tw_759 rfl zk_113 zb_113 rfl dX12_lookAt_123 ?_
  refine f_topi (y := 1) (mTf_15 _ _ _ _ _) ?_
  refine z_iconst C dX12_lookAt_126 ki_3 ?_
  refine z_icmp_ge C 134 dX12_lookAt_127 (by decide) (fun hbr => absurd hbr (by decide)) (fun _ => ?_)
  refine z_iconst C dX12_lookAt_130 ki_1 ?_
  refine z_goto C 135 dX12_lookAt_131 (by decide) ?_
  refine z_istore_n C [(3, .int 1), (2, .int c), (0, .ref (B.1 + 113)), (1, .int p)] dX12_lookAt_135 rfl (by decide) rfl ?_
  have he : tEnd b n 97 122 q ≤ n := tEnd_le _ _ _ (by omega)
  exact z_lv (lv2 := [(3, .int (zi true)), (2, .int c), (0, .ref (B.1 + 113)), (1, .int p)]) [0, 1, 2, 3] rfl (l_X12_lookAt_r1 hl C b hb n hn h150 q hq p c (tEnd b n 97 122 q) (fun gs => l_X12_lookAt_d1 hl C b hb n hn h150 q hq p c gs (tEnd b n 97 122 q - q) (by omega) (by omega) e1 rfl E) E (n - (q + 1)) 1 (by omega) (by omega) (tEnd_1 hq ((tEnd_gt hq).mp e1)))
set_option maxRecDepth 100000 in
set_option maxHeartbeats 4000000 in
theorem l_X12_lookAt_t2 {l : Launch} {B : zB} {s : zS} {t : zL} {X : zX} (hl : X.2.1 = l) (C : zC X B mX12_lookAt) (b : Nat → Int32) (hb : s 121 = b) (n : Nat) (hn : s 113 12 = nI n) (h150 : n ≤ 150) (q : Nat) (hq : q < n) (p c : Int32) (e1 : ¬ q < tEnd b n 97 122 q) (e2 : q < tEnd b n 48 57 q) (E : zE X B mX12_lookAt 124 0 0 (zR B none (mT s b n q) t)) : Zf X B mX12_lookAt (mTf s (nI q) 0 2 0) t 117 [(2, .int c), (0, .ref (B.1 + 113)), (1, .int p)] [] := by
  refine z_aload_n C dX12_lookAt_117 1 rfl rfl ?_
  refine z_iconst C dX12_lookAt_118 ki_1 ?_
  refine f_put12_14 C tw_758 zk_113 zb_113 dX12_lookAt_119 ?_
  refine z_G (congrArg (fun z => zg B z t) (mTf_u14 _ _ _ _ _ _)) ?_
  refine z_aload_n C dX12_lookAt_122 1 rfl rfl ?_
  refine f_get12 C 15 (v := .int ((mTf s (nI q) 1 2 0) 113 15)) (by decide) tw_759 rfl zk_113 zb_113 rfl dX12_lookAt_123 ?_
  refine f_topi (y := 2) (mTf_15 _ _ _ _ _) ?_
  refine z_iconst C dX12_lookAt_126 ki_3 ?_
  refine z_icmp_ge C 134 dX12_lookAt_127 (by decide) (fun hbr => absurd hbr (by decide)) (fun _ => ?_)
  refine z_iconst C dX12_lookAt_130 ki_1 ?_
  refine z_goto C 135 dX12_lookAt_131 (by decide) ?_
  refine z_istore_n C [(3, .int 1), (2, .int c), (0, .ref (B.1 + 113)), (1, .int p)] dX12_lookAt_135 rfl (by decide) rfl ?_
  have he : tEnd b n 48 57 q ≤ n := tEnd_le _ _ _ (by omega)
  exact z_lv (lv2 := [(3, .int (zi true)), (2, .int c), (0, .ref (B.1 + 113)), (1, .int p)]) [0, 1, 2, 3] rfl (l_X12_lookAt_r2 hl C b hb n hn h150 q hq p c (tEnd b n 48 57 q) (fun gs => l_X12_lookAt_d2 hl C b hb n hn h150 q hq p c gs (tEnd b n 48 57 q - q) (by omega) (by omega) e1 e2 rfl (by omega) E) E (n - (q + 1)) 1 (by omega) (by omega) (tEnd_1 hq ((tEnd_gt hq).mp e2)))
set_option maxRecDepth 100000 in
set_option maxHeartbeats 4000000 in
theorem l_X12_lookAt_43 {l : Launch} {B : zB} {s : zS} {t : zL} {X : zX} (hl : X.2.1 = l) (C : zC X B mX12_lookAt) (b : Nat → Int32) (hb : s 121 = b) (n : Nat) (hn : s 113 12 = nI n) (h150 : n ≤ 150) (q : Nat) (hq : q ≤ n) (p g k v : Int32) (E : zE X B mX12_lookAt 124 0 0 (zR B none (mT s b n q) t)) : Zf X B mX12_lookAt (mTf s (nI q) g k v) t 43 [(0, .ref (B.1 + 113)), (1, .int p)] [] := by
  refine z_aload_n C dX12_lookAt_43 0 rfl rfl ?_
  refine z_iconst C dX12_lookAt_44 ki_0 ?_
  refine f_put12_14 C tw_758 zk_113 zb_113 dX12_lookAt_45 ?_
  refine z_G (congrArg (fun z => zg B z t) (mTf_u14 _ _ _ _ _ _)) ?_
  refine z_aload_n C dX12_lookAt_48 0 rfl rfl ?_
  refine z_iconst C dX12_lookAt_49 ki_0 ?_
  refine f_put12_15 C tw_759 zk_113 zb_113 dX12_lookAt_50 ?_
  refine z_G (congrArg (fun z => zg B z t) (mTf_u15 _ _ _ _ _ _)) ?_
  refine z_aload_n C dX12_lookAt_53 0 rfl rfl ?_
  refine z_iconst C dX12_lookAt_54 ki_0 ?_
  refine f_put12_16 C tw_760 zk_113 zb_113 dX12_lookAt_55 ?_
  refine z_G (congrArg (fun z => zg B z t) (mTf_u16 _ _ _ _ _ _)) ?_
  refine z_aload_n C dX12_lookAt_58 0 rfl rfl ?_
  refine f_get12 C 13 (v := .int ((mTf s (nI q) 0 0 0) 113 13)) (by decide) tw_757 rfl zk_113 zb_113 rfl dX12_lookAt_59 ?_
  refine f_topi (y := nI q) (mTf_13 _ _ _ _ _) ?_
  refine z_aload_n C dX12_lookAt_62 0 rfl rfl ?_
  refine f_get12 C 12 (v := .int ((mTf s (nI q) 0 0 0) 113 12)) (by decide) tw_756 rfl zk_113 zb_113 rfl dX12_lookAt_63 ?_
  refine f_topi (y := nI n) (by rw [mTf_o _ _ _ _ _ (by decide) (by decide) (by decide) (by decide)]; exact hn) ?_
  refine z_icmp_ne C 70 dX12_lookAt_66 (by decide) (fun h66 => ?_) (fun h66 => ?_)
  · have hq1 : q < n := Nat.lt_of_le_of_ne hq (fun z => h66 (by rw [z]))
    refine z_aload_n C dX12_lookAt_70 0 rfl rfl ?_
    refine f_get12 C 11 (v := .ref (B.1 + 121)) (by decide) tw_755 rfl zk_113 zb_113 rfl dX12_lookAt_71 ?_
    refine z_aload_n C dX12_lookAt_74 0 rfl rfl ?_
    refine f_get12 C 13 (v := .int ((mTf s (nI q) 0 0 0) 113 13)) (by decide) tw_757 rfl zk_113 zb_113 rfl dX12_lookAt_75 ?_
    refine f_topi (y := nI q) (mTf_13 _ _ _ _ _) ?_
    refine f_ialdL C zk_121 zb_121 (ixN (n := 150) rfl (by omega) (by decide)).1 (j := q) (ixN (n := 150) rfl (by omega) (by decide)).2 dX12_lookAt_78 ?_
    refine f_topi (y := b q) (by rw [mTf_row _ _ _ _ _ (by decide), hb]) ?_
    refine z_istore_n C [(2, .int (b q)), (0, .ref (B.1 + 113)), (1, .int p)] dX12_lookAt_79 rfl (by decide) rfl ?_
    refine z_aload_n C dX12_lookAt_80 1 rfl rfl ?_
    refine z_iload_n C dX12_lookAt_81 0 rfl rfl ?_
    refine f_callSr C hl (As := [.int (b q)]) (rest := [.ref (B.1 + 113)]) (c_X12_isSmall l B (mTf s (nI q) 0 0 0) t (b q)) (zCB (nA := 1) C rfl rfl tw_1034 tw_13 tw_1032 (by decide +kernel) ⟨Nat.le_of_ble_eq_true rfl, Nat.le_of_ble_eq_true rfl⟩) tw_1033 rfl rfl (Nat.le_of_ble_eq_true rfl) dX12_lookAt_82 (Nat.zero_le _) ?_
    refine z_ifb_eq C 92 dX12_lookAt_85 (by decide) (fun h85 => ?_) (fun h85 => ?_)
    · refine z_iload_n C dX12_lookAt_92 0 rfl rfl ?_
      refine f_callSr C hl (As := [.int (b q)]) (rest := [.ref (B.1 + 113)]) (c_X12_isFigure l B (mTf s (nI q) 0 0 0) t (b q)) (zCB (nA := 1) C rfl rfl tw_1039 tw_13 tw_1037 (by decide +kernel) ⟨Nat.le_of_ble_eq_true rfl, Nat.le_of_ble_eq_true rfl⟩) tw_1038 rfl rfl (Nat.le_of_ble_eq_true rfl) dX12_lookAt_93 (Nat.zero_le _) ?_
      refine z_ifb_eq C 103 dX12_lookAt_96 (by decide) (fun h96 => ?_) (fun h96 => ?_)
      · refine z_iload_n C dX12_lookAt_103 0 rfl rfl ?_
        refine z_bipush C dX12_lookAt_104 kb_59 ?_
        refine z_icmp_ne C 113 dX12_lookAt_106 (by decide) (fun h106 => ?_) (fun h106 => ?_)
        · refine z_iconst C dX12_lookAt_113 ki_4 ?_
          refine f_put12_15 C tw_759 zk_113 zb_113 dX12_lookAt_114 ?_
          refine z_G (congrArg (fun z => zg B z t) (mTf_u15 _ _ _ _ _ _)) ?_
          exact z_lv [0, 1, 2] rfl (l_X12_lookAt_t4 hl C b hb n hn h150 q hq1 p _ (by rw [tEnd_gt hq1, h85]; decide) (by rw [tEnd_gt hq1, h96]; decide) h106 E)
        · refine z_iconst C dX12_lookAt_109 ki_3 ?_
          refine z_goto C 114 dX12_lookAt_110 (by decide) ?_
          refine f_put12_15 C tw_759 zk_113 zb_113 dX12_lookAt_114 ?_
          refine z_G (congrArg (fun z => zg B z t) (mTf_u15 _ _ _ _ _ _)) ?_
          exact z_lv [0, 1, 2] rfl (l_X12_lookAt_t3 hl C b hb n hn h150 q hq1 p _ (by rw [tEnd_gt hq1, h85]; decide) (by rw [tEnd_gt hq1, h96]; decide) h106 E)
      · refine z_iconst C dX12_lookAt_99 ki_2 ?_
        refine z_goto C 114 dX12_lookAt_100 (by decide) ?_
        refine f_put12_15 C tw_759 zk_113 zb_113 dX12_lookAt_114 ?_
        refine z_G (congrArg (fun z => zg B z t) (mTf_u15 _ _ _ _ _ _)) ?_
        exact z_lv [0, 1, 2] rfl (l_X12_lookAt_t2 hl C b hb n hn h150 q hq1 p _ (by rw [tEnd_gt hq1, h85]; decide) ((tEnd_gt hq1).mpr h96) E)
    · refine z_iconst C dX12_lookAt_88 ki_1 ?_
      refine z_goto C 114 dX12_lookAt_89 (by decide) ?_
      refine f_put12_15 C tw_759 zk_113 zb_113 dX12_lookAt_114 ?_
      refine z_G (congrArg (fun z => zg B z t) (mTf_u15 _ _ _ _ _ _)) ?_
      exact z_lv [0, 1, 2] rfl (l_X12_lookAt_t1 hl C b hb n hn h150 q hq1 p _ ((tEnd_gt hq1).mpr h85) E)
  · have e66 : n ≤ q := Nat.le_of_eq ((nI_eq (by omega) (by omega)).mp h66).symm
    refine z_vret C E rfl dX12_lookAt_69 rfl (Nat.le_refl _) ⟨rfl, congrArg (fun z => zg B z t) (by rw [mT, tE, if_pos e66, tK, if_pos e66, mV, if_pos e66, Nat.sub_self]; rfl)⟩
set_option maxRecDepth 100000 in
set_option maxHeartbeats 4000000 in
theorem l_X12_lookAt_b {l : Launch} {B : zB} {s : zS} {t : zL} {X : zX} (hl : X.2.1 = l) (C : zC X B mX12_lookAt) (b : Nat → Int32) (hb : s 121 = b) (n : Nat) (hn : s 113 12 = nI n) (h150 : n ≤ 150) (q : Nat) (hq : q ≤ n) (p g k v : Int32) (E : zE X B mX12_lookAt 124 0 0 (zR B none (mT s b n q) t)) : ∀ (m : Nat) (j : Nat), j + m = n → tRun b 32 32 m j = q → Zf X B mX12_lookAt (mTf s (nI j) g k v) t 5 [(0, .ref (B.1 + 113)), (1, .int p)] [] := by
  intro m
  induction m with
  | zero =>
    intro j hj hr
    refine z_aload_n C dX12_lookAt_5 0 rfl rfl ?_
    refine f_get12 C 13 (v := .int ((mTf s (nI j) g k v) 113 13)) (by decide) tw_757 rfl zk_113 zb_113 rfl dX12_lookAt_6 ?_
    refine f_topi (y := nI j) (mTf_13 _ _ _ _ _) ?_
    refine z_aload_n C dX12_lookAt_9 0 rfl rfl ?_
    refine f_get12 C 12 (v := .int ((mTf s (nI j) g k v) 113 12)) (by decide) tw_756 rfl zk_113 zb_113 rfl dX12_lookAt_10 ?_
    refine f_topi (y := nI n) (by rw [mTf_o _ _ _ _ _ (by decide) (by decide) (by decide) (by decide)]; exact hn) ?_
    refine z_icmp_ge C 43 dX12_lookAt_13 (by decide) (fun _ => ?_) (fun hbr => absurd (nI_le (by omega) (by omega)) hbr)
    rw [show j = q by rw [← hr, tRun]]
    exact z_lv [0, 1] rfl (l_X12_lookAt_43 hl C b hb n hn h150 q hq p g k v E)
  | succ m ih =>
    intro j hj hr
    refine z_aload_n C dX12_lookAt_5 0 rfl rfl ?_
    refine f_get12 C 13 (v := .int ((mTf s (nI j) g k v) 113 13)) (by decide) tw_757 rfl zk_113 zb_113 rfl dX12_lookAt_6 ?_
    refine f_topi (y := nI j) (mTf_13 _ _ _ _ _) ?_
    refine z_aload_n C dX12_lookAt_9 0 rfl rfl ?_
    refine f_get12 C 12 (v := .int ((mTf s (nI j) g k v) 113 12)) (by decide) tw_756 rfl zk_113 zb_113 rfl dX12_lookAt_10 ?_
    refine f_topi (y := nI n) (by rw [mTf_o _ _ _ _ _ (by decide) (by decide) (by decide) (by decide)]; exact hn) ?_
    refine z_icmp_ge C 43 dX12_lookAt_13 (by decide) (fun hbr => absurd hbr (nI_ge (by omega) (by omega))) (fun _ => ?_)
    refine z_aload_n C dX12_lookAt_16 0 rfl rfl ?_
    refine f_get12 C 11 (v := .ref (B.1 + 121)) (by decide) tw_755 rfl zk_113 zb_113 rfl dX12_lookAt_17 ?_
    refine z_aload_n C dX12_lookAt_20 0 rfl rfl ?_
    refine f_get12 C 13 (v := .int ((mTf s (nI j) g k v) 113 13)) (by decide) tw_757 rfl zk_113 zb_113 rfl dX12_lookAt_21 ?_
    refine f_topi (y := nI j) (mTf_13 _ _ _ _ _) ?_
    refine f_ialdL C zk_121 zb_121 (ixN (n := 150) rfl (by omega) (by decide)).1 (j := j) (ixN (n := 150) rfl (by omega) (by decide)).2 dX12_lookAt_24 ?_
    refine f_topi (y := b j) (by rw [mTf_row _ _ _ _ _ (by decide), hb]) ?_
    refine z_bipush C dX12_lookAt_25 kb_32 ?_
    refine z_icmp_ne C 43 dX12_lookAt_27 (by decide) (fun h27 => ?_) (fun h27 => ?_)
    · rw [show j = q by rw [← hr, tRun, if_neg (fun z => h27 (eq_btw.mp z))]]
      exact z_lv [0, 1] rfl (l_X12_lookAt_43 hl C b hb n hn h150 q hq p g k v E)
    · refine z_aload_n C dX12_lookAt_30 0 rfl rfl ?_
      refine z_dup C dX12_lookAt_31 rfl ?_
      refine f_get12 C 13 (v := .int ((mTf s (nI j) g k v) 113 13)) (by decide) tw_757 rfl zk_113 zb_113 rfl dX12_lookAt_32 ?_
      refine f_topi (y := nI j) (mTf_13 _ _ _ _ _) ?_
      refine z_iconst C dX12_lookAt_35 ki_1 ?_
      refine z_iadd C dX12_lookAt_36 ?_
      refine f_topi (y := nI (j + 1)) (nI_1 j) ?_
      refine f_put12_13 C tw_757 zk_113 zb_113 dX12_lookAt_37 ?_
      refine z_G (congrArg (fun z => zg B z t) (mTf_u13 _ _ _ _ _ _)) ?_
      refine z_goto C 5 dX12_lookAt_40 (by decide) ?_
      exact z_lv [0, 1] rfl (ih (j + 1) (by omega) (by rw [← hr, tRun, if_pos (eq_btw.mpr h27)]))
set_option maxRecDepth 100000 in
set_option maxHeartbeats 4000000 in
theorem c_X12_lookAt (l : Launch) (B : zB) (s : zS) (t : zL) (b : Nat → Int32) (hb : s 121 = b) (n : Nat) (hn : s 113 12 = nI n) (h150 : n ≤ 150) (p : Nat) (hp : p ≤ n) (a g k v : Int32) : zD l B mX12_lookAt (mTf s a g k v) t [.ref (B.1 + 113), .int (nI p)] none (mT s b n (tA b n p)) t := by
  refine z_met (by decide) (Nat.le_of_ble_eq_true rfl) ?_
  intro X hl C E hnm
  show Zf X B mX12_lookAt (mTf s a g k v) t 0 [(0, .ref (B.1 + 113)), (1, .int (nI p))] []
  refine z_aload_n C dX12_lookAt_0 0 rfl rfl ?_
  refine z_iload_n C dX12_lookAt_1 1 rfl rfl ?_
  refine f_put12_13 C tw_757 zk_113 zb_113 dX12_lookAt_2 ?_
  refine z_G (congrArg (fun z => zg B z t) (mTf_u13 _ _ _ _ _ _)) ?_
  exact z_lv [0, 1] rfl (l_X12_lookAt_b hl C b hb n hn h150 (tA b n p) (tA_le hp) (nI p) g k v E (n - p) p (by omega) rfl)
