theorem ixN {x : Int32} {j n : Nat} (e : x = nI j) (h : j < n) (hn : n ≤ 1000) : vp_in x n ∧ x.toNatClampNeg = j := by
  subst e
  exact ⟨vp_in_nI h (by omega), nI_clamp (by omega)⟩
theorem nA {x y : Int32} {a b c : Nat} (h1 : x = nI a) (h2 : y = nI b) (h : a + b = c) : x + y = nI c := by rw [h1, h2, nI_add, h]
theorem nM {x y : Int32} {a b c : Nat} (h1 : x = nI a) (h2 : y = nI b) (h : a * b = c) : x * y = nI c := by rw [h1, h2, pk_mul, h]
def wIn2 (x a b : Int32) : Bool := decide (¬ x < a ∧ ¬ b < x)
theorem l_lt {x y : Int32} {a b : Int64} (ha : a = x.toInt64) (hb : b = y.toInt64) : (lg_cmp a b < 0) ↔ x < y := by rw [lg_cmp_lt, ha, hb, Int32.toInt64_lt]
theorem l_gt {x y : Int32} {a b : Int64} (ha : a = x.toInt64) (hb : b = y.toInt64) : (0 < lg_cmp a b) ↔ y < x := by rw [lg_cmp_gt, ha, hb, Int32.toInt64_lt]
theorem pop_pos_all : ∀ n, n < 256 → ((0 < wPop (nI n)) ↔ ¬ nI n = 0) := by decide +kernel
theorem pop_pos {x : Int32} (h : r8 x) : (0 < wPop x) ↔ ¬ x = 0 := by
  obtain ⟨n, hn, rfl⟩ := r8_ex h
  exact pop_pos_all n hn
def wHas (x k : Int32) : Bool := decide ((x >>> (k &&& 31)) &&& 1 = 1)
theorem has_all : ∀ n, n < 256 → ∀ i, i < 8 → (wHas (nI n) (nI i) = true ↔ ¬ nI n &&& wBit (nI i) = 0) := by decide +kernel
theorem has_bit {x : Int32} (h : r8 x) {i : Nat} (hi : i < 8) : wHas x (nI i) = true ↔ ¬ x &&& wBit (nI i) = 0 := by
  obtain ⟨n, hn, rfl⟩ := r8_ex h
  exact has_all n hn i hi
theorem wBit_nI {i : Nat} (h : i < 2 ^ 31) : wBit (nI i) = (1 : Int32) <<< (nI i &&& 31) := by rw [wBit, if_neg (nI_pos h)]
theorem pcN_half : ∀ m, m < 256 → pcN m = m % 2 + pcN (m / 2) := by decide +kernel
abbrev mX12_in : zM := (yX12_in, cX12_in, 6, (some .boolean), { frames := 0, cells := 0, slots := 0, locals := 0 })
set_option maxRecDepth 100000 in
set_option maxHeartbeats 4000000 in
theorem c_X12_in (l : Launch) (B : zB) (s : zS) (t : zL) (x a b : Int32) (xa la lb : Int64) (hx : xa = x.toInt64) (ha : la = a.toInt64) (hb : lb = b.toInt64) : zD l B mX12_in s t [.long xa, .long la, .long lb] (some (.int (zi (wIn2 x a b)))) s t := by
  refine z_met (by decide) (Nat.le_of_ble_eq_true rfl) ?_
  intro X hl C E hnm
  show Zf X B mX12_in s t 0 [(0, .long xa), (2, .long la), (4, .long lb)] []
  refine z_lload_n C dX12_in_0 0 rfl rfl ?_
  refine z_lload_n C dX12_in_1 1 rfl rfl ?_
  refine z_lcmp C dX12_in_2 ?_
  refine z_if_lt C 17 dX12_in_3 (by decide) (fun h3 => ?_) (fun h3 => ?_)
  · refine z_iconst C dX12_in_17 ki_0 ?_
    refine z_zret C E rfl dX12_in_18 rfl rfl (Nat.le_refl _) ⟨by rw [wIn2]; exact congrArg (fun z => some (Value.int z)) (zi_n (fun q => q.1 ((l_lt hx ha).mp h3))), rfl⟩
  · refine z_lload_n C dX12_in_6 0 rfl rfl ?_
    refine z_lload C dX12_in_7 2 rfl ?_
    refine z_lcmp C dX12_in_9 ?_
    refine z_if_gt C 17 dX12_in_10 (by decide) (fun h10 => ?_) (fun h10 => ?_)
    · refine z_iconst C dX12_in_17 ki_0 ?_
      refine z_zret C E rfl dX12_in_18 rfl rfl (Nat.le_refl _) ⟨by rw [wIn2]; exact congrArg (fun z => some (Value.int z)) (zi_n (fun q => q.2 ((l_gt hx hb).mp h10))), rfl⟩
    · refine z_iconst C dX12_in_13 ki_1 ?_
      refine z_goto C 18 dX12_in_14 (by decide) ?_
      refine z_zret C E rfl dX12_in_18 rfl rfl (Nat.le_refl _) ⟨by rw [wIn2]; exact congrArg (fun z => some (Value.int z)) (zi_p ⟨fun q => h3 ((l_lt hx ha).mpr q), fun q => h10 ((l_gt hx hb).mpr q)⟩), rfl⟩
abbrev mX12_bad : zM := (yX12_bad, cX12_bad, 2, (some .int), { frames := 0, cells := 0, slots := 0, locals := 0 })
set_option maxRecDepth 100000 in
set_option maxHeartbeats 4000000 in
theorem c_X12_bad (l : Launch) (B : zB) (s : zS) (t : zL) (v : Int32) : zD l B mX12_bad s t [.ref (B.1 + 113), .int v] (some (.int v)) (zu s 117 0 (s 117 0 + 1)) t := by
  refine z_met (by decide) (Nat.le_of_ble_eq_true rfl) ?_
  intro X hl C E hnm
  show Zf X B mX12_bad s t 0 [(0, .ref (B.1 + 113)), (1, .int v)] []
  refine z_aload_n C dX12_bad_0 0 rfl rfl ?_
  refine f_get12 C 3 (v := .ref (B.1 + 117)) (by decide) tw_747 rfl zk_113 zb_113 rfl dX12_bad_1 ?_
  refine z_iconst C dX12_bad_4 ki_0 ?_
  refine z_dup2 C dX12_bad_5 rfl rfl ?_
  refine f_ialdL C zk_117 zb_117 (by unfold vp_in; decide) (j := 0) (by decide) dX12_bad_6 ?_
  refine z_iconst C dX12_bad_7 ki_1 ?_
  refine z_iadd C dX12_bad_8 ?_
  refine f_iastL C zk_117 zb_117 (by unfold vp_in; decide) (j := 0) (by decide) dX12_bad_9 ?_
  refine z_iload_n C dX12_bad_10 1 rfl rfl ?_
  refine z_iret C E rfl dX12_bad_11 rfl (Nat.le_refl _) ⟨rfl, rfl⟩
abbrev mX12_no : zM := (yX12_no, cX12_no, 1, (some .int), { frames := 0, cells := 0, slots := 0, locals := 0 })
set_option maxRecDepth 100000 in
set_option maxHeartbeats 4000000 in
theorem c_X12_no (l : Launch) (B : zB) (s : zS) (t : zL)  : zD l B mX12_no s t [.ref (B.1 + 113)] (some (.int (-3))) (zu s 117 1 (s 117 1 + 1)) t := by
  refine z_met (by decide) (Nat.le_of_ble_eq_true rfl) ?_
  intro X hl C E hnm
  show Zf X B mX12_no s t 0 [(0, .ref (B.1 + 113))] []
  refine z_aload_n C dX12_no_0 0 rfl rfl ?_
  refine f_get12 C 3 (v := .ref (B.1 + 117)) (by decide) tw_747 rfl zk_113 zb_113 rfl dX12_no_1 ?_
  refine z_iconst C dX12_no_4 ki_1 ?_
  refine z_dup2 C dX12_no_5 rfl rfl ?_
  refine f_ialdL C zk_117 zb_117 (by unfold vp_in; decide) (j := 1) (by decide) dX12_no_6 ?_
  refine z_iconst C dX12_no_7 ki_1 ?_
  refine z_iadd C dX12_no_8 ?_
  refine f_iastL C zk_117 zb_117 (by unfold vp_in; decide) (j := 1) (by decide) dX12_no_9 ?_
  refine z_bipush C dX12_no_10 kb_m3 ?_
  refine z_iret C E rfl dX12_no_12 rfl (Nat.le_refl _) ⟨rfl, rfl⟩
abbrev mX12_full : zM := (yX12_full, cX12_full, 1, (some .int), { frames := 0, cells := 0, slots := 0, locals := 0 })
set_option maxRecDepth 100000 in
set_option maxHeartbeats 4000000 in
theorem c_X12_full (l : Launch) (B : zB) (s : zS) (t : zL)  : zD l B mX12_full s t [.ref (B.1 + 113)] (some (.int (-4))) (zu s 117 2 (s 117 2 + 1)) t := by
  refine z_met (by decide) (Nat.le_of_ble_eq_true rfl) ?_
  intro X hl C E hnm
  show Zf X B mX12_full s t 0 [(0, .ref (B.1 + 113))] []
  refine z_aload_n C dX12_full_0 0 rfl rfl ?_
  refine f_get12 C 3 (v := .ref (B.1 + 117)) (by decide) tw_747 rfl zk_113 zb_113 rfl dX12_full_1 ?_
  refine z_iconst C dX12_full_4 ki_2 ?_
  refine z_dup2 C dX12_full_5 rfl rfl ?_
  refine f_ialdL C zk_117 zb_117 (by unfold vp_in; decide) (j := 2) (by decide) dX12_full_6 ?_
  refine z_iconst C dX12_full_7 ki_1 ?_
  refine z_iadd C dX12_full_8 ?_
  refine f_iastL C zk_117 zb_117 (by unfold vp_in; decide) (j := 2) (by decide) dX12_full_9 ?_
  refine z_bipush C dX12_full_10 kb_m4 ?_
  refine z_iret C E rfl dX12_full_12 rfl (Nat.le_refl _) ⟨rfl, rfl⟩
abbrev mX12_bits : zM := (yX12_bits, cX12_bits, 3, (some .int), { frames := 0, cells := 0, slots := 0, locals := 0 })
set_option maxRecDepth 100000 in
set_option maxHeartbeats 4000000 in
theorem l_X12_bits {l : Launch} {B : zB} {s : zS} {t : zL} {X : zX} (hl : X.2.1 = l) (C : zC X B mX12_bits) (a : Int32) (r : Nat) (E : zE X B mX12_bits 124 0 0 (zR B (some (.int (nI r))) s t)) : ∀ (m : Nat) (k c : Nat), k < 2 ^ m ∧ k < 256 → c + pcN k = r → Zf X B mX12_bits s t 4 [(2, .int (nI k)), (1, .int (nI c)), (0, .int a)] [] := by
  intro m
  induction m with
  | zero =>
    intro k c hk hc
    have hk0 : k < 1 := hk.1
    refine z_iload_n C dX12_bits_4 0 rfl rfl ?_
    refine z_if_le C 21 dX12_bits_5 (by decide) (fun _ => ?_) (fun hbr => absurd (by rw [show k = 0 by omega]; decide) hbr)
    refine z_iload_n C dX12_bits_21 1 rfl rfl ?_
    refine z_iret C E rfl dX12_bits_22 rfl (Nat.le_refl _) ⟨by rw [show k = 0 by omega] at hc; rw [← hc]; rfl, rfl⟩
  | succ m ih =>
    intro k c hk hc
    have hk2 : k < 2 * 2 ^ m := by rw [Nat.mul_comm, ← Nat.pow_succ]; exact hk.1
    have hk8 := hk.2
    refine z_iload_n C dX12_bits_4 0 rfl rfl ?_
    refine z_if_le C 21 dX12_bits_5 (by decide) (fun h5 => ?_) (fun h5 => ?_)
    · refine z_iload_n C dX12_bits_21 1 rfl rfl ?_
      refine z_iret C E rfl dX12_bits_22 rfl (Nat.le_refl _) ⟨by have h0 : k = 0 := Classical.byContradiction (fun q => nI_nle (Nat.pos_of_ne_zero q) (by omega) h5); rw [h0] at hc; rw [← hc]; rfl, rfl⟩
    · refine z_iload_n C dX12_bits_8 1 rfl rfl ?_
      refine z_iload_n C dX12_bits_9 0 rfl rfl ?_
      refine z_iconst C dX12_bits_10 ki_1 ?_
      refine z_iand C dX12_bits_11 ?_
      refine z_iadd C dX12_bits_12 ?_
      refine f_topi (y := nI (c + k % 2)) (nA rfl (pk_andN (by omega) 1 (by decide)) rfl) ?_
      refine z_istore_n C [(1, .int (nI (c + k % 2))), (2, .int (nI k)), (0, .int a)] dX12_bits_13 rfl (by decide) rfl ?_
      refine z_iload_n C dX12_bits_14 1 rfl rfl ?_
      refine z_iconst C dX12_bits_15 ki_1 ?_
      refine z_ishr C dX12_bits_16 ?_
      refine f_topi (y := nI (k / 2)) (pk_shrN (by omega) _ 1 (by decide)) ?_
      refine z_istore_n C [(2, .int (nI (k / 2))), (1, .int (nI (c + k % 2))), (0, .int a)] dX12_bits_17 rfl (by decide) rfl ?_
      refine z_goto C 4 dX12_bits_18 (by decide) ?_
      exact z_lv [0, 1, 2] rfl (ih (k / 2) (c + k % 2) (by omega) (by rw [← hc, pcN_half k (by omega)]; omega))
set_option maxRecDepth 100000 in
set_option maxHeartbeats 4000000 in
theorem c_X12_bits (l : Launch) (B : zB) (s : zS) (t : zL) (a : Int32) (h : r8 a) : zD l B mX12_bits s t [.int a] (some (.int (wPop a))) s t := by
  obtain ⟨n, hn, ea⟩ := r8_ex h
  have e : wPop a = nI (pcN n) := by rw [ea, wPop, pk_tn (by omega)]
  rw [e]
  refine z_met (by decide) (Nat.le_of_ble_eq_true rfl) ?_
  intro X hl C E hnm
  show Zf X B mX12_bits s t 0 [(0, .int a)] []
  refine z_iconst C dX12_bits_0 ki_0 ?_
  refine z_istore_n C [(1, .int 0), (0, .int a)] dX12_bits_1 rfl (by decide) rfl ?_
  refine z_iload_n C dX12_bits_2 1 rfl rfl ?_
  refine f_topi ea ?_
  refine z_istore_n C [(2, .int (nI n)), (1, .int 0), (0, .int a)] dX12_bits_3 rfl (by decide) rfl ?_
  exact z_lv [0, 1, 2] rfl (l_X12_bits hl C a (pcN n) E 8 n 0 ⟨by omega, hn⟩ (Nat.zero_add _))
abbrev mX12_has : zM := (yX12_has, cX12_has, 2, (some .boolean), { frames := 0, cells := 0, slots := 0, locals := 0 })
set_option maxRecDepth 100000 in
set_option maxHeartbeats 4000000 in
theorem c_X12_has (l : Launch) (B : zB) (s : zS) (t : zL) (x k : Int32) : zD l B mX12_has s t [.int x, .int k] (some (.int (zi (wHas x k)))) s t := by
  refine z_met (by decide) (Nat.le_of_ble_eq_true rfl) ?_
  intro X hl C E hnm
  show Zf X B mX12_has s t 0 [(0, .int x), (1, .int k)] []
  refine z_iload_n C dX12_has_0 0 rfl rfl ?_
  refine z_iload_n C dX12_has_1 1 rfl rfl ?_
  refine z_ishr C dX12_has_2 ?_
  refine z_iconst C dX12_has_3 ki_1 ?_
  refine z_iand C dX12_has_4 ?_
  refine z_iconst C dX12_has_5 ki_1 ?_
  refine z_icmp_ne C 13 dX12_has_6 (by decide) (fun h6 => ?_) (fun h6 => ?_)
  · refine z_iconst C dX12_has_13 ki_0 ?_
    refine z_zret C E rfl dX12_has_14 rfl rfl (Nat.le_refl _) ⟨congrArg (fun z => some (Value.int z)) (zi_n h6), rfl⟩
  · refine z_iconst C dX12_has_9 ki_1 ?_
    refine z_goto C 14 dX12_has_10 (by decide) ?_
    refine z_zret C E rfl dX12_has_14 rfl rfl (Nat.le_refl _) ⟨congrArg (fun z => some (Value.int z)) (zi_p h6), rfl⟩
def wZero (s : zS) (o i : Nat) : zS := fun k j => if k = o ∧ j < i then 0 else s k j
theorem wZero_s (s : zS) (o i : Nat) : zu (wZero s o i) o i 0 = wZero s o (i + 1) := by
  funext k j
  simp only [zu, wZero]
  by_cases hk : k = o
  · by_cases hj : j = i
    · simp [hk, hj]
    · by_cases h2 : j < i
      · simp [hk, hj, h2, show j < i + 1 by omega]
      · simp [hk, hj, h2, show ¬ j < i + 1 by omega]
  · simp [hk]
theorem wZero_0 (s : zS) (o : Nat) : wZero s o 0 = s := by funext k j; simp [wZero]
def wBeg (s : zS) (o : Nat) (d : Int32) : zS := zu (wZero s o 57) o 6 d
abbrev mX12_begin : zM := (yX12_begin, cX12_begin, 3, none, { frames := 0, cells := 0, slots := 0, locals := 0 })
set_option maxRecDepth 100000 in
set_option maxHeartbeats 4000000 in
theorem l_X12_begin114 {l : Launch} {B : zB} {s : zS} {t : zL} {X : zX} (hl : X.2.1 = l) (C : zC X B mX12_begin) (d : Int32) (E : zE X B mX12_begin 124 0 0 (zR B none (wBeg s 114 d) t)) : ∀ (m : Nat) (i : Nat), i + m = 57 → Zf X B mX12_begin (wZero s 114 i) t 2 [(2, .int (nI i)), (0, .ref (B.1 + 114)), (1, .int d)] [] := by
  intro m
  induction m with
  | zero =>
    intro i hi
    obtain rfl : i = 57 := by omega
    refine z_iload_n C dX12_begin_2 0 rfl rfl ?_
    refine z_bipush C dX12_begin_3 kb_57 ?_
    refine z_icmp_ge C 18 dX12_begin_5 (by decide) (fun _ => ?_) (fun hbr => absurd (by decide) hbr)
    refine z_aload_n C dX12_begin_18 1 rfl rfl ?_
    refine z_bipush C dX12_begin_19 kb_6 ?_
    refine z_iload_n C dX12_begin_21 2 rfl rfl ?_
    refine f_iastL C zk_114 zb_114 (by unfold vp_in; decide) (j := 6) (by decide) dX12_begin_22 ?_
    refine z_vret C E rfl dX12_begin_23 rfl (Nat.le_refl _) ⟨rfl, rfl⟩
  | succ m ih =>
    intro i hi0
    have hi : i < 57 := by omega
    refine z_iload_n C dX12_begin_2 0 rfl rfl ?_
    refine z_bipush C dX12_begin_3 kb_57 ?_
    refine z_icmp_ge C 18 dX12_begin_5 (by decide) (fun hbr => absurd hbr (show ¬ nI 57 ≤ nI i from nI_ge hi (by decide))) (fun _ => ?_)
    refine z_aload_n C dX12_begin_8 1 rfl rfl ?_
    refine z_iload_n C dX12_begin_9 0 rfl rfl ?_
    refine z_iconst C dX12_begin_10 ki_0 ?_
    refine f_iastL C zk_114 zb_114 (ixN (n := 105) rfl (by omega) (by decide)).1 (j := i) (ixN (n := 105) rfl (by omega) (by decide)).2 dX12_begin_11 ?_
    refine z_iinc C [(2, .int (nI (i + 1))), (0, .ref (B.1 + 114)), (1, .int d)] dX12_begin_12 0 rfl (nI_inc i) (by decide) rfl ?_
    refine z_goto C 2 dX12_begin_15 (by decide) ?_
    refine z_G (congrArg (fun z => zg B z t) (wZero_s s 114 i)) ?_
    exact z_lv [0, 1, 2] rfl (ih (i + 1) (by omega))
set_option maxRecDepth 100000 in
set_option maxHeartbeats 4000000 in
theorem c_X12_begin114 (l : Launch) (B : zB) (s : zS) (t : zL) (d : Int32) : zD l B mX12_begin s t [.ref (B.1 + 114), .int d] none (wBeg s 114 d) t := by
  refine z_met (by decide) (Nat.le_of_ble_eq_true rfl) ?_
  intro X hl C E hnm
  show Zf X B mX12_begin s t 0 [(0, .ref (B.1 + 114)), (1, .int d)] []
  refine z_iconst C dX12_begin_0 ki_0 ?_
  refine z_istore_n C [(2, .int 0), (0, .ref (B.1 + 114)), (1, .int d)] dX12_begin_1 rfl (by decide) rfl ?_
  refine z_G (congrArg (fun z => zg B z t) (wZero_0 s 114).symm) ?_
  exact z_lv [0, 1, 2] rfl (l_X12_begin114 hl C d E 57 0 (by omega))
set_option maxRecDepth 100000 in
set_option maxHeartbeats 4000000 in
theorem l_X12_begin122 {l : Launch} {B : zB} {s : zS} {t : zL} {X : zX} (hl : X.2.1 = l) (C : zC X B mX12_begin) (d : Int32) (E : zE X B mX12_begin 124 0 0 (zR B none (wBeg s 122 d) t)) : ∀ (m : Nat) (i : Nat), i + m = 57 → Zf X B mX12_begin (wZero s 122 i) t 2 [(2, .int (nI i)), (0, .ref (B.1 + 122)), (1, .int d)] [] := by
  intro m
  induction m with
  | zero =>
    intro i hi
    obtain rfl : i = 57 := by omega
    refine z_iload_n C dX12_begin_2 0 rfl rfl ?_
    refine z_bipush C dX12_begin_3 kb_57 ?_
    refine z_icmp_ge C 18 dX12_begin_5 (by decide) (fun _ => ?_) (fun hbr => absurd (by decide) hbr)
    refine z_aload_n C dX12_begin_18 1 rfl rfl ?_
    refine z_bipush C dX12_begin_19 kb_6 ?_
    refine z_iload_n C dX12_begin_21 2 rfl rfl ?_
    refine f_iastL C zk_122 zb_122 (by unfold vp_in; decide) (j := 6) (by decide) dX12_begin_22 ?_
    refine z_vret C E rfl dX12_begin_23 rfl (Nat.le_refl _) ⟨rfl, rfl⟩
  | succ m ih =>
    intro i hi0
    have hi : i < 57 := by omega
    refine z_iload_n C dX12_begin_2 0 rfl rfl ?_
    refine z_bipush C dX12_begin_3 kb_57 ?_
    refine z_icmp_ge C 18 dX12_begin_5 (by decide) (fun hbr => absurd hbr (show ¬ nI 57 ≤ nI i from nI_ge hi (by decide))) (fun _ => ?_)
    refine z_aload_n C dX12_begin_8 1 rfl rfl ?_
    refine z_iload_n C dX12_begin_9 0 rfl rfl ?_
    refine z_iconst C dX12_begin_10 ki_0 ?_
    refine f_iastL C zk_122 zb_122 (ixN (n := 57) rfl (by omega) (by decide)).1 (j := i) (ixN (n := 57) rfl (by omega) (by decide)).2 dX12_begin_11 ?_
    refine z_iinc C [(2, .int (nI (i + 1))), (0, .ref (B.1 + 122)), (1, .int d)] dX12_begin_12 0 rfl (nI_inc i) (by decide) rfl ?_
    refine z_goto C 2 dX12_begin_15 (by decide) ?_
    refine z_G (congrArg (fun z => zg B z t) (wZero_s s 122 i)) ?_
    exact z_lv [0, 1, 2] rfl (ih (i + 1) (by omega))
set_option maxRecDepth 100000 in
set_option maxHeartbeats 4000000 in
theorem c_X12_begin122 (l : Launch) (B : zB) (s : zS) (t : zL) (d : Int32) : zD l B mX12_begin s t [.ref (B.1 + 122), .int d] none (wBeg s 122 d) t := by
  refine z_met (by decide) (Nat.le_of_ble_eq_true rfl) ?_
  intro X hl C E hnm
  show Zf X B mX12_begin s t 0 [(0, .ref (B.1 + 122)), (1, .int d)] []
  refine z_iconst C dX12_begin_0 ki_0 ?_
  refine z_istore_n C [(2, .int 0), (0, .ref (B.1 + 122)), (1, .int d)] dX12_begin_1 rfl (by decide) rfl ?_
  refine z_G (congrArg (fun z => zg B z t) (wZero_0 s 122).symm) ?_
  exact z_lv [0, 1, 2] rfl (l_X12_begin122 hl C d E 57 0 (by omega))
abbrev mX12_many : zM := (yX12_many, cX12_many, 1, (some .int), { frames := 0, cells := 0, slots := 0, locals := 0 })
set_option maxRecDepth 100000 in
set_option maxHeartbeats 4000000 in
theorem c_X12_many (l : Launch) (B : zB) (s : zS) (t : zL)  : zD l B mX12_many s t [.ref (B.1 + 113)] (some (.int (s 114 0))) s t := by
  refine z_met (by decide) (Nat.le_of_ble_eq_true rfl) ?_
  intro X hl C E hnm
  show Zf X B mX12_many s t 0 [(0, .ref (B.1 + 113))] []
  refine z_aload_n C dX12_many_0 0 rfl rfl ?_
  refine f_get12 C 0 (v := .ref (B.1 + 114)) (by decide) tw_744 rfl zk_113 zb_113 rfl dX12_many_1 ?_
  refine z_iconst C dX12_many_4 ki_0 ?_
  refine f_ialdL C zk_114 zb_114 (by unfold vp_in; decide) (j := 0) (by decide) dX12_many_5 ?_
  refine z_iret C E rfl dX12_many_6 rfl (Nat.le_refl _) ⟨rfl, rfl⟩
abbrev mX12_isDeputy : zM := (yX12_isDeputy, cX12_isDeputy, 2, (some .boolean), { frames := 1, cells := 0, slots := 0, locals := 25 })
set_option maxRecDepth 100000 in
set_option maxHeartbeats 4000000 in
theorem c_X12_isDeputy (l : Launch) (B : zB) (s : zS) (t : zL) (x : Int32) : zD l B mX12_isDeputy s t [.ref (B.1 + 113), .int x] (some (.int (zi (wIn x (s 114 0 - 1))))) s t := by
  refine z_met (by decide) (Nat.le_of_ble_eq_true rfl) ?_
  intro X hl C E hnm
  show Zf X B mX12_isDeputy s t 0 [(0, .ref (B.1 + 113)), (1, .int x)] []
  refine z_iload_n C dX12_isDeputy_0 1 rfl rfl ?_
  refine z_i2l C dX12_isDeputy_1 ?_
  refine z_lconst C dX12_isDeputy_2 kl_0 ?_
  refine z_aload_n C dX12_isDeputy_3 0 rfl rfl ?_
  refine f_callVr C hl (As := []) (rest := [.long 0, .long ((x : Int32).toInt64)]) (c_X12_many l B s t) zb_113 (zg_12 zk_113) rfl (zCB (nA := 0) C rfl rfl tw_818 tw_13 tw_815 (by decide +kernel) ⟨Nat.le_of_ble_eq_true rfl, Nat.le_of_ble_eq_true rfl⟩) tw_817 tp_27 rfl rfl (Nat.le_of_ble_eq_true rfl) dX12_isDeputy_4 (Nat.zero_le _) ?_
  refine z_iconst C dX12_isDeputy_7 ki_1 ?_
  refine z_isub C dX12_isDeputy_8 ?_
  refine z_i2l C dX12_isDeputy_9 ?_
  refine f_callSr C hl (As := [.long ((x : Int32).toInt64), .long 0, .long (((s 114 0) - 1 : Int32).toInt64)]) (rest := []) (c_X12_in l B s t x 0 ((s 114 0) - 1) ((x : Int32).toInt64) 0 (((s 114 0) - 1 : Int32).toInt64) rfl (by decide) rfl) (zCB (nA := 3) C rfl rfl tw_810 tw_13 tw_808 (by decide +kernel) ⟨Nat.le_of_ble_eq_true rfl, Nat.le_of_ble_eq_true rfl⟩) tw_809 rfl rfl (Nat.le_of_ble_eq_true rfl) dX12_isDeputy_10 (Nat.zero_le _) ?_
  refine z_zret C E rfl dX12_isDeputy_13 (zi_nar _) rfl (Nat.le_refl _) ⟨rfl, rfl⟩
abbrev mX12_isBundle : zM := (yX12_isBundle, cX12_isBundle, 1, (some .boolean), { frames := 1, cells := 0, slots := 0, locals := 25 })
set_option maxRecDepth 100000 in
set_option maxHeartbeats 4000000 in
theorem c_X12_isBundle (l : Launch) (B : zB) (s : zS) (t : zL) (x : Int32) : zD l B mX12_isBundle s t [.int x] (some (.int (zi (wIn x 255)))) s t := by
  refine z_met (by decide) (Nat.le_of_ble_eq_true rfl) ?_
  intro X hl C E hnm
  show Zf X B mX12_isBundle s t 0 [(0, .int x)] []
  refine z_iload_n C dX12_isBundle_0 0 rfl rfl ?_
  refine z_i2l C dX12_isBundle_1 ?_
  refine z_lconst C dX12_isBundle_2 kl_0 ?_
  refine z_ldc2 C dX12_isBundle_3 tw_827 ?_
  refine f_callSr C hl (As := [.long ((x : Int32).toInt64), .long 0, .long 255]) (rest := []) (c_X12_in l B s t x 0 255 ((x : Int32).toInt64) 0 255 rfl (by decide) (by decide)) (zCB (nA := 3) C rfl rfl tw_810 tw_13 tw_808 (by decide +kernel) ⟨Nat.le_of_ble_eq_true rfl, Nat.le_of_ble_eq_true rfl⟩) tw_809 rfl rfl (Nat.le_of_ble_eq_true rfl) dX12_isBundle_6 (Nat.zero_le _) ?_
  refine z_zret C E rfl dX12_isBundle_9 (zi_nar _) rfl (Nat.le_refl _) ⟨rfl, rfl⟩
theorem gI (i w : Nat) : (9 : Int32) + 4 * nI i + nI w = nI (9 + 4 * i + w) := nA (nA (a := 9) rfl (nM (a := 4) rfl rfl rfl) rfl) rfl rfl
abbrev mX12_get : zM := (yX12_get, cX12_get, 3, (some .int), { frames := 0, cells := 0, slots := 0, locals := 0 })
set_option maxRecDepth 100000 in
set_option maxHeartbeats 4000000 in
theorem c_X12_get (l : Launch) (B : zB) (s : zS) (t : zL) (i w : Nat) (hi : i < 6) (hw : w < 4) : zD l B mX12_get s t [.ref (B.1 + 113), .int (nI i), .int (nI w)] (some (.int (s 114 (9 + 4 * i + w)))) s t := by
  refine z_met (by decide) (Nat.le_of_ble_eq_true rfl) ?_
  intro X hl C E hnm
  show Zf X B mX12_get s t 0 [(0, .ref (B.1 + 113)), (1, .int (nI i)), (2, .int (nI w))] []
  refine z_aload_n C dX12_get_0 0 rfl rfl ?_
  refine f_get12 C 0 (v := .ref (B.1 + 114)) (by decide) tw_744 rfl zk_113 zb_113 rfl dX12_get_1 ?_
  refine z_bipush C dX12_get_4 kb_9 ?_
  refine z_iconst C dX12_get_6 ki_4 ?_
  refine z_iload_n C dX12_get_7 1 rfl rfl ?_
  refine z_imul C dX12_get_8 ?_
  refine z_iadd C dX12_get_9 ?_
  refine z_iload_n C dX12_get_10 2 rfl rfl ?_
  refine z_iadd C dX12_get_11 ?_
  refine f_ialdL C zk_114 zb_114 (ixN (n := 105) (gI i w) (by omega) (by decide)).1 (j := (9 + 4 * i + w)) (ixN (n := 105) (gI i w) (by omega) (by decide)).2 dX12_get_12 ?_
  refine z_iret C E rfl dX12_get_13 rfl (Nat.le_refl _) ⟨rfl, rfl⟩
def wHand0 (s : zS) (n : Nat) : zS := fun k j => if k = 118 ∧ j < n then s 114 (9 + 4 * j + 0) else if k = 119 ∧ j < n then s 114 (9 + 4 * j + 1) else if k = 120 ∧ j < n then s 114 (9 + 4 * j + 2) else s k j
theorem wHand0_0 (s : zS) : wHand0 s 0 = s := by funext k j; simp [wHand0]
theorem wHand0_row (s : zS) {n k : Nat} (h1 : k ≠ 118) (h2 : k ≠ 119) (h3 : k ≠ 120) : wHand0 s n k = s k := by funext j; simp [wHand0, h1, h2, h3]
theorem wHand0_s (s : zS) (n : Nat) : zu (zu (zu (wHand0 s n) 118 n (s 114 (9 + 4 * n + 0))) 119 n (s 114 (9 + 4 * n + 1))) 120 n (s 114 (9 + 4 * n + 2)) = wHand0 s (n + 1) := by
  funext k j
  simp only [zu, wHand0]
  by_cases h1 : k = 118
  · subst h1
    by_cases hj : j = n
    · subst hj; simp
    · by_cases h2 : j < n
      · simp [hj, h2, show j < n + 1 by omega]
      · simp [hj, h2, show ¬ j < n + 1 by omega]
  · by_cases h2 : k = 119
    · subst h2
      by_cases hj : j = n
      · subst hj; simp
      · by_cases h3 : j < n
        · simp [hj, h3, show j < n + 1 by omega]
        · simp [hj, h3, show ¬ j < n + 1 by omega]
    · by_cases h3 : k = 120
      · subst h3
        by_cases hj : j = n
        · subst hj; simp
        · by_cases h4 : j < n
          · simp [hj, h4, show j < n + 1 by omega]
          · simp [hj, h4, show ¬ j < n + 1 by omega]
      · simp [h1, h2, h3]
def wHand (s : zS) (n : Nat) : zS := zu (zu (wHand0 s n) 113 9 (s 114 3 ||| s 114 4)) 113 10 (s 114 6)
abbrev mX12_layHand : zM := (yX12_layHand, cX12_layHand, 2, none, { frames := 1, cells := 0, slots := 0, locals := 22 })
set_option maxRecDepth 100000 in
set_option maxHeartbeats 4000000 in
theorem l_X12_layHand {l : Launch} {B : zB} {s : zS} {t : zL} {X : zX} (hl : X.2.1 = l) (C : zC X B mX12_layHand) (N : Nat) (hN : s 114 0 = nI N) (h6 : N ≤ 6) (E : zE X B mX12_layHand 124 0 0 (zR B none (wHand s N) t)) : ∀ (m : Nat) (i : Nat), i + m = N → Zf X B mX12_layHand (wHand0 s i) t 2 [(1, .int (nI i)), (0, .ref (B.1 + 113))] [] := by
  intro m
  induction m with
  | zero =>
    intro i hi
    obtain rfl : i = N := by omega
    refine z_iload_n C dX12_layHand_2 0 rfl rfl ?_
    refine z_aload_n C dX12_layHand_3 1 rfl rfl ?_
    refine f_callVr C hl (As := []) (rest := [.int (nI i)]) (c_X12_many l B (wHand0 s i) t) zb_113 (zg_12 zk_113) rfl (zCB (nA := 0) C rfl rfl tw_818 tw_13 tw_815 (by decide +kernel) ⟨Nat.le_of_ble_eq_true rfl, Nat.le_of_ble_eq_true rfl⟩) tw_817 tp_27 rfl rfl (Nat.le_of_ble_eq_true rfl) dX12_layHand_4 (Nat.zero_le _) ?_
    refine f_topi (y := nI i) (by rw [wHand0_row _ (by decide) (by decide) (by decide)]; exact hN) ?_
    refine z_icmp_ge C 52 dX12_layHand_7 (by decide) (fun _ => ?_) (fun hbr => absurd (Int32.le_refl _) hbr)
    refine z_aload_n C dX12_layHand_52 1 rfl rfl ?_
    refine z_aload_n C dX12_layHand_53 1 rfl rfl ?_
    refine f_get12 C 0 (v := .ref (B.1 + 114)) (by decide) tw_744 rfl zk_113 zb_113 rfl dX12_layHand_54 ?_
    refine z_iconst C dX12_layHand_57 ki_3 ?_
    refine f_ialdL C zk_114 zb_114 (by unfold vp_in; decide) (j := 3) (by decide) dX12_layHand_58 ?_
    refine z_aload_n C dX12_layHand_59 1 rfl rfl ?_
    refine f_get12 C 0 (v := .ref (B.1 + 114)) (by decide) tw_744 rfl zk_113 zb_113 rfl dX12_layHand_60 ?_
    refine z_iconst C dX12_layHand_63 ki_4 ?_
    refine f_ialdL C zk_114 zb_114 (by unfold vp_in; decide) (j := 4) (by decide) dX12_layHand_64 ?_
    refine z_ior C dX12_layHand_65 ?_
    refine f_put12_9 C tw_753 zk_113 zb_113 dX12_layHand_66 ?_
    refine z_aload_n C dX12_layHand_69 1 rfl rfl ?_
    refine z_aload_n C dX12_layHand_70 1 rfl rfl ?_
    refine f_get12 C 0 (v := .ref (B.1 + 114)) (by decide) tw_744 rfl zk_113 zb_113 rfl dX12_layHand_71 ?_
    refine z_bipush C dX12_layHand_74 kb_6 ?_
    refine f_ialdL C zk_114 zb_114 (by unfold vp_in; decide) (j := 6) (by decide) dX12_layHand_76 ?_
    refine f_put12_10 C tw_754 zk_113 zb_113 dX12_layHand_77 ?_
    refine z_vret C E rfl dX12_layHand_80 rfl (Nat.le_refl _) ⟨rfl, congrArg (fun z => zg B z t) (by rw [wHand, wHand0_row _ (by decide) (by decide) (by decide), zu_row _ _ (by decide), wHand0_row _ (by decide) (by decide) (by decide)])⟩
  | succ m ih =>
    intro i hi0
    have hi : i < N := by omega
    refine z_iload_n C dX12_layHand_2 0 rfl rfl ?_
    refine z_aload_n C dX12_layHand_3 1 rfl rfl ?_
    refine f_callVr C hl (As := []) (rest := [.int (nI i)]) (c_X12_many l B (wHand0 s i) t) zb_113 (zg_12 zk_113) rfl (zCB (nA := 0) C rfl rfl tw_818 tw_13 tw_815 (by decide +kernel) ⟨Nat.le_of_ble_eq_true rfl, Nat.le_of_ble_eq_true rfl⟩) tw_817 tp_27 rfl rfl (Nat.le_of_ble_eq_true rfl) dX12_layHand_4 (Nat.zero_le _) ?_
    refine f_topi (y := nI N) (by rw [wHand0_row _ (by decide) (by decide) (by decide)]; exact hN) ?_
    refine z_icmp_ge C 52 dX12_layHand_7 (by decide) (fun hbr => absurd hbr (nI_ge hi (by omega))) (fun _ => ?_)
    refine z_aload_n C dX12_layHand_10 1 rfl rfl ?_
    refine f_get12 C 6 (v := .ref (B.1 + 118)) (by decide) tw_750 rfl zk_113 zb_113 rfl dX12_layHand_11 ?_
    refine z_iload_n C dX12_layHand_14 0 rfl rfl ?_
    refine z_aload_n C dX12_layHand_15 1 rfl rfl ?_
    refine z_iload_n C dX12_layHand_16 0 rfl rfl ?_
    refine z_iconst C dX12_layHand_17 ki_0 ?_
    refine f_callVr C hl (As := [.int (nI i), .int 0]) (rest := [.int (nI i), .ref (B.1 + 118)]) (c_X12_get l B (wHand0 s i) t i 0 (by omega) (by decide)) zb_113 (zg_12 zk_113) rfl (zCB (nA := 2) C rfl rfl tw_855 tw_13 tw_852 (by decide +kernel) ⟨Nat.le_of_ble_eq_true rfl, Nat.le_of_ble_eq_true rfl⟩) tw_854 tp_32 rfl rfl (Nat.le_of_ble_eq_true rfl) dX12_layHand_18 (Nat.zero_le _) ?_
    refine f_topi (y := s 114 (9 + 4 * i + 0)) (by rw [wHand0_row _ (by decide) (by decide) (by decide)]) ?_
    refine f_iastL C zk_118 zb_118 (ixN (n := 6) rfl (by omega) (by decide)).1 (j := i) (ixN (n := 6) rfl (by omega) (by decide)).2 dX12_layHand_21 ?_
    refine z_aload_n C dX12_layHand_22 1 rfl rfl ?_
    refine f_get12 C 7 (v := .ref (B.1 + 119)) (by decide) tw_751 rfl zk_113 zb_113 rfl dX12_layHand_23 ?_
    refine z_iload_n C dX12_layHand_26 0 rfl rfl ?_
    refine z_aload_n C dX12_layHand_27 1 rfl rfl ?_
    refine z_iload_n C dX12_layHand_28 0 rfl rfl ?_
    refine z_iconst C dX12_layHand_29 ki_1 ?_
    refine f_callVr C hl (As := [.int (nI i), .int 1]) (rest := [.int (nI i), .ref (B.1 + 119)]) (c_X12_get l B (zu (wHand0 s i) 118 i (s 114 (9 + 4 * i + 0))) t i 1 (by omega) (by decide)) zb_113 (zg_12 zk_113) rfl (zCB (nA := 2) C rfl rfl tw_855 tw_13 tw_852 (by decide +kernel) ⟨Nat.le_of_ble_eq_true rfl, Nat.le_of_ble_eq_true rfl⟩) tw_854 tp_32 rfl rfl (Nat.le_of_ble_eq_true rfl) dX12_layHand_30 (Nat.zero_le _) ?_
    refine f_topi (y := s 114 (9 + 4 * i + 1)) (by rw [zu_row _ _ (by decide), wHand0_row _ (by decide) (by decide) (by decide)]) ?_
    refine f_iastL C zk_119 zb_119 (ixN (n := 6) rfl (by omega) (by decide)).1 (j := i) (ixN (n := 6) rfl (by omega) (by decide)).2 dX12_layHand_33 ?_
    refine z_aload_n C dX12_layHand_34 1 rfl rfl ?_
    refine f_get12 C 8 (v := .ref (B.1 + 120)) (by decide) tw_752 rfl zk_113 zb_113 rfl dX12_layHand_35 ?_
    refine z_iload_n C dX12_layHand_38 0 rfl rfl ?_
    refine z_aload_n C dX12_layHand_39 1 rfl rfl ?_
    refine z_iload_n C dX12_layHand_40 0 rfl rfl ?_
    refine z_iconst C dX12_layHand_41 ki_2 ?_
    refine f_callVr C hl (As := [.int (nI i), .int 2]) (rest := [.int (nI i), .ref (B.1 + 120)]) (c_X12_get l B (zu (zu (wHand0 s i) 118 i (s 114 (9 + 4 * i + 0))) 119 i (s 114 (9 + 4 * i + 1))) t i 2 (by omega) (by decide)) zb_113 (zg_12 zk_113) rfl (zCB (nA := 2) C rfl rfl tw_855 tw_13 tw_852 (by decide +kernel) ⟨Nat.le_of_ble_eq_true rfl, Nat.le_of_ble_eq_true rfl⟩) tw_854 tp_32 rfl rfl (Nat.le_of_ble_eq_true rfl) dX12_layHand_42 (Nat.zero_le _) ?_
    refine f_topi (y := s 114 (9 + 4 * i + 2)) (by rw [zu_row _ _ (by decide), zu_row _ _ (by decide), wHand0_row _ (by decide) (by decide) (by decide)]) ?_
    refine f_iastL C zk_120 zb_120 (ixN (n := 6) rfl (by omega) (by decide)).1 (j := i) (ixN (n := 6) rfl (by omega) (by decide)).2 dX12_layHand_45 ?_
    refine z_iinc C [(1, .int (nI (i + 1))), (0, .ref (B.1 + 113))] dX12_layHand_46 0 rfl (nI_inc i) (by decide) rfl ?_
    refine z_goto C 2 dX12_layHand_49 (by decide) ?_
    refine z_G (congrArg (fun z => zg B z t) (wHand0_s s i)) ?_
    exact z_lv [0, 1] rfl (ih (i + 1) (by omega))
set_option maxRecDepth 100000 in
set_option maxHeartbeats 4000000 in
theorem c_X12_layHand (l : Launch) (B : zB) (s : zS) (t : zL) (N : Nat) (hN : s 114 0 = nI N) (h6 : N ≤ 6) : zD l B mX12_layHand s t [.ref (B.1 + 113)] none (wHand s N) t := by
  refine z_met (by decide) (Nat.le_of_ble_eq_true rfl) ?_
  intro X hl C E hnm
  show Zf X B mX12_layHand s t 0 [(0, .ref (B.1 + 113))] []
  refine z_iconst C dX12_layHand_0 ki_0 ?_
  refine z_istore_n C [(1, .int 0), (0, .ref (B.1 + 113))] dX12_layHand_1 rfl (by decide) rfl ?_
  refine z_G (congrArg (fun z => zg B z t) (wHand0_0 s).symm) ?_
  exact z_lv [0, 1] rfl (l_X12_layHand hl C N hN h6 E N 0 (by omega))
