theorem wBit_r8 : ∀ l, l < 8 → wBit (nI l) &&& 255 = wBit (nI l) := by decide +kernel
theorem wBit_r {l : Nat} (h : l < 8) : r8 (wBit (nI l)) := wBit_r8 l h
theorem wCol_r8 (p : Nat → Bool) : ∀ n, n ≤ 8 → r8 (wCol p n) := by
  intro n
  induction n with
  | zero => intro _; exact r8_of (n := 0) (by decide)
  | succ n ih =>
    intro h
    unfold wCol
    split
    · exact r8_or (ih (by omega)) (wBit_r (by omega))
    · exact ih (by omega)
theorem wWho_r8 (K L H : Nat → Int32) (st d bu : Int32) : ∀ n, n ≤ 8 → r8 (wWho K L H st d bu n) := by
  intro n
  induction n with
  | zero => intro _; exact r8_of (n := 0) (by decide)
  | succ n ih =>
    intro h
    unfold wWho
    split
    · exact r8_or (ih (by omega)) (wBit_r (by omega))
    · exact ih (by omega)
theorem r8_255 : r8 255 := by unfold r8; decide
/-- the first place from j on, of f places, of which ok holds -/
def wFind (ok : Nat → Bool) : Nat → Nat → Int32
  | 0, _ => -1
  | f + 1, j => if ok j = true then nI j else wFind ok f (j + 1)
def wAdd (f : Nat → Int32) : Nat → Int32
  | 0 => 0
  | n + 1 => wAdd f n + f n
def wGone (f : Nat → Int32) : Nat → Int32 × Int32
  | 0 => (-1, -1)
  | n + 1 => if f n ≤ (wGone f n).2 then wGone f n else (nI n, f n)
def wTry (g : Nat → Int32) (l0 : Int32) : Nat → Int32 × Int32
  | 0 => (-1, l0)
  | n + 1 => if (wTry g l0 n).2 ≤ g (n + 1) then wTry g l0 n else (nI (n + 1), g (n + 1))
def wPow (b : Int64) : Nat → Int64
  | 0 => 1
  | n + 1 => wPow b n * b
abbrev mX11_tied : zM := (yX11_tied, cX11_tied, 5, (some .int), { frames := 5, cells := 0, slots := 0, locals := 122 })
set_option maxRecDepth 100000 in
set_option maxHeartbeats 4000000 in
theorem c_X11_tied_bad (l : Launch) (B : zB) (s : zS) (t : zL) (b : Int32) (h : wIn b 255 = true → ¬ 2 ≤ wPop b) : zD l B mX11_tied s t [.ref (B.1 + 0), .int b] (some (.int (-2))) (zu s 0 9 (s 0 9 + 1)) t := by
  refine z_met (by decide) (Nat.le_of_ble_eq_true rfl) ?_
  intro X hl C E hnm
  show Zf X B mX11_tied s t 0 [(0, .ref (B.1 + 0)), (1, .int b)] []
  refine z_iload_n C dX11_tied_0 1 rfl rfl ?_
  refine f_callSr C hl (As := [.int b]) (rest := []) (c_X11_isBundle l B s t b) (zCB (nA := 1) C rfl rfl tw_287 tw_1 tw_285 (by decide +kernel) ⟨Nat.le_of_ble_eq_true rfl, Nat.le_of_ble_eq_true rfl⟩) tw_286 rfl rfl (Nat.le_of_ble_eq_true rfl) dX11_tied_1 (Nat.zero_le _) ?_
  refine z_ifb_eq C 15 dX11_tied_4 (by decide) (fun h4 => ?_) (fun h4 => ?_)
  · refine z_aload_n C dX11_tied_15 0 rfl rfl ?_
    refine z_bipush C dX11_tied_16 kb_m2 ?_
    refine f_callVr C hl (As := [.int (-2)]) (rest := []) (c_X11_refuse2 l B s t) zb_0 (zg_11 zk_0) rfl (zCB (nA := 1) C rfl rfl tw_272 tw_1 tw_269 (by decide +kernel) ⟨Nat.le_of_ble_eq_true rfl, Nat.le_of_ble_eq_true rfl⟩) tw_271 tp_0 rfl rfl (Nat.le_of_ble_eq_true rfl) dX11_tied_18 (Nat.zero_le _) ?_
    refine z_iret C E rfl dX11_tied_21 rfl (Nat.le_refl _) ⟨rfl, rfl⟩
  · refine z_iload_n C dX11_tied_7 1 rfl rfl ?_
    refine f_callSr C hl (As := [.int b]) (rest := []) (c_J6_bitCount_0f7a4 l B s t b (wIn_r8 h4)) (zCB (nA := 1) C rfl rfl tw_486 tw_19 tw_484 (by decide +kernel) ⟨Nat.le_of_ble_eq_true rfl, Nat.le_of_ble_eq_true rfl⟩) tw_485 rfl rfl (Nat.le_of_ble_eq_true rfl) dX11_tied_8 (Nat.zero_le _) ?_
    refine z_iconst C dX11_tied_11 ki_2 ?_
    refine z_icmp_ge C 22 dX11_tied_12 (by decide) (fun h12 => ?_) (fun h12 => ?_)
    · exact absurd h12 (h h4)
    · refine z_aload_n C dX11_tied_15 0 rfl rfl ?_
      refine z_bipush C dX11_tied_16 kb_m2 ?_
      refine f_callVr C hl (As := [.int (-2)]) (rest := []) (c_X11_refuse2 l B s t) zb_0 (zg_11 zk_0) rfl (zCB (nA := 1) C rfl rfl tw_272 tw_1 tw_269 (by decide +kernel) ⟨Nat.le_of_ble_eq_true rfl, Nat.le_of_ble_eq_true rfl⟩) tw_271 tp_0 rfl rfl (Nat.le_of_ble_eq_true rfl) dX11_tied_18 (Nat.zero_le _) ?_
      refine z_iret C E rfl dX11_tied_21 rfl (Nat.le_refl _) ⟨rfl, rfl⟩
set_option maxRecDepth 100000 in
set_option maxHeartbeats 4000000 in
theorem l_X11_tied {l : Launch} {B : zB} {s : zS} {t : zL} {X : zX} (hl : X.2.1 = l) (C : zC X B mX11_tied) (b : Int32) (bn : Nat) (hbn : bn < 256) (eb : b = nI bn) (N : Nat) (hN : s 8 4 = nI N) (h6 : N ≤ 6) (hK : ∀ d, d < N → ∃ c, c < 6 ∧ s (11 + d) 0 = nI c) (r : Int32) (E : zE X B mX11_tied 124 0 0 (zR B (some (.int r)) s t)) : ∀ (m : Nat) (j : Nat), j + m = bn → wFind (fun j => (decide (nI j &&& (b ^^^ (-1)) = 0) && decide (¬ nI j &&& (b &&& (-b)) = 0)) && (decide (wWho (fun d => s (11 + d) 0) (fun d => s (11 + d) 1) (fun d => s (11 + d) 2) (s 9 3 ||| s 9 4) (s 9 0) (nI j) N = 0) && decide (wWho (fun d => s (11 + d) 0) (fun d => s (11 + d) 1) (fun d => s (11 + d) 2) (s 9 3 ||| s 9 4) (s 9 0) (b &&& (nI j ^^^ (-1))) N = 0))) m j = r → Zf X B mX11_tied s t 29 [(3, .int (nI j)), (2, .int (b &&& (-b))), (0, .ref (B.1 + 0)), (1, .int b)] [] := by
  intro m
  induction m with
  | zero =>
    intro j hj hr
    refine z_iload_n C dX11_tied_29 0 rfl rfl ?_
    refine z_iload_n C dX11_tied_30 3 rfl rfl ?_
    refine z_icmp_ge C 102 dX11_tied_31 (by decide) (fun _ => ?_) (fun hbr => absurd (by rw [eb]; exact nI_le (by omega) (by omega)) hbr)
    refine z_iconst C dX11_tied_102 ki_m1 ?_
    refine z_iret C E rfl dX11_tied_103 rfl (Nat.le_refl _) ⟨by rw [← hr]; rfl, rfl⟩
  | succ m ih =>
    intro j hj hr
    refine z_iload_n C dX11_tied_29 0 rfl rfl ?_
    refine z_iload_n C dX11_tied_30 3 rfl rfl ?_
    refine z_icmp_ge C 102 dX11_tied_31 (by decide) (fun hbr => absurd hbr (by rw [eb]; exact nI_ge (by omega) (by omega))) (fun _ => ?_)
    refine z_iload_n C dX11_tied_34 0 rfl rfl ?_
    refine z_iload_n C dX11_tied_35 3 rfl rfl ?_
    refine z_iconst C dX11_tied_36 ki_m1 ?_
    refine z_ixor C dX11_tied_37 ?_
    refine z_iand C dX11_tied_38 ?_
    refine z_if_ne C 52 dX11_tied_39 (by decide) (fun h39 => ?_) (fun h39 => ?_)
    · refine z_iconst C dX11_tied_52 ki_0 ?_
      refine z_istore C [(4, .int 0), (3, .int (nI j)), (2, .int (b &&& (-b))), (0, .ref (B.1 + 0)), (1, .int b)] dX11_tied_53 (by decide) rfl ?_
      refine z_iload C dX11_tied_55 0 rfl ?_
      refine z_if_eq C 96 dX11_tied_57 (by decide) (fun _ => ?_) (fun hbr => absurd (by decide) hbr)
      refine z_iinc C [(3, .int (nI (j + 1))), (4, .int 0), (2, .int (b &&& (-b))), (0, .ref (B.1 + 0)), (1, .int b)] dX11_tied_96 1 rfl (nI_inc j) (by decide) rfl ?_
      refine z_goto C 29 dX11_tied_99 (by decide) ?_
      exact z_lv [0, 2, 3, 4] rfl (ih (j + 1) (by omega) (by rw [← hr, wFind, if_neg]; intro q; simp only [Bool.and_eq_true, decide_eq_true_eq] at q; exact h39 q.1.1))
    · refine z_iload_n C dX11_tied_42 0 rfl rfl ?_
      refine z_iload_n C dX11_tied_43 1 rfl rfl ?_
      refine z_iand C dX11_tied_44 ?_
      refine z_if_eq C 52 dX11_tied_45 (by decide) (fun h45 => ?_) (fun h45 => ?_)
      · refine z_iconst C dX11_tied_52 ki_0 ?_
        refine z_istore C [(4, .int 0), (3, .int (nI j)), (2, .int (b &&& (-b))), (0, .ref (B.1 + 0)), (1, .int b)] dX11_tied_53 (by decide) rfl ?_
        refine z_iload C dX11_tied_55 0 rfl ?_
        refine z_if_eq C 96 dX11_tied_57 (by decide) (fun _ => ?_) (fun hbr => absurd (by decide) hbr)
        refine z_iinc C [(3, .int (nI (j + 1))), (4, .int 0), (2, .int (b &&& (-b))), (0, .ref (B.1 + 0)), (1, .int b)] dX11_tied_96 1 rfl (nI_inc j) (by decide) rfl ?_
        refine z_goto C 29 dX11_tied_99 (by decide) ?_
        exact z_lv [0, 2, 3, 4] rfl (ih (j + 1) (by omega) (by rw [← hr, wFind, if_neg]; intro q; simp only [Bool.and_eq_true, decide_eq_true_eq] at q; exact q.1.2 h45))
      · refine z_iconst C dX11_tied_48 ki_1 ?_
        refine z_goto C 53 dX11_tied_49 (by decide) ?_
        refine z_istore C [(4, .int 1), (3, .int (nI j)), (2, .int (b &&& (-b))), (0, .ref (B.1 + 0)), (1, .int b)] dX11_tied_53 (by decide) rfl ?_
        refine z_iload C dX11_tied_55 0 rfl ?_
        refine z_if_eq C 96 dX11_tied_57 (by decide) (fun hbr => absurd hbr (by decide)) (fun _ => ?_)
        refine z_aload_n C dX11_tied_60 3 rfl rfl ?_
        refine z_aload_n C dX11_tied_61 3 rfl rfl ?_
        refine f_get11 C 1 (v := .ref (B.1 + 8)) (by decide) tw_226 rfl zk_0 zb_0 rfl dX11_tied_62 ?_
        refine f_get1 C 0 (v := .ref (B.1 + 9)) (by decide) tw_168 rfl zk_8 zb_8 rfl dX11_tied_65 ?_
        refine z_iload_n C dX11_tied_68 1 rfl rfl ?_
        refine f_callVr C hl (As := [.ref (B.1 + 9), .int (nI j)]) (rest := []) (c_X11_stoppers l B s t 9 zk_9 zb_9 (nI j) (r8_of (by omega)) N hN h6 hK) zb_0 (zg_11 zk_0) rfl (zCB (nA := 2) C rfl rfl tw_473 tw_1 tw_470 (by decide +kernel) ⟨Nat.le_of_ble_eq_true rfl, Nat.le_of_ble_eq_true rfl⟩) tw_472 tp_10 rfl rfl (Nat.le_of_ble_eq_true rfl) dX11_tied_69 (Nat.zero_le _) ?_
        refine z_if_ne C 96 dX11_tied_72 (by decide) (fun h72 => ?_) (fun h72 => ?_)
        · refine z_iinc C [(3, .int (nI (j + 1))), (4, .int 1), (2, .int (b &&& (-b))), (0, .ref (B.1 + 0)), (1, .int b)] dX11_tied_96 1 rfl (nI_inc j) (by decide) rfl ?_
          refine z_goto C 29 dX11_tied_99 (by decide) ?_
          exact z_lv [0, 2, 3, 4] rfl (ih (j + 1) (by omega) (by rw [← hr, wFind, if_neg]; intro q; simp only [Bool.and_eq_true, decide_eq_true_eq] at q; exact h72 q.2.1))
        · refine z_aload_n C dX11_tied_75 3 rfl rfl ?_
          refine z_aload_n C dX11_tied_76 3 rfl rfl ?_
          refine f_get11 C 1 (v := .ref (B.1 + 8)) (by decide) tw_226 rfl zk_0 zb_0 rfl dX11_tied_77 ?_
          refine f_get1 C 0 (v := .ref (B.1 + 9)) (by decide) tw_168 rfl zk_8 zb_8 rfl dX11_tied_80 ?_
          refine z_iload_n C dX11_tied_83 4 rfl rfl ?_
          refine z_iload_n C dX11_tied_84 1 rfl rfl ?_
          refine z_iconst C dX11_tied_85 ki_m1 ?_
          refine z_ixor C dX11_tied_86 ?_
          refine z_iand C dX11_tied_87 ?_
          refine f_callVr C hl (As := [.ref (B.1 + 9), .int (b &&& ((nI j) ^^^ (-1)))]) (rest := []) (c_X11_stoppers l B s t 9 zk_9 zb_9 (b &&& ((nI j) ^^^ (-1))) (r8_and (by rw [eb]; exact r8_of hbn)) N hN h6 hK) zb_0 (zg_11 zk_0) rfl (zCB (nA := 2) C rfl rfl tw_473 tw_1 tw_470 (by decide +kernel) ⟨Nat.le_of_ble_eq_true rfl, Nat.le_of_ble_eq_true rfl⟩) tw_472 tp_10 rfl rfl (Nat.le_of_ble_eq_true rfl) dX11_tied_88 (Nat.zero_le _) ?_
          refine z_if_ne C 96 dX11_tied_91 (by decide) (fun h91 => ?_) (fun h91 => ?_)
          · refine z_iinc C [(3, .int (nI (j + 1))), (4, .int 1), (2, .int (b &&& (-b))), (0, .ref (B.1 + 0)), (1, .int b)] dX11_tied_96 1 rfl (nI_inc j) (by decide) rfl ?_
            refine z_goto C 29 dX11_tied_99 (by decide) ?_
            exact z_lv [0, 2, 3, 4] rfl (ih (j + 1) (by omega) (by rw [← hr, wFind, if_neg]; intro q; simp only [Bool.and_eq_true, decide_eq_true_eq] at q; exact h91 q.2.2))
          · refine z_iload_n C dX11_tied_94 1 rfl rfl ?_
            refine z_iret C E rfl dX11_tied_95 rfl (Nat.le_refl _) ⟨by rw [← hr, wFind, if_pos (by simp only [Bool.and_eq_true, decide_eq_true_eq]; exact ⟨⟨h39, h45⟩, h72, h91⟩)], rfl⟩
set_option maxRecDepth 100000 in
set_option maxHeartbeats 4000000 in
theorem c_X11_tied_ok (l : Launch) (B : zB) (s : zS) (t : zL) (b : Int32) (g1 : wIn b 255 = true) (g2 : 2 ≤ wPop b) (ln : Nat) (eln : b &&& (-b) = nI ln) (bn : Nat) (hbn : bn < 256) (eb : b = nI bn) (hll : ln ≤ bn) (N : Nat) (hN : s 8 4 = nI N) (h6 : N ≤ 6) (hK : ∀ d, d < N → ∃ c, c < 6 ∧ s (11 + d) 0 = nI c) : zD l B mX11_tied s t [.ref (B.1 + 0), .int b] (some (.int (wFind (fun j => (decide (nI j &&& (b ^^^ (-1)) = 0) && decide (¬ nI j &&& (b &&& (-b)) = 0)) && (decide (wWho (fun d => s (11 + d) 0) (fun d => s (11 + d) 1) (fun d => s (11 + d) 2) (s 9 3 ||| s 9 4) (s 9 0) (nI j) N = 0) && decide (wWho (fun d => s (11 + d) 0) (fun d => s (11 + d) 1) (fun d => s (11 + d) 2) (s 9 3 ||| s 9 4) (s 9 0) (b &&& (nI j ^^^ (-1))) N = 0))) (bn - ln) ln))) s t := by
  refine z_met (by decide) (Nat.le_of_ble_eq_true rfl) ?_
  intro X hl C E hnm
  show Zf X B mX11_tied s t 0 [(0, .ref (B.1 + 0)), (1, .int b)] []
  refine z_iload_n C dX11_tied_0 1 rfl rfl ?_
  refine f_callSr C hl (As := [.int b]) (rest := []) (c_X11_isBundle l B s t b) (zCB (nA := 1) C rfl rfl tw_287 tw_1 tw_285 (by decide +kernel) ⟨Nat.le_of_ble_eq_true rfl, Nat.le_of_ble_eq_true rfl⟩) tw_286 rfl rfl (Nat.le_of_ble_eq_true rfl) dX11_tied_1 (Nat.zero_le _) ?_
  refine z_ifb_eq C 15 dX11_tied_4 (by decide) (fun hbr => absurd hbr (by rw [g1]; decide)) (fun _ => ?_)
  refine z_iload_n C dX11_tied_7 1 rfl rfl ?_
  refine f_callSr C hl (As := [.int b]) (rest := []) (c_J6_bitCount_0f7a4 l B s t b (wIn_r8 g1)) (zCB (nA := 1) C rfl rfl tw_486 tw_19 tw_484 (by decide +kernel) ⟨Nat.le_of_ble_eq_true rfl, Nat.le_of_ble_eq_true rfl⟩) tw_485 rfl rfl (Nat.le_of_ble_eq_true rfl) dX11_tied_8 (Nat.zero_le _) ?_
  refine z_iconst C dX11_tied_11 ki_2 ?_
  refine z_icmp_ge C 22 dX11_tied_12 (by decide) (fun _ => ?_) (fun hbr => absurd g2 hbr)
  refine z_iload_n C dX11_tied_22 1 rfl rfl ?_
  refine z_iload_n C dX11_tied_23 1 rfl rfl ?_
  refine z_ineg C dX11_tied_24 ?_
  refine z_iand C dX11_tied_25 ?_
  refine z_istore_n C [(2, .int (b &&& (-b))), (0, .ref (B.1 + 0)), (1, .int b)] dX11_tied_26 rfl (by decide) rfl ?_
  refine z_iload_n C dX11_tied_27 0 rfl rfl ?_
  refine f_topi eln ?_
  refine z_istore_n C [(3, .int (nI ln)), (2, .int (b &&& (-b))), (0, .ref (B.1 + 0)), (1, .int b)] dX11_tied_28 rfl (by decide) rfl ?_
  exact z_lv [0, 1, 2, 3] rfl (l_X11_tied hl C b bn hbn eb N hN h6 hK _ E (bn - ln) ln (by omega) rfl)
abbrev mX11_alone : zM := (yX11_alone, cX11_alone, 3, (some .int), { frames := 5, cells := 0, slots := 0, locals := 122 })
theorem wCol_y {p : Nat → Bool} {n : Nat} {a : Int32} (ha : a = wCol p n) (h : p n = true) : a ||| wBit (nI n) = wCol p (n + 1) := by rw [wCol, if_pos h, ha]
theorem wCol_n {p : Nat → Bool} {n : Nat} {a : Int32} (ha : a = wCol p n) (h : p n = false) : a = wCol p (n + 1) := by rw [wCol, if_neg (by rw [h]; decide), ha]
set_option maxRecDepth 100000 in
set_option maxHeartbeats 4000000 in
theorem l_X11_alone {l : Launch} {B : zB} {s : zS} {t : zL} {X : zX} (hl : X.2.1 = l) (C : zC X B mX11_alone) (N : Nat) (hN : s 8 4 = nI N) (h6 : N ≤ 6) (hK : ∀ d, d < N → ∃ c, c < 6 ∧ s (11 + d) 0 = nI c) (E : zE X B mX11_alone 124 0 0 (zR B (some (.int (wCol (fun l => decide (wWho (fun d => s (11 + d) 0) (fun d => s (11 + d) 1) (fun d => s (11 + d) 2) (s 9 3 ||| s 9 4) (s 9 0) (wBit (nI l)) N = 0)) 8))) s t)) : ∀ (m : Nat) (i : Nat) (a : Int32), i + m = 8 → a = wCol (fun l => decide (wWho (fun d => s (11 + d) 0) (fun d => s (11 + d) 1) (fun d => s (11 + d) 2) (s 9 3 ||| s 9 4) (s 9 0) (wBit (nI l)) N = 0)) i → Zf X B mX11_alone s t 4 [(2, .int (nI i)), (1, .int a), (0, .ref (B.1 + 0))] [] := by
  intro m
  induction m with
  | zero =>
    intro i a hi ha
    obtain rfl : i = 8 := by omega
    refine z_iload_n C dX11_alone_4 0 rfl rfl ?_
    refine z_bipush C dX11_alone_5 kb_8 ?_
    refine z_icmp_ge C 41 dX11_alone_7 (by decide) (fun _ => ?_) (fun hbr => absurd (by decide) hbr)
    refine z_iload_n C dX11_alone_41 1 rfl rfl ?_
    refine z_iret C E rfl dX11_alone_42 rfl (Nat.le_refl _) ⟨by rw [ha], rfl⟩
  | succ m ih =>
    intro i a hi0 ha
    have hi : i < 8 := by omega
    refine z_iload_n C dX11_alone_4 0 rfl rfl ?_
    refine z_bipush C dX11_alone_5 kb_8 ?_
    refine z_icmp_ge C 41 dX11_alone_7 (by decide) (fun hbr => absurd hbr (show ¬ nI 8 ≤ nI i from nI_ge hi (by decide))) (fun _ => ?_)
    refine z_aload_n C dX11_alone_10 2 rfl rfl ?_
    refine z_aload_n C dX11_alone_11 2 rfl rfl ?_
    refine f_get11 C 1 (v := .ref (B.1 + 8)) (by decide) tw_226 rfl zk_0 zb_0 rfl dX11_alone_12 ?_
    refine f_get1 C 0 (v := .ref (B.1 + 9)) (by decide) tw_168 rfl zk_8 zb_8 rfl dX11_alone_15 ?_
    refine z_iload_n C dX11_alone_18 0 rfl rfl ?_
    refine f_callSr C hl (As := [.int (nI i)]) (rest := [.ref (B.1 + 9), .ref (B.1 + 0)]) (c_X11_bitOf l B s t (nI i)) (zCB (nA := 1) C rfl rfl tw_431 tw_1 tw_475 (by decide +kernel) ⟨Nat.le_of_ble_eq_true rfl, Nat.le_of_ble_eq_true rfl⟩) tw_430 rfl rfl (Nat.le_of_ble_eq_true rfl) dX11_alone_19 (Nat.zero_le _) ?_
    refine f_callVr C hl (As := [.ref (B.1 + 9), .int (wBit (nI i))]) (rest := []) (c_X11_stoppers l B s t 9 zk_9 zb_9 (wBit (nI i)) (wBit_r hi) N hN h6 hK) zb_0 (zg_11 zk_0) rfl (zCB (nA := 2) C rfl rfl tw_473 tw_1 tw_470 (by decide +kernel) ⟨Nat.le_of_ble_eq_true rfl, Nat.le_of_ble_eq_true rfl⟩) tw_472 tp_10 rfl rfl (Nat.le_of_ble_eq_true rfl) dX11_alone_22 (Nat.zero_le _) ?_
    refine z_if_ne C 35 dX11_alone_25 (by decide) (fun h25 => ?_) (fun h25 => ?_)
    · refine z_iinc C [(2, .int (nI (i + 1))), (1, .int a), (0, .ref (B.1 + 0))] dX11_alone_35 0 rfl (nI_inc i) (by decide) rfl ?_
      refine z_goto C 4 dX11_alone_38 (by decide) ?_
      exact z_lv [0, 1, 2] rfl (ih (i + 1) _ (by omega) (wCol_n ha (decide_eq_false h25)))
    · refine z_iload_n C dX11_alone_28 1 rfl rfl ?_
      refine z_iload_n C dX11_alone_29 0 rfl rfl ?_
      refine f_callSr C hl (As := [.int (nI i)]) (rest := [.int a]) (c_X11_bitOf l B s t (nI i)) (zCB (nA := 1) C rfl rfl tw_431 tw_1 tw_475 (by decide +kernel) ⟨Nat.le_of_ble_eq_true rfl, Nat.le_of_ble_eq_true rfl⟩) tw_430 rfl rfl (Nat.le_of_ble_eq_true rfl) dX11_alone_30 (Nat.zero_le _) ?_
      refine z_ior C dX11_alone_33 ?_
      refine z_istore_n C [(1, .int (a ||| (wBit (nI i)))), (2, .int (nI i)), (0, .ref (B.1 + 0))] dX11_alone_34 rfl (by decide) rfl ?_
      refine z_iinc C [(2, .int (nI (i + 1))), (1, .int (a ||| (wBit (nI i)))), (0, .ref (B.1 + 0))] dX11_alone_35 1 rfl (nI_inc i) (by decide) rfl ?_
      refine z_goto C 4 dX11_alone_38 (by decide) ?_
      exact z_lv [0, 1, 2] rfl (ih (i + 1) _ (by omega) (wCol_y ha (decide_eq_true h25)))
set_option maxRecDepth 100000 in
set_option maxHeartbeats 4000000 in
theorem c_X11_alone (l : Launch) (B : zB) (s : zS) (t : zL) (N : Nat) (hN : s 8 4 = nI N) (h6 : N ≤ 6) (hK : ∀ d, d < N → ∃ c, c < 6 ∧ s (11 + d) 0 = nI c) : zD l B mX11_alone s t [.ref (B.1 + 0)] (some (.int (wCol (fun l => decide (wWho (fun d => s (11 + d) 0) (fun d => s (11 + d) 1) (fun d => s (11 + d) 2) (s 9 3 ||| s 9 4) (s 9 0) (wBit (nI l)) N = 0)) 8))) s t := by
  refine z_met (by decide) (Nat.le_of_ble_eq_true rfl) ?_
  intro X hl C E hnm
  show Zf X B mX11_alone s t 0 [(0, .ref (B.1 + 0))] []
  refine z_iconst C dX11_alone_0 ki_0 ?_
  refine z_istore_n C [(1, .int 0), (0, .ref (B.1 + 0))] dX11_alone_1 rfl (by decide) rfl ?_
  refine z_iconst C dX11_alone_2 ki_0 ?_
  refine z_istore_n C [(2, .int 0), (1, .int 0), (0, .ref (B.1 + 0))] dX11_alone_3 rfl (by decide) rfl ?_
  exact z_lv [0, 1, 2] rfl (l_X11_alone hl C N hN h6 hK E 8 0 0 (by omega) rfl)
abbrev mX11_league : zM := (yX11_league, cX11_league, 3, (some .int), { frames := 4, cells := 0, slots := 0, locals := 90 })
set_option maxRecDepth 100000 in
set_option maxHeartbeats 4000000 in
theorem l_X11_league {l : Launch} {B : zB} {s : zS} {t : zL} {X : zX} (hl : X.2.1 = l) (C : zC X B mX11_league) (N : Nat) (hN : s 8 4 = nI N) (h6 : N ≤ 6) (hK : ∀ d, d < N → ∃ c, c < 6 ∧ s (11 + d) 0 = nI c) (E : zE X B mX11_league 124 0 0 (zR B (some (.int (wCol (fun l => decide (¬ 2 * (wGlad (fun d => s (11 + d) 0) (fun d => s (11 + d) 1) (fun d => s (11 + d) 2) (wBit (nI l)) N) ≤ s 8 4)) 8))) s t)) : ∀ (m : Nat) (i : Nat) (a : Int32), i + m = 8 → a = wCol (fun l => decide (¬ 2 * (wGlad (fun d => s (11 + d) 0) (fun d => s (11 + d) 1) (fun d => s (11 + d) 2) (wBit (nI l)) N) ≤ s 8 4)) i → Zf X B mX11_league s t 4 [(2, .int (nI i)), (1, .int a), (0, .ref (B.1 + 0))] [] := by
  intro m
  induction m with
  | zero =>
    intro i a hi ha
    obtain rfl : i = 8 := by omega
    refine z_iload_n C dX11_league_4 0 rfl rfl ?_
    refine z_bipush C dX11_league_5 kb_8 ?_
    refine z_icmp_ge C 43 dX11_league_7 (by decide) (fun _ => ?_) (fun hbr => absurd (by decide) hbr)
    refine z_iload_n C dX11_league_43 1 rfl rfl ?_
    refine z_iret C E rfl dX11_league_44 rfl (Nat.le_refl _) ⟨by rw [ha], rfl⟩
  | succ m ih =>
    intro i a hi0 ha
    have hi : i < 8 := by omega
    refine z_iload_n C dX11_league_4 0 rfl rfl ?_
    refine z_bipush C dX11_league_5 kb_8 ?_
    refine z_icmp_ge C 43 dX11_league_7 (by decide) (fun hbr => absurd hbr (show ¬ nI 8 ≤ nI i from nI_ge hi (by decide))) (fun _ => ?_)
    refine z_iconst C dX11_league_10 ki_2 ?_
    refine z_aload_n C dX11_league_11 2 rfl rfl ?_
    refine z_iload_n C dX11_league_12 0 rfl rfl ?_
    refine f_callSr C hl (As := [.int (nI i)]) (rest := [.ref (B.1 + 0), .int 2]) (c_X11_bitOf l B s t (nI i)) (zCB (nA := 1) C rfl rfl tw_431 tw_1 tw_475 (by decide +kernel) ⟨Nat.le_of_ble_eq_true rfl, Nat.le_of_ble_eq_true rfl⟩) tw_430 rfl rfl (Nat.le_of_ble_eq_true rfl) dX11_league_13 (Nat.zero_le _) ?_
    refine f_callVr C hl (As := [.int (wBit (nI i))]) (rest := [.int 2]) (c_X11_gladOf l B s t (wBit (nI i)) (wBit_r hi) N hN h6 hK) zb_0 (zg_11 zk_0) rfl (zCB (nA := 1) C rfl rfl tw_624 tw_1 tw_621 (by decide +kernel) ⟨Nat.le_of_ble_eq_true rfl, Nat.le_of_ble_eq_true rfl⟩) tw_623 tp_17 rfl rfl (Nat.le_of_ble_eq_true rfl) dX11_league_16 (Nat.zero_le _) ?_
    refine z_imul C dX11_league_19 ?_
    refine z_aload_n C dX11_league_20 2 rfl rfl ?_
    refine f_get11 C 1 (v := .ref (B.1 + 8)) (by decide) tw_226 rfl zk_0 zb_0 rfl dX11_league_21 ?_
    refine f_get1 C 4 (v := .int (s 8 4)) (by decide) tw_173 rfl zk_8 zb_8 rfl dX11_league_24 ?_
    refine z_icmp_le C 37 dX11_league_27 (by decide) (fun h27 => ?_) (fun h27 => ?_)
    · refine z_iinc C [(2, .int (nI (i + 1))), (1, .int a), (0, .ref (B.1 + 0))] dX11_league_37 0 rfl (nI_inc i) (by decide) rfl ?_
      refine z_goto C 4 dX11_league_40 (by decide) ?_
      exact z_lv [0, 1, 2] rfl (ih (i + 1) _ (by omega) (wCol_n ha (decide_eq_false (fun q => q h27))))
    · refine z_iload_n C dX11_league_30 1 rfl rfl ?_
      refine z_iload_n C dX11_league_31 0 rfl rfl ?_
      refine f_callSr C hl (As := [.int (nI i)]) (rest := [.int a]) (c_X11_bitOf l B s t (nI i)) (zCB (nA := 1) C rfl rfl tw_431 tw_1 tw_475 (by decide +kernel) ⟨Nat.le_of_ble_eq_true rfl, Nat.le_of_ble_eq_true rfl⟩) tw_430 rfl rfl (Nat.le_of_ble_eq_true rfl) dX11_league_32 (Nat.zero_le _) ?_
      refine z_ior C dX11_league_35 ?_
      refine z_istore_n C [(1, .int (a ||| (wBit (nI i)))), (2, .int (nI i)), (0, .ref (B.1 + 0))] dX11_league_36 rfl (by decide) rfl ?_
      refine z_iinc C [(2, .int (nI (i + 1))), (1, .int (a ||| (wBit (nI i)))), (0, .ref (B.1 + 0))] dX11_league_37 1 rfl (nI_inc i) (by decide) rfl ?_
      refine z_goto C 4 dX11_league_40 (by decide) ?_
      exact z_lv [0, 1, 2] rfl (ih (i + 1) _ (by omega) (wCol_y ha (decide_eq_true h27)))
set_option maxRecDepth 100000 in
set_option maxHeartbeats 4000000 in
theorem c_X11_league (l : Launch) (B : zB) (s : zS) (t : zL) (N : Nat) (hN : s 8 4 = nI N) (h6 : N ≤ 6) (hK : ∀ d, d < N → ∃ c, c < 6 ∧ s (11 + d) 0 = nI c) : zD l B mX11_league s t [.ref (B.1 + 0)] (some (.int (wCol (fun l => decide (¬ 2 * (wGlad (fun d => s (11 + d) 0) (fun d => s (11 + d) 1) (fun d => s (11 + d) 2) (wBit (nI l)) N) ≤ s 8 4)) 8))) s t := by
  refine z_met (by decide) (Nat.le_of_ble_eq_true rfl) ?_
  intro X hl C E hnm
  show Zf X B mX11_league s t 0 [(0, .ref (B.1 + 0))] []
  refine z_iconst C dX11_league_0 ki_0 ?_
  refine z_istore_n C [(1, .int 0), (0, .ref (B.1 + 0))] dX11_league_1 rfl (by decide) rfl ?_
  refine z_iconst C dX11_league_2 ki_0 ?_
  refine z_istore_n C [(2, .int 0), (1, .int 0), (0, .ref (B.1 + 0))] dX11_league_3 rfl (by decide) rfl ?_
  exact z_lv [0, 1, 2] rfl (l_X11_league hl C N hN h6 hK E 8 0 0 (by omega) rfl)
abbrev mX11_courts : zM := (yX11_courts, cX11_courts, 6, (some .int), { frames := 5, cells := 0, slots := 0, locals := 122 })
set_option maxRecDepth 100000 in
set_option maxHeartbeats 4000000 in
theorem c_X11_courts_bad (l : Launch) (B : zB) (s : zS) (t : zL) (b : Int32) (g : wIn b 255 = false) : zD l B mX11_courts s t [.ref (B.1 + 0), .int b] (some (.int (-2))) (zu s 0 9 (s 0 9 + 1)) t := by
  refine z_met (by decide) (Nat.le_of_ble_eq_true rfl) ?_
  intro X hl C E hnm
  show Zf X B mX11_courts s t 0 [(0, .ref (B.1 + 0)), (1, .int b)] []
  refine z_iload_n C dX11_courts_0 1 rfl rfl ?_
  refine f_callSr C hl (As := [.int b]) (rest := []) (c_X11_isBundle l B s t b) (zCB (nA := 1) C rfl rfl tw_287 tw_1 tw_285 (by decide +kernel) ⟨Nat.le_of_ble_eq_true rfl, Nat.le_of_ble_eq_true rfl⟩) tw_286 rfl rfl (Nat.le_of_ble_eq_true rfl) dX11_courts_1 (Nat.zero_le _) ?_
  refine z_ifb_ne C 14 dX11_courts_4 (by decide) (fun hbr => absurd hbr (by rw [g]; decide)) (fun _ => ?_)
  refine z_aload_n C dX11_courts_7 0 rfl rfl ?_
  refine z_bipush C dX11_courts_8 kb_m2 ?_
  refine f_callVr C hl (As := [.int (-2)]) (rest := []) (c_X11_refuse2 l B s t) zb_0 (zg_11 zk_0) rfl (zCB (nA := 1) C rfl rfl tw_272 tw_1 tw_269 (by decide +kernel) ⟨Nat.le_of_ble_eq_true rfl, Nat.le_of_ble_eq_true rfl⟩) tw_271 tp_0 rfl rfl (Nat.le_of_ble_eq_true rfl) dX11_courts_10 (Nat.zero_le _) ?_
  refine z_iret C E rfl dX11_courts_13 rfl (Nat.le_refl _) ⟨rfl, rfl⟩
set_option maxRecDepth 100000 in
set_option maxHeartbeats 4000000 in
theorem l_X11_courts_in {l : Launch} {B : zB} {s : zS} {t : zL} {X : zX} (hl : X.2.1 = l) (C : zC X B mX11_courts) (b w : Int32) (N : Nat) (hN : s 8 4 = nI N) (h6 : N ≤ 6) (i : Nat) (kk : ∀ a : Int32, a = wAdd (fun i => wAdd (fun j => zi (wPair (s 9 4) b w (wOth i) (wOth j) (N + 1))) (N + 1)) (i + 1) → Zf X B mX11_courts s t 32 [(4, .int (wOth (i + 1))), (3, .int a), (0, .ref (B.1 + 0)), (1, .int b), (2, .int w)] []) (E : zE X B mX11_courts 124 0 0 (zR B (some (.int (wAdd (fun i => wAdd (fun j => zi (wPair (s 9 4) b w (wOth i) (wOth j) (N + 1))) (N + 1)) (N + 1)))) s t)) : ∀ (m : Nat) (j : Nat) (a : Int32), j + m = N + 1 → a = wAdd (fun i => wAdd (fun j => zi (wPair (s 9 4) b w (wOth i) (wOth j) (N + 1))) (N + 1)) i + wAdd (fun j => zi (wPair (s 9 4) b w (wOth i) (wOth j) (N + 1))) j → Zf X B mX11_courts s t 47 [(5, .int (wOth j)), (4, .int (wOth i)), (3, .int a), (0, .ref (B.1 + 0)), (1, .int b), (2, .int w)] [] := by
  intro m
  induction m with
  | zero =>
    intro j a hj ha
    refine z_iload C dX11_courts_47 0 rfl ?_
    refine z_aload_n C dX11_courts_49 3 rfl rfl ?_
    refine f_get11 C 1 (v := .ref (B.1 + 8)) (by decide) tw_226 rfl zk_0 zb_0 rfl dX11_courts_50 ?_
    refine f_get1 C 4 (v := .int (s 8 4)) (by decide) tw_173 rfl zk_8 zb_8 rfl dX11_courts_53 ?_
    refine f_topi hN ?_
    refine z_icmp_ge C 81 dX11_courts_56 (by decide) (fun _ => ?_) (fun hbr => absurd (wOth_ge (by omega) (by omega) (by omega)) hbr)
    refine z_iinc C [(4, .int (wOth (i + 1))), (5, .int (wOth j)), (3, .int a), (0, .ref (B.1 + 0)), (1, .int b), (2, .int w)] dX11_courts_81 1 rfl (wOth_inc i) (by decide) rfl ?_
    refine z_goto C 32 dX11_courts_84 (by decide) ?_
    exact z_lv [0, 2, 3, 4, 5] rfl (kk a (by rw [ha, show j = N + 1 by omega]; rfl))
  | succ m ih =>
    intro j a hj ha
    have hj2 : j < N + 1 := by omega
    refine z_iload C dX11_courts_47 0 rfl ?_
    refine z_aload_n C dX11_courts_49 3 rfl rfl ?_
    refine f_get11 C 1 (v := .ref (B.1 + 8)) (by decide) tw_226 rfl zk_0 zb_0 rfl dX11_courts_50 ?_
    refine f_get1 C 4 (v := .int (s 8 4)) (by decide) tw_173 rfl zk_8 zb_8 rfl dX11_courts_53 ?_
    refine f_topi hN ?_
    refine z_icmp_ge C 81 dX11_courts_56 (by decide) (fun hbr => absurd hbr (wOth_nge (by omega) hj2)) (fun _ => ?_)
    refine z_iload_n C dX11_courts_59 2 rfl rfl ?_
    refine z_aload_n C dX11_courts_60 3 rfl rfl ?_
    refine z_iload_n C dX11_courts_61 4 rfl rfl ?_
    refine z_iload_n C dX11_courts_62 5 rfl rfl ?_
    refine z_iload C dX11_courts_63 1 rfl ?_
    refine z_iload C dX11_courts_65 0 rfl ?_
    refine f_callVr C hl (As := [.int b, .int w, .int (wOth i), .int (wOth j)]) (rest := [.int a]) (c_X11_pairRests l B s t b w (wOth i) (wOth j) N hN h6) zb_0 (zg_11 zk_0) rfl (zCB (nA := 4) C rfl rfl tw_632 tw_1 tw_629 (by decide +kernel) ⟨Nat.le_of_ble_eq_true rfl, Nat.le_of_ble_eq_true rfl⟩) tw_631 tp_18 rfl rfl (Nat.le_of_ble_eq_true rfl) dX11_courts_67 (Nat.zero_le _) ?_
    refine f_callSr C hl (As := [.int (zi (wPair (s 9 4) b w (wOth i) (wOth j) (N + 1)))]) (rest := [.int a]) (c_X11_oneIf l B s t (wPair (s 9 4) b w (wOth i) (wOth j) (N + 1))) (zCB (nA := 1) C rfl rfl tw_576 tw_1 tw_574 (by decide +kernel) ⟨Nat.le_of_ble_eq_true rfl, Nat.le_of_ble_eq_true rfl⟩) tw_575 rfl rfl (Nat.le_of_ble_eq_true rfl) dX11_courts_70 (Nat.zero_le _) ?_
    refine z_iadd C dX11_courts_73 ?_
    refine z_istore_n C [(3, .int (a + (zi (wPair (s 9 4) b w (wOth i) (wOth j) (N + 1))))), (5, .int (wOth j)), (4, .int (wOth i)), (0, .ref (B.1 + 0)), (1, .int b), (2, .int w)] dX11_courts_74 rfl (by decide) rfl ?_
    refine z_iinc C [(5, .int (wOth (j + 1))), (3, .int (a + (zi (wPair (s 9 4) b w (wOth i) (wOth j) (N + 1))))), (4, .int (wOth i)), (0, .ref (B.1 + 0)), (1, .int b), (2, .int w)] dX11_courts_75 1 rfl (wOth_inc j) (by decide) rfl ?_
    refine z_goto C 47 dX11_courts_78 (by decide) ?_
    exact z_lv [0, 2, 1, 3, 4, 5] rfl (ih (j + 1) _ (by omega) (by rw [ha, wAdd, Int32.add_assoc]))
set_option maxRecDepth 100000 in
set_option maxHeartbeats 4000000 in
theorem l_X11_courts {l : Launch} {B : zB} {s : zS} {t : zL} {X : zX} (hl : X.2.1 = l) (C : zC X B mX11_courts) (b w : Int32) (N : Nat) (hN : s 8 4 = nI N) (h6 : N ≤ 6) (E : zE X B mX11_courts 124 0 0 (zR B (some (.int (wAdd (fun i => wAdd (fun j => zi (wPair (s 9 4) b w (wOth i) (wOth j) (N + 1))) (N + 1)) (N + 1)))) s t)) : ∀ (m : Nat) (i : Nat) (a : Int32), i + m = N + 1 → a = wAdd (fun i => wAdd (fun j => zi (wPair (s 9 4) b w (wOth i) (wOth j) (N + 1))) (N + 1)) i → Zf X B mX11_courts s t 32 [(4, .int (wOth i)), (3, .int a), (0, .ref (B.1 + 0)), (1, .int b), (2, .int w)] [] := by
  intro m
  induction m with
  | zero =>
    intro i a hi ha
    refine z_iload C dX11_courts_32 0 rfl ?_
    refine z_aload_n C dX11_courts_34 2 rfl rfl ?_
    refine f_get11 C 1 (v := .ref (B.1 + 8)) (by decide) tw_226 rfl zk_0 zb_0 rfl dX11_courts_35 ?_
    refine f_get1 C 4 (v := .int (s 8 4)) (by decide) tw_173 rfl zk_8 zb_8 rfl dX11_courts_38 ?_
    refine f_topi hN ?_
    refine z_icmp_ge C 87 dX11_courts_41 (by decide) (fun _ => ?_) (fun hbr => absurd (wOth_ge (by omega) (by omega) (by omega)) hbr)
    refine z_iload_n C dX11_courts_87 1 rfl rfl ?_
    refine z_iret C E rfl dX11_courts_88 rfl (Nat.le_refl _) ⟨by rw [ha, show i = N + 1 by omega], rfl⟩
  | succ m ih =>
    intro i a hi ha
    have hi2 : i < N + 1 := by omega
    refine z_iload C dX11_courts_32 0 rfl ?_
    refine z_aload_n C dX11_courts_34 2 rfl rfl ?_
    refine f_get11 C 1 (v := .ref (B.1 + 8)) (by decide) tw_226 rfl zk_0 zb_0 rfl dX11_courts_35 ?_
    refine f_get1 C 4 (v := .int (s 8 4)) (by decide) tw_173 rfl zk_8 zb_8 rfl dX11_courts_38 ?_
    refine f_topi hN ?_
    refine z_icmp_ge C 87 dX11_courts_41 (by decide) (fun hbr => absurd hbr (wOth_nge (by omega) hi2)) (fun _ => ?_)
    refine z_iconst C dX11_courts_44 ki_m1 ?_
    refine z_istore C [(5, .int (-1)), (4, .int (wOth i)), (3, .int a), (0, .ref (B.1 + 0)), (1, .int b), (2, .int w)] dX11_courts_45 (by decide) rfl ?_
    exact z_lv [0, 1, 2, 3, 4, 5] rfl (l_X11_courts_in hl C b w N hN h6 i (fun a h => ih (i + 1) a (by omega) h) E (N + 1) 0 a (by omega) (by rw [ha, wAdd, Int32.add_zero]))
set_option maxRecDepth 100000 in
set_option maxHeartbeats 4000000 in
theorem c_X11_courts_ok (l : Launch) (B : zB) (s : zS) (t : zL) (b : Int32) (g : wIn b 255 = true) (N : Nat) (hN : s 8 4 = nI N) (h6 : N ≤ 6) (hK : ∀ d, d < N → ∃ c, c < 6 ∧ s (11 + d) 0 = nI c) : zD l B mX11_courts s t [.ref (B.1 + 0), .int b] (some (.int (wAdd (fun i => wAdd (fun j => zi (wPair (s 9 4) b (wWho (fun d => s (11 + d) 0) (fun d => s (11 + d) 1) (fun d => s (11 + d) 2) (s 9 3 ||| s 9 4) (s 9 0) b N) (wOth i) (wOth j) (N + 1))) (N + 1)) (N + 1)))) s t := by
  refine z_met (by decide) (Nat.le_of_ble_eq_true rfl) ?_
  intro X hl C E hnm
  show Zf X B mX11_courts s t 0 [(0, .ref (B.1 + 0)), (1, .int b)] []
  refine z_iload_n C dX11_courts_0 1 rfl rfl ?_
  refine f_callSr C hl (As := [.int b]) (rest := []) (c_X11_isBundle l B s t b) (zCB (nA := 1) C rfl rfl tw_287 tw_1 tw_285 (by decide +kernel) ⟨Nat.le_of_ble_eq_true rfl, Nat.le_of_ble_eq_true rfl⟩) tw_286 rfl rfl (Nat.le_of_ble_eq_true rfl) dX11_courts_1 (Nat.zero_le _) ?_
  refine z_ifb_ne C 14 dX11_courts_4 (by decide) (fun _ => ?_) (fun hbr => Bool.noConfusion (show false = true from hbr.symm.trans g))
  refine z_aload_n C dX11_courts_14 0 rfl rfl ?_
  refine z_aload_n C dX11_courts_15 0 rfl rfl ?_
  refine f_get11 C 1 (v := .ref (B.1 + 8)) (by decide) tw_226 rfl zk_0 zb_0 rfl dX11_courts_16 ?_
  refine f_get1 C 0 (v := .ref (B.1 + 9)) (by decide) tw_168 rfl zk_8 zb_8 rfl dX11_courts_19 ?_
  refine z_iload_n C dX11_courts_22 1 rfl rfl ?_
  refine f_callVr C hl (As := [.ref (B.1 + 9), .int b]) (rest := []) (c_X11_stoppers l B s t 9 zk_9 zb_9 b (wIn_r8 g) N hN h6 hK) zb_0 (zg_11 zk_0) rfl (zCB (nA := 2) C rfl rfl tw_473 tw_1 tw_470 (by decide +kernel) ⟨Nat.le_of_ble_eq_true rfl, Nat.le_of_ble_eq_true rfl⟩) tw_472 tp_10 rfl rfl (Nat.le_of_ble_eq_true rfl) dX11_courts_23 (Nat.zero_le _) ?_
  refine z_istore_n C [(2, .int (wWho (fun d => s (11 + d) 0) (fun d => s (11 + d) 1) (fun d => s (11 + d) 2) (s 9 3 ||| s 9 4) (s 9 0) b N)), (0, .ref (B.1 + 0)), (1, .int b)] dX11_courts_26 rfl (by decide) rfl ?_
  refine z_iconst C dX11_courts_27 ki_0 ?_
  refine z_istore_n C [(3, .int 0), (2, .int (wWho (fun d => s (11 + d) 0) (fun d => s (11 + d) 1) (fun d => s (11 + d) 2) (s 9 3 ||| s 9 4) (s 9 0) b N)), (0, .ref (B.1 + 0)), (1, .int b)] dX11_courts_28 rfl (by decide) rfl ?_
  refine z_iconst C dX11_courts_29 ki_m1 ?_
  refine z_istore C [(4, .int (-1)), (3, .int 0), (2, .int (wWho (fun d => s (11 + d) 0) (fun d => s (11 + d) 1) (fun d => s (11 + d) 2) (s 9 3 ||| s 9 4) (s 9 0) b N)), (0, .ref (B.1 + 0)), (1, .int b)] dX11_courts_30 (by decide) rfl ?_
  exact z_lv [0, 1, 3, 4, 2] rfl (l_X11_courts hl C b (wWho (fun d => s (11 + d) 0) (fun d => s (11 + d) 1) (fun d => s (11 + d) 2) (s 9 3 ||| s 9 4) (s 9 0) b N) N hN h6 E (N + 1) 0 0 (by omega) rfl)
abbrev mX11_gone : zM := (yX11_gone, cX11_gone, 6, (some .int), { frames := 6, cells := 0, slots := 0, locals := 148 })
set_option maxRecDepth 100000 in
set_option maxHeartbeats 4000000 in
theorem c_X11_gone_bad (l : Launch) (B : zB) (s : zS) (t : zL) (w : Int32) (g : wIn w 1 = false) : zD l B mX11_gone s t [.ref (B.1 + 0), .int w] (some (.int (-2))) (zu s 0 9 (s 0 9 + 1)) t := by
  refine z_met (by decide) (Nat.le_of_ble_eq_true rfl) ?_
  intro X hl C E hnm
  show Zf X B mX11_gone s t 0 [(0, .ref (B.1 + 0)), (1, .int w)] []
  refine z_iload_n C dX11_gone_0 1 rfl rfl ?_
  refine z_iconst C dX11_gone_1 ki_1 ?_
  refine f_callSr C hl (As := [.int w, .int 1]) (rest := []) (c_X11_within l B s t w 1) (zCB (nA := 2) C rfl rfl tw_268 tw_1 tw_266 (by decide +kernel) ⟨Nat.le_of_ble_eq_true rfl, Nat.le_of_ble_eq_true rfl⟩) tw_267 rfl rfl (Nat.le_of_ble_eq_true rfl) dX11_gone_2 (Nat.zero_le _) ?_
  refine z_ifb_ne C 15 dX11_gone_5 (by decide) (fun hbr => absurd hbr (by rw [g]; decide)) (fun _ => ?_)
  refine z_aload_n C dX11_gone_8 0 rfl rfl ?_
  refine z_bipush C dX11_gone_9 kb_m2 ?_
  refine f_callVr C hl (As := [.int (-2)]) (rest := []) (c_X11_refuse2 l B s t) zb_0 (zg_11 zk_0) rfl (zCB (nA := 1) C rfl rfl tw_272 tw_1 tw_269 (by decide +kernel) ⟨Nat.le_of_ble_eq_true rfl, Nat.le_of_ble_eq_true rfl⟩) tw_271 tp_0 rfl rfl (Nat.le_of_ble_eq_true rfl) dX11_gone_11 (Nat.zero_le _) ?_
  refine z_iret C E rfl dX11_gone_14 rfl (Nat.le_refl _) ⟨rfl, rfl⟩
set_option maxRecDepth 100000 in
set_option maxHeartbeats 4000000 in
theorem l_X11_gone0 {l : Launch} {B : zB} {s : zS} {t : zL} {X : zX} (hl : X.2.1 = l) (C : zC X B mX11_gone) (N : Nat) (hN : s 8 4 = nI N) (h6 : N ≤ 6) (hK : ∀ d, d < N → ∃ c, c < 6 ∧ s (11 + d) 0 = nI c) (E : zE X B mX11_gone 124 0 0 (zR B (some (.int ((wGone (fun i => wPop (wBest (fun b => decide (wWho (fun d => s (11 + d) 0) (fun d => s (11 + d) 1) (fun d => s (11 + d) 2) (s 9 3 ||| s 9 4) (s 9 0) b N &&& ((wBit (nI i)) ^^^ (-1)) = 0) || decide (wSum (fun d => s (11 + d) 0) (fun d => s (11 + d) 3) (wWho (fun d => s (11 + d) 0) (fun d => s (11 + d) 1) (fun d => s (11 + d) 2) (s 9 3 ||| s 9 4) (s 9 0) b N &&& ((wBit (nI i)) ^^^ (-1))) N ≤ (-1))) (255 &&& ((s 9 1 ||| s 9 2) ^^^ (-1))) 255)) N).1))) s t)) : ∀ (m : Nat) (i : Nat) (a c : Int32), i + m = N → (a, c) = wGone (fun i => wPop (wBest (fun b => decide (wWho (fun d => s (11 + d) 0) (fun d => s (11 + d) 1) (fun d => s (11 + d) 2) (s 9 3 ||| s 9 4) (s 9 0) b N &&& ((wBit (nI i)) ^^^ (-1)) = 0) || decide (wSum (fun d => s (11 + d) 0) (fun d => s (11 + d) 3) (wWho (fun d => s (11 + d) 0) (fun d => s (11 + d) 1) (fun d => s (11 + d) 2) (s 9 3 ||| s 9 4) (s 9 0) b N &&& ((wBit (nI i)) ^^^ (-1))) N ≤ (-1))) (255 &&& ((s 9 1 ||| s 9 2) ^^^ (-1))) 255)) i → Zf X B mX11_gone s t 22 [(4, .int (nI i)), (3, .int c), (2, .int a), (0, .ref (B.1 + 0)), (1, .int 0)] [] := by
  intro m
  induction m with
  | zero =>
    intro i a c hi ha
    obtain rfl : i = N := by omega
    refine z_iload C dX11_gone_22 0 rfl ?_
    refine z_aload_n C dX11_gone_24 3 rfl rfl ?_
    refine f_get11 C 1 (v := .ref (B.1 + 8)) (by decide) tw_226 rfl zk_0 zb_0 rfl dX11_gone_25 ?_
    refine f_get1 C 4 (v := .int (s 8 4)) (by decide) tw_173 rfl zk_8 zb_8 rfl dX11_gone_28 ?_
    refine f_topi hN ?_
    refine z_icmp_ge C 67 dX11_gone_31 (by decide) (fun _ => ?_) (fun hbr => absurd (Int32.le_refl _) hbr)
    refine z_iload_n C dX11_gone_67 4 rfl rfl ?_
    refine z_if_ne C 75 dX11_gone_68 (by decide) (fun hbr => absurd (by decide) hbr) (fun _ => ?_)
    refine z_iload_n C dX11_gone_71 2 rfl rfl ?_
    refine z_goto C 76 dX11_gone_72 (by decide) ?_
    refine z_iret C E rfl dX11_gone_76 rfl (Nat.le_refl _) ⟨by rw [← ha], rfl⟩
  | succ m ih =>
    intro i a c hi0 ha
    have hi : i < N := by omega
    refine z_iload C dX11_gone_22 0 rfl ?_
    refine z_aload_n C dX11_gone_24 3 rfl rfl ?_
    refine f_get11 C 1 (v := .ref (B.1 + 8)) (by decide) tw_226 rfl zk_0 zb_0 rfl dX11_gone_25 ?_
    refine f_get1 C 4 (v := .int (s 8 4)) (by decide) tw_173 rfl zk_8 zb_8 rfl dX11_gone_28 ?_
    refine f_topi hN ?_
    refine z_icmp_ge C 67 dX11_gone_31 (by decide) (fun hbr => absurd hbr (nI_ge hi (by omega))) (fun _ => ?_)
    refine z_aload_n C dX11_gone_34 3 rfl rfl ?_
    refine z_iconst C dX11_gone_35 ki_m1 ?_
    refine z_iload C dX11_gone_36 0 rfl ?_
    refine f_callSr C hl (As := [.int (nI i)]) (rest := [.int (-1), .ref (B.1 + 0)]) (c_X11_bitOf l B s t (nI i)) (zCB (nA := 1) C rfl rfl tw_431 tw_1 tw_475 (by decide +kernel) ⟨Nat.le_of_ble_eq_true rfl, Nat.le_of_ble_eq_true rfl⟩) tw_430 rfl rfl (Nat.le_of_ble_eq_true rfl) dX11_gone_38 (Nat.zero_le _) ?_
    refine f_callVr C hl (As := [.int (-1), .int (wBit (nI i))]) (rest := []) (c_X11_bestBundle l B s t (-1) (wBit (nI i)) N hN h6 hK) zb_0 (zg_11 zk_0) rfl (zCB (nA := 2) C rfl rfl tw_600 tw_1 tw_597 (by decide +kernel) ⟨Nat.le_of_ble_eq_true rfl, Nat.le_of_ble_eq_true rfl⟩) tw_599 tp_15 rfl rfl (Nat.le_of_ble_eq_true rfl) dX11_gone_41 (Nat.zero_le _) ?_
    refine f_callSr C hl (As := [.int (wBest (fun b => decide (wWho (fun d => s (11 + d) 0) (fun d => s (11 + d) 1) (fun d => s (11 + d) 2) (s 9 3 ||| s 9 4) (s 9 0) b N &&& ((wBit (nI i)) ^^^ (-1)) = 0) || decide (wSum (fun d => s (11 + d) 0) (fun d => s (11 + d) 3) (wWho (fun d => s (11 + d) 0) (fun d => s (11 + d) 1) (fun d => s (11 + d) 2) (s 9 3 ||| s 9 4) (s 9 0) b N &&& ((wBit (nI i)) ^^^ (-1))) N ≤ (-1))) (255 &&& ((s 9 1 ||| s 9 2) ^^^ (-1))) 255)]) (rest := []) (c_J6_bitCount_0f7a4 l B s t (wBest (fun b => decide (wWho (fun d => s (11 + d) 0) (fun d => s (11 + d) 1) (fun d => s (11 + d) 2) (s 9 3 ||| s 9 4) (s 9 0) b N &&& ((wBit (nI i)) ^^^ (-1)) = 0) || decide (wSum (fun d => s (11 + d) 0) (fun d => s (11 + d) 3) (wWho (fun d => s (11 + d) 0) (fun d => s (11 + d) 1) (fun d => s (11 + d) 2) (s 9 3 ||| s 9 4) (s 9 0) b N &&& ((wBit (nI i)) ^^^ (-1))) N ≤ (-1))) (255 &&& ((s 9 1 ||| s 9 2) ^^^ (-1))) 255) (wBest_r8 _ _ _ (by decide))) (zCB (nA := 1) C rfl rfl tw_486 tw_19 tw_484 (by decide +kernel) ⟨Nat.le_of_ble_eq_true rfl, Nat.le_of_ble_eq_true rfl⟩) tw_485 rfl rfl (Nat.le_of_ble_eq_true rfl) dX11_gone_44 (Nat.zero_le _) ?_
    refine z_istore C [(5, .int (wPop (wBest (fun b => decide (wWho (fun d => s (11 + d) 0) (fun d => s (11 + d) 1) (fun d => s (11 + d) 2) (s 9 3 ||| s 9 4) (s 9 0) b N &&& ((wBit (nI i)) ^^^ (-1)) = 0) || decide (wSum (fun d => s (11 + d) 0) (fun d => s (11 + d) 3) (wWho (fun d => s (11 + d) 0) (fun d => s (11 + d) 1) (fun d => s (11 + d) 2) (s 9 3 ||| s 9 4) (s 9 0) b N &&& ((wBit (nI i)) ^^^ (-1))) N ≤ (-1))) (255 &&& ((s 9 1 ||| s 9 2) ^^^ (-1))) 255))), (4, .int (nI i)), (3, .int c), (2, .int a), (0, .ref (B.1 + 0)), (1, .int 0)] dX11_gone_47 (by decide) rfl ?_
    refine z_iload C dX11_gone_49 0 rfl ?_
    refine z_iload_n C dX11_gone_51 2 rfl rfl ?_
    refine z_icmp_le C 61 dX11_gone_52 (by decide) (fun h52 => ?_) (fun h52 => ?_)
    · refine z_iinc C [(4, .int (nI (i + 1))), (5, .int (wPop (wBest (fun b => decide (wWho (fun d => s (11 + d) 0) (fun d => s (11 + d) 1) (fun d => s (11 + d) 2) (s 9 3 ||| s 9 4) (s 9 0) b N &&& ((wBit (nI i)) ^^^ (-1)) = 0) || decide (wSum (fun d => s (11 + d) 0) (fun d => s (11 + d) 3) (wWho (fun d => s (11 + d) 0) (fun d => s (11 + d) 1) (fun d => s (11 + d) 2) (s 9 3 ||| s 9 4) (s 9 0) b N &&& ((wBit (nI i)) ^^^ (-1))) N ≤ (-1))) (255 &&& ((s 9 1 ||| s 9 2) ^^^ (-1))) 255))), (3, .int c), (2, .int a), (0, .ref (B.1 + 0)), (1, .int 0)] dX11_gone_61 1 rfl (nI_inc i) (by decide) rfl ?_
      refine z_goto C 22 dX11_gone_64 (by decide) ?_
      exact z_lv [0, 2, 3, 4, 5] rfl (ih (i + 1) _ _ (by omega) (by rw [wGone, if_pos (by rw [← ha]; exact h52)]; exact ha))
    · refine z_iload C dX11_gone_55 1 rfl ?_
      refine z_istore_n C [(2, .int (nI i)), (5, .int (wPop (wBest (fun b => decide (wWho (fun d => s (11 + d) 0) (fun d => s (11 + d) 1) (fun d => s (11 + d) 2) (s 9 3 ||| s 9 4) (s 9 0) b N &&& ((wBit (nI i)) ^^^ (-1)) = 0) || decide (wSum (fun d => s (11 + d) 0) (fun d => s (11 + d) 3) (wWho (fun d => s (11 + d) 0) (fun d => s (11 + d) 1) (fun d => s (11 + d) 2) (s 9 3 ||| s 9 4) (s 9 0) b N &&& ((wBit (nI i)) ^^^ (-1))) N ≤ (-1))) (255 &&& ((s 9 1 ||| s 9 2) ^^^ (-1))) 255))), (4, .int (nI i)), (3, .int c), (0, .ref (B.1 + 0)), (1, .int 0)] dX11_gone_57 rfl (by decide) rfl ?_
      refine z_iload C dX11_gone_58 1 rfl ?_
      refine z_istore_n C [(3, .int (wPop (wBest (fun b => decide (wWho (fun d => s (11 + d) 0) (fun d => s (11 + d) 1) (fun d => s (11 + d) 2) (s 9 3 ||| s 9 4) (s 9 0) b N &&& ((wBit (nI i)) ^^^ (-1)) = 0) || decide (wSum (fun d => s (11 + d) 0) (fun d => s (11 + d) 3) (wWho (fun d => s (11 + d) 0) (fun d => s (11 + d) 1) (fun d => s (11 + d) 2) (s 9 3 ||| s 9 4) (s 9 0) b N &&& ((wBit (nI i)) ^^^ (-1))) N ≤ (-1))) (255 &&& ((s 9 1 ||| s 9 2) ^^^ (-1))) 255))), (2, .int (nI i)), (5, .int (wPop (wBest (fun b => decide (wWho (fun d => s (11 + d) 0) (fun d => s (11 + d) 1) (fun d => s (11 + d) 2) (s 9 3 ||| s 9 4) (s 9 0) b N &&& ((wBit (nI i)) ^^^ (-1)) = 0) || decide (wSum (fun d => s (11 + d) 0) (fun d => s (11 + d) 3) (wWho (fun d => s (11 + d) 0) (fun d => s (11 + d) 1) (fun d => s (11 + d) 2) (s 9 3 ||| s 9 4) (s 9 0) b N &&& ((wBit (nI i)) ^^^ (-1))) N ≤ (-1))) (255 &&& ((s 9 1 ||| s 9 2) ^^^ (-1))) 255))), (4, .int (nI i)), (0, .ref (B.1 + 0)), (1, .int 0)] dX11_gone_60 rfl (by decide) rfl ?_
      refine z_iinc C [(4, .int (nI (i + 1))), (3, .int (wPop (wBest (fun b => decide (wWho (fun d => s (11 + d) 0) (fun d => s (11 + d) 1) (fun d => s (11 + d) 2) (s 9 3 ||| s 9 4) (s 9 0) b N &&& ((wBit (nI i)) ^^^ (-1)) = 0) || decide (wSum (fun d => s (11 + d) 0) (fun d => s (11 + d) 3) (wWho (fun d => s (11 + d) 0) (fun d => s (11 + d) 1) (fun d => s (11 + d) 2) (s 9 3 ||| s 9 4) (s 9 0) b N &&& ((wBit (nI i)) ^^^ (-1))) N ≤ (-1))) (255 &&& ((s 9 1 ||| s 9 2) ^^^ (-1))) 255))), (2, .int (nI i)), (5, .int (wPop (wBest (fun b => decide (wWho (fun d => s (11 + d) 0) (fun d => s (11 + d) 1) (fun d => s (11 + d) 2) (s 9 3 ||| s 9 4) (s 9 0) b N &&& ((wBit (nI i)) ^^^ (-1)) = 0) || decide (wSum (fun d => s (11 + d) 0) (fun d => s (11 + d) 3) (wWho (fun d => s (11 + d) 0) (fun d => s (11 + d) 1) (fun d => s (11 + d) 2) (s 9 3 ||| s 9 4) (s 9 0) b N &&& ((wBit (nI i)) ^^^ (-1))) N ≤ (-1))) (255 &&& ((s 9 1 ||| s 9 2) ^^^ (-1))) 255))), (0, .ref (B.1 + 0)), (1, .int 0)] dX11_gone_61 3 rfl (nI_inc i) (by decide) rfl ?_
      refine z_goto C 22 dX11_gone_64 (by decide) ?_
      exact z_lv [0, 1, 2, 4, 5] rfl (ih (i + 1) _ _ (by omega) (by rw [wGone, if_neg (by rw [← ha]; exact h52)]))
set_option maxRecDepth 100000 in
set_option maxHeartbeats 4000000 in
theorem c_X11_gone_0 (l : Launch) (B : zB) (s : zS) (t : zL) (N : Nat) (hN : s 8 4 = nI N) (h6 : N ≤ 6) (hK : ∀ d, d < N → ∃ c, c < 6 ∧ s (11 + d) 0 = nI c) : zD l B mX11_gone s t [.ref (B.1 + 0), .int 0] (some (.int ((wGone (fun i => wPop (wBest (fun b => decide (wWho (fun d => s (11 + d) 0) (fun d => s (11 + d) 1) (fun d => s (11 + d) 2) (s 9 3 ||| s 9 4) (s 9 0) b N &&& ((wBit (nI i)) ^^^ (-1)) = 0) || decide (wSum (fun d => s (11 + d) 0) (fun d => s (11 + d) 3) (wWho (fun d => s (11 + d) 0) (fun d => s (11 + d) 1) (fun d => s (11 + d) 2) (s 9 3 ||| s 9 4) (s 9 0) b N &&& ((wBit (nI i)) ^^^ (-1))) N ≤ (-1))) (255 &&& ((s 9 1 ||| s 9 2) ^^^ (-1))) 255)) N).1))) s t := by
  refine z_met (by decide) (Nat.le_of_ble_eq_true rfl) ?_
  intro X hl C E hnm
  show Zf X B mX11_gone s t 0 [(0, .ref (B.1 + 0)), (1, .int 0)] []
  refine z_iload_n C dX11_gone_0 1 rfl rfl ?_
  refine z_iconst C dX11_gone_1 ki_1 ?_
  refine f_callSr C hl (As := [.int 0, .int 1]) (rest := []) (c_X11_within l B s t 0 1) (zCB (nA := 2) C rfl rfl tw_268 tw_1 tw_266 (by decide +kernel) ⟨Nat.le_of_ble_eq_true rfl, Nat.le_of_ble_eq_true rfl⟩) tw_267 rfl rfl (Nat.le_of_ble_eq_true rfl) dX11_gone_2 (Nat.zero_le _) ?_
  refine z_ifb_ne C 15 dX11_gone_5 (by decide) (fun _ => ?_) (fun hbr => Bool.noConfusion (show false = true from hbr.symm.trans (by decide)))
  refine z_iconst C dX11_gone_15 ki_m1 ?_
  refine z_istore_n C [(2, .int (-1)), (0, .ref (B.1 + 0)), (1, .int 0)] dX11_gone_16 rfl (by decide) rfl ?_
  refine z_iconst C dX11_gone_17 ki_m1 ?_
  refine z_istore_n C [(3, .int (-1)), (2, .int (-1)), (0, .ref (B.1 + 0)), (1, .int 0)] dX11_gone_18 rfl (by decide) rfl ?_
  refine z_iconst C dX11_gone_19 ki_0 ?_
  refine z_istore C [(4, .int 0), (3, .int (-1)), (2, .int (-1)), (0, .ref (B.1 + 0)), (1, .int 0)] dX11_gone_20 (by decide) rfl ?_
  exact z_lv [0, 1, 2, 3, 4] rfl (l_X11_gone0 hl C N hN h6 hK E N 0 _ _ (by omega) rfl)
set_option maxRecDepth 100000 in
set_option maxHeartbeats 4000000 in
theorem l_X11_gone1 {l : Launch} {B : zB} {s : zS} {t : zL} {X : zX} (hl : X.2.1 = l) (C : zC X B mX11_gone) (N : Nat) (hN : s 8 4 = nI N) (h6 : N ≤ 6) (hK : ∀ d, d < N → ∃ c, c < 6 ∧ s (11 + d) 0 = nI c) (E : zE X B mX11_gone 124 0 0 (zR B (some (.int ((wGone (fun i => wPop (wBest (fun b => decide (wWho (fun d => s (11 + d) 0) (fun d => s (11 + d) 1) (fun d => s (11 + d) 2) (s 9 3 ||| s 9 4) (s 9 0) b N &&& ((wBit (nI i)) ^^^ (-1)) = 0) || decide (wSum (fun d => s (11 + d) 0) (fun d => s (11 + d) 3) (wWho (fun d => s (11 + d) 0) (fun d => s (11 + d) 1) (fun d => s (11 + d) 2) (s 9 3 ||| s 9 4) (s 9 0) b N &&& ((wBit (nI i)) ^^^ (-1))) N ≤ (-1))) (255 &&& ((s 9 1 ||| s 9 2) ^^^ (-1))) 255)) N).2))) s t)) : ∀ (m : Nat) (i : Nat) (a c : Int32), i + m = N → (a, c) = wGone (fun i => wPop (wBest (fun b => decide (wWho (fun d => s (11 + d) 0) (fun d => s (11 + d) 1) (fun d => s (11 + d) 2) (s 9 3 ||| s 9 4) (s 9 0) b N &&& ((wBit (nI i)) ^^^ (-1)) = 0) || decide (wSum (fun d => s (11 + d) 0) (fun d => s (11 + d) 3) (wWho (fun d => s (11 + d) 0) (fun d => s (11 + d) 1) (fun d => s (11 + d) 2) (s 9 3 ||| s 9 4) (s 9 0) b N &&& ((wBit (nI i)) ^^^ (-1))) N ≤ (-1))) (255 &&& ((s 9 1 ||| s 9 2) ^^^ (-1))) 255)) i → Zf X B mX11_gone s t 22 [(4, .int (nI i)), (3, .int c), (2, .int a), (0, .ref (B.1 + 0)), (1, .int 1)] [] := by
  intro m
  induction m with
  | zero =>
    intro i a c hi ha
    obtain rfl : i = N := by omega
    refine z_iload C dX11_gone_22 0 rfl ?_
    refine z_aload_n C dX11_gone_24 3 rfl rfl ?_
    refine f_get11 C 1 (v := .ref (B.1 + 8)) (by decide) tw_226 rfl zk_0 zb_0 rfl dX11_gone_25 ?_
    refine f_get1 C 4 (v := .int (s 8 4)) (by decide) tw_173 rfl zk_8 zb_8 rfl dX11_gone_28 ?_
    refine f_topi hN ?_
    refine z_icmp_ge C 67 dX11_gone_31 (by decide) (fun _ => ?_) (fun hbr => absurd (Int32.le_refl _) hbr)
    refine z_iload_n C dX11_gone_67 4 rfl rfl ?_
    refine z_if_ne C 75 dX11_gone_68 (by decide) (fun _ => ?_) (fun hbr => absurd hbr (by decide))
    refine z_iload_n C dX11_gone_75 1 rfl rfl ?_
    refine z_iret C E rfl dX11_gone_76 rfl (Nat.le_refl _) ⟨by rw [← ha], rfl⟩
  | succ m ih =>
    intro i a c hi0 ha
    have hi : i < N := by omega
    refine z_iload C dX11_gone_22 0 rfl ?_
    refine z_aload_n C dX11_gone_24 3 rfl rfl ?_
    refine f_get11 C 1 (v := .ref (B.1 + 8)) (by decide) tw_226 rfl zk_0 zb_0 rfl dX11_gone_25 ?_
    refine f_get1 C 4 (v := .int (s 8 4)) (by decide) tw_173 rfl zk_8 zb_8 rfl dX11_gone_28 ?_
    refine f_topi hN ?_
    refine z_icmp_ge C 67 dX11_gone_31 (by decide) (fun hbr => absurd hbr (nI_ge hi (by omega))) (fun _ => ?_)
    refine z_aload_n C dX11_gone_34 3 rfl rfl ?_
    refine z_iconst C dX11_gone_35 ki_m1 ?_
    refine z_iload C dX11_gone_36 0 rfl ?_
    refine f_callSr C hl (As := [.int (nI i)]) (rest := [.int (-1), .ref (B.1 + 0)]) (c_X11_bitOf l B s t (nI i)) (zCB (nA := 1) C rfl rfl tw_431 tw_1 tw_475 (by decide +kernel) ⟨Nat.le_of_ble_eq_true rfl, Nat.le_of_ble_eq_true rfl⟩) tw_430 rfl rfl (Nat.le_of_ble_eq_true rfl) dX11_gone_38 (Nat.zero_le _) ?_
    refine f_callVr C hl (As := [.int (-1), .int (wBit (nI i))]) (rest := []) (c_X11_bestBundle l B s t (-1) (wBit (nI i)) N hN h6 hK) zb_0 (zg_11 zk_0) rfl (zCB (nA := 2) C rfl rfl tw_600 tw_1 tw_597 (by decide +kernel) ⟨Nat.le_of_ble_eq_true rfl, Nat.le_of_ble_eq_true rfl⟩) tw_599 tp_15 rfl rfl (Nat.le_of_ble_eq_true rfl) dX11_gone_41 (Nat.zero_le _) ?_
    refine f_callSr C hl (As := [.int (wBest (fun b => decide (wWho (fun d => s (11 + d) 0) (fun d => s (11 + d) 1) (fun d => s (11 + d) 2) (s 9 3 ||| s 9 4) (s 9 0) b N &&& ((wBit (nI i)) ^^^ (-1)) = 0) || decide (wSum (fun d => s (11 + d) 0) (fun d => s (11 + d) 3) (wWho (fun d => s (11 + d) 0) (fun d => s (11 + d) 1) (fun d => s (11 + d) 2) (s 9 3 ||| s 9 4) (s 9 0) b N &&& ((wBit (nI i)) ^^^ (-1))) N ≤ (-1))) (255 &&& ((s 9 1 ||| s 9 2) ^^^ (-1))) 255)]) (rest := []) (c_J6_bitCount_0f7a4 l B s t (wBest (fun b => decide (wWho (fun d => s (11 + d) 0) (fun d => s (11 + d) 1) (fun d => s (11 + d) 2) (s 9 3 ||| s 9 4) (s 9 0) b N &&& ((wBit (nI i)) ^^^ (-1)) = 0) || decide (wSum (fun d => s (11 + d) 0) (fun d => s (11 + d) 3) (wWho (fun d => s (11 + d) 0) (fun d => s (11 + d) 1) (fun d => s (11 + d) 2) (s 9 3 ||| s 9 4) (s 9 0) b N &&& ((wBit (nI i)) ^^^ (-1))) N ≤ (-1))) (255 &&& ((s 9 1 ||| s 9 2) ^^^ (-1))) 255) (wBest_r8 _ _ _ (by decide))) (zCB (nA := 1) C rfl rfl tw_486 tw_19 tw_484 (by decide +kernel) ⟨Nat.le_of_ble_eq_true rfl, Nat.le_of_ble_eq_true rfl⟩) tw_485 rfl rfl (Nat.le_of_ble_eq_true rfl) dX11_gone_44 (Nat.zero_le _) ?_
    refine z_istore C [(5, .int (wPop (wBest (fun b => decide (wWho (fun d => s (11 + d) 0) (fun d => s (11 + d) 1) (fun d => s (11 + d) 2) (s 9 3 ||| s 9 4) (s 9 0) b N &&& ((wBit (nI i)) ^^^ (-1)) = 0) || decide (wSum (fun d => s (11 + d) 0) (fun d => s (11 + d) 3) (wWho (fun d => s (11 + d) 0) (fun d => s (11 + d) 1) (fun d => s (11 + d) 2) (s 9 3 ||| s 9 4) (s 9 0) b N &&& ((wBit (nI i)) ^^^ (-1))) N ≤ (-1))) (255 &&& ((s 9 1 ||| s 9 2) ^^^ (-1))) 255))), (4, .int (nI i)), (3, .int c), (2, .int a), (0, .ref (B.1 + 0)), (1, .int 1)] dX11_gone_47 (by decide) rfl ?_
    refine z_iload C dX11_gone_49 0 rfl ?_
    refine z_iload_n C dX11_gone_51 2 rfl rfl ?_
    refine z_icmp_le C 61 dX11_gone_52 (by decide) (fun h52 => ?_) (fun h52 => ?_)
    · refine z_iinc C [(4, .int (nI (i + 1))), (5, .int (wPop (wBest (fun b => decide (wWho (fun d => s (11 + d) 0) (fun d => s (11 + d) 1) (fun d => s (11 + d) 2) (s 9 3 ||| s 9 4) (s 9 0) b N &&& ((wBit (nI i)) ^^^ (-1)) = 0) || decide (wSum (fun d => s (11 + d) 0) (fun d => s (11 + d) 3) (wWho (fun d => s (11 + d) 0) (fun d => s (11 + d) 1) (fun d => s (11 + d) 2) (s 9 3 ||| s 9 4) (s 9 0) b N &&& ((wBit (nI i)) ^^^ (-1))) N ≤ (-1))) (255 &&& ((s 9 1 ||| s 9 2) ^^^ (-1))) 255))), (3, .int c), (2, .int a), (0, .ref (B.1 + 0)), (1, .int 1)] dX11_gone_61 1 rfl (nI_inc i) (by decide) rfl ?_
      refine z_goto C 22 dX11_gone_64 (by decide) ?_
      exact z_lv [0, 2, 3, 4, 5] rfl (ih (i + 1) _ _ (by omega) (by rw [wGone, if_pos (by rw [← ha]; exact h52)]; exact ha))
    · refine z_iload C dX11_gone_55 1 rfl ?_
      refine z_istore_n C [(2, .int (nI i)), (5, .int (wPop (wBest (fun b => decide (wWho (fun d => s (11 + d) 0) (fun d => s (11 + d) 1) (fun d => s (11 + d) 2) (s 9 3 ||| s 9 4) (s 9 0) b N &&& ((wBit (nI i)) ^^^ (-1)) = 0) || decide (wSum (fun d => s (11 + d) 0) (fun d => s (11 + d) 3) (wWho (fun d => s (11 + d) 0) (fun d => s (11 + d) 1) (fun d => s (11 + d) 2) (s 9 3 ||| s 9 4) (s 9 0) b N &&& ((wBit (nI i)) ^^^ (-1))) N ≤ (-1))) (255 &&& ((s 9 1 ||| s 9 2) ^^^ (-1))) 255))), (4, .int (nI i)), (3, .int c), (0, .ref (B.1 + 0)), (1, .int 1)] dX11_gone_57 rfl (by decide) rfl ?_
      refine z_iload C dX11_gone_58 1 rfl ?_
      refine z_istore_n C [(3, .int (wPop (wBest (fun b => decide (wWho (fun d => s (11 + d) 0) (fun d => s (11 + d) 1) (fun d => s (11 + d) 2) (s 9 3 ||| s 9 4) (s 9 0) b N &&& ((wBit (nI i)) ^^^ (-1)) = 0) || decide (wSum (fun d => s (11 + d) 0) (fun d => s (11 + d) 3) (wWho (fun d => s (11 + d) 0) (fun d => s (11 + d) 1) (fun d => s (11 + d) 2) (s 9 3 ||| s 9 4) (s 9 0) b N &&& ((wBit (nI i)) ^^^ (-1))) N ≤ (-1))) (255 &&& ((s 9 1 ||| s 9 2) ^^^ (-1))) 255))), (2, .int (nI i)), (5, .int (wPop (wBest (fun b => decide (wWho (fun d => s (11 + d) 0) (fun d => s (11 + d) 1) (fun d => s (11 + d) 2) (s 9 3 ||| s 9 4) (s 9 0) b N &&& ((wBit (nI i)) ^^^ (-1)) = 0) || decide (wSum (fun d => s (11 + d) 0) (fun d => s (11 + d) 3) (wWho (fun d => s (11 + d) 0) (fun d => s (11 + d) 1) (fun d => s (11 + d) 2) (s 9 3 ||| s 9 4) (s 9 0) b N &&& ((wBit (nI i)) ^^^ (-1))) N ≤ (-1))) (255 &&& ((s 9 1 ||| s 9 2) ^^^ (-1))) 255))), (4, .int (nI i)), (0, .ref (B.1 + 0)), (1, .int 1)] dX11_gone_60 rfl (by decide) rfl ?_
      refine z_iinc C [(4, .int (nI (i + 1))), (3, .int (wPop (wBest (fun b => decide (wWho (fun d => s (11 + d) 0) (fun d => s (11 + d) 1) (fun d => s (11 + d) 2) (s 9 3 ||| s 9 4) (s 9 0) b N &&& ((wBit (nI i)) ^^^ (-1)) = 0) || decide (wSum (fun d => s (11 + d) 0) (fun d => s (11 + d) 3) (wWho (fun d => s (11 + d) 0) (fun d => s (11 + d) 1) (fun d => s (11 + d) 2) (s 9 3 ||| s 9 4) (s 9 0) b N &&& ((wBit (nI i)) ^^^ (-1))) N ≤ (-1))) (255 &&& ((s 9 1 ||| s 9 2) ^^^ (-1))) 255))), (2, .int (nI i)), (5, .int (wPop (wBest (fun b => decide (wWho (fun d => s (11 + d) 0) (fun d => s (11 + d) 1) (fun d => s (11 + d) 2) (s 9 3 ||| s 9 4) (s 9 0) b N &&& ((wBit (nI i)) ^^^ (-1)) = 0) || decide (wSum (fun d => s (11 + d) 0) (fun d => s (11 + d) 3) (wWho (fun d => s (11 + d) 0) (fun d => s (11 + d) 1) (fun d => s (11 + d) 2) (s 9 3 ||| s 9 4) (s 9 0) b N &&& ((wBit (nI i)) ^^^ (-1))) N ≤ (-1))) (255 &&& ((s 9 1 ||| s 9 2) ^^^ (-1))) 255))), (0, .ref (B.1 + 0)), (1, .int 1)] dX11_gone_61 3 rfl (nI_inc i) (by decide) rfl ?_
      refine z_goto C 22 dX11_gone_64 (by decide) ?_
      exact z_lv [0, 1, 2, 4, 5] rfl (ih (i + 1) _ _ (by omega) (by rw [wGone, if_neg (by rw [← ha]; exact h52)]))
set_option maxRecDepth 100000 in
set_option maxHeartbeats 4000000 in
theorem c_X11_gone_1 (l : Launch) (B : zB) (s : zS) (t : zL) (N : Nat) (hN : s 8 4 = nI N) (h6 : N ≤ 6) (hK : ∀ d, d < N → ∃ c, c < 6 ∧ s (11 + d) 0 = nI c) : zD l B mX11_gone s t [.ref (B.1 + 0), .int 1] (some (.int ((wGone (fun i => wPop (wBest (fun b => decide (wWho (fun d => s (11 + d) 0) (fun d => s (11 + d) 1) (fun d => s (11 + d) 2) (s 9 3 ||| s 9 4) (s 9 0) b N &&& ((wBit (nI i)) ^^^ (-1)) = 0) || decide (wSum (fun d => s (11 + d) 0) (fun d => s (11 + d) 3) (wWho (fun d => s (11 + d) 0) (fun d => s (11 + d) 1) (fun d => s (11 + d) 2) (s 9 3 ||| s 9 4) (s 9 0) b N &&& ((wBit (nI i)) ^^^ (-1))) N ≤ (-1))) (255 &&& ((s 9 1 ||| s 9 2) ^^^ (-1))) 255)) N).2))) s t := by
  refine z_met (by decide) (Nat.le_of_ble_eq_true rfl) ?_
  intro X hl C E hnm
  show Zf X B mX11_gone s t 0 [(0, .ref (B.1 + 0)), (1, .int 1)] []
  refine z_iload_n C dX11_gone_0 1 rfl rfl ?_
  refine z_iconst C dX11_gone_1 ki_1 ?_
  refine f_callSr C hl (As := [.int 1, .int 1]) (rest := []) (c_X11_within l B s t 1 1) (zCB (nA := 2) C rfl rfl tw_268 tw_1 tw_266 (by decide +kernel) ⟨Nat.le_of_ble_eq_true rfl, Nat.le_of_ble_eq_true rfl⟩) tw_267 rfl rfl (Nat.le_of_ble_eq_true rfl) dX11_gone_2 (Nat.zero_le _) ?_
  refine z_ifb_ne C 15 dX11_gone_5 (by decide) (fun _ => ?_) (fun hbr => Bool.noConfusion (show false = true from hbr.symm.trans (by decide)))
  refine z_iconst C dX11_gone_15 ki_m1 ?_
  refine z_istore_n C [(2, .int (-1)), (0, .ref (B.1 + 0)), (1, .int 1)] dX11_gone_16 rfl (by decide) rfl ?_
  refine z_iconst C dX11_gone_17 ki_m1 ?_
  refine z_istore_n C [(3, .int (-1)), (2, .int (-1)), (0, .ref (B.1 + 0)), (1, .int 1)] dX11_gone_18 rfl (by decide) rfl ?_
  refine z_iconst C dX11_gone_19 ki_0 ?_
  refine z_istore C [(4, .int 0), (3, .int (-1)), (2, .int (-1)), (0, .ref (B.1 + 0)), (1, .int 1)] dX11_gone_20 (by decide) rfl ?_
  exact z_lv [0, 1, 2, 3, 4] rfl (l_X11_gone1 hl C N hN h6 hK E N 0 _ _ (by omega) rfl)
abbrev mX11_note : zM := (yX11_note, cX11_note, 5, (some .int), { frames := 2, cells := 0, slots := 0, locals := 41 })
set_option maxRecDepth 100000 in
set_option maxHeartbeats 4000000 in
theorem c_X11_note_bad (l : Launch) (B : zB) (s : zS) (t : zL) (x : Int32) (hx : x < 0 ∨ s 8 4 ≤ x) (b e f : Int32) : zD l B mX11_note s t [.ref (B.1 + 0), .int x, .int b, .int e, .int f] (some (.int (-2))) (zu s 0 9 (s 0 9 + 1)) t := by
  refine z_met (by decide) (Nat.le_of_ble_eq_true rfl) ?_
  intro X hl C E hnm
  show Zf X B mX11_note s t 0 [(0, .ref (B.1 + 0)), (1, .int x), (2, .int b), (3, .int e), (4, .int f)] []
  refine z_aload_n C dX11_note_0 0 rfl rfl ?_
  refine f_get11 C 1 (v := .ref (B.1 + 8)) (by decide) tw_226 rfl zk_0 zb_0 rfl dX11_note_1 ?_
  refine z_iload_n C dX11_note_4 1 rfl rfl ?_
  refine f_callVr C hl (As := [.int x]) (rest := []) (c_X1_deputyAt8n l B s t x hx) zb_8 (zg_1 zk_8) rfl (zCB (nA := 1) C rfl rfl tw_424 tw_8 tw_474 (by decide +kernel) ⟨Nat.le_of_ble_eq_true rfl, Nat.le_of_ble_eq_true rfl⟩) tw_422 tw_423 rfl rfl (Nat.le_of_ble_eq_true rfl) dX11_note_5 (Nat.zero_le _) ?_
  refine z_ifnullN C 36 dX11_note_8 (by decide) ?_
  refine z_aload_n C dX11_note_36 0 rfl rfl ?_
  refine z_bipush C dX11_note_37 kb_m2 ?_
  refine f_callVr C hl (As := [.int (-2)]) (rest := []) (c_X11_refuse2 l B s t) zb_0 (zg_11 zk_0) rfl (zCB (nA := 1) C rfl rfl tw_272 tw_1 tw_269 (by decide +kernel) ⟨Nat.le_of_ble_eq_true rfl, Nat.le_of_ble_eq_true rfl⟩) tw_271 tp_0 rfl rfl (Nat.le_of_ble_eq_true rfl) dX11_note_39 (Nat.zero_le _) ?_
  refine z_iret C E rfl dX11_note_42 rfl (Nat.le_refl _) ⟨rfl, rfl⟩
set_option maxRecDepth 100000 in
set_option maxHeartbeats 4000000 in
theorem c_X11_note_badw (l : Launch) (B : zB) (s : zS) (t : zL) (N : Nat) (hN : s 8 4 = nI N) (h6 : N ≤ 6) (d : Nat) (hd : d < N) (x : Int32) (hx : x = nI d) (b e f : Int32) (h : (wIn b 255 && wIn e 99 && wIn f 1) = false) : zD l B mX11_note s t [.ref (B.1 + 0), .int x, .int b, .int e, .int f] (some (.int (-2))) (zu s 0 9 (s 0 9 + 1)) t := by
  refine z_met (by decide) (Nat.le_of_ble_eq_true rfl) ?_
  intro X hl C E hnm
  show Zf X B mX11_note s t 0 [(0, .ref (B.1 + 0)), (1, .int x), (2, .int b), (3, .int e), (4, .int f)] []
  refine z_aload_n C dX11_note_0 0 rfl rfl ?_
  refine f_get11 C 1 (v := .ref (B.1 + 8)) (by decide) tw_226 rfl zk_0 zb_0 rfl dX11_note_1 ?_
  refine z_iload_n C dX11_note_4 1 rfl rfl ?_
  refine f_callVr C hl (As := [.int x]) (rest := []) (c_X1_deputyAt8s l B s t d (by omega) x hx (by rw [hx, hN]; exact nI_lt hd (by omega))) zb_8 (zg_1 zk_8) rfl (zCB (nA := 1) C rfl rfl tw_424 tw_8 tw_474 (by decide +kernel) ⟨Nat.le_of_ble_eq_true rfl, Nat.le_of_ble_eq_true rfl⟩) tw_422 tw_423 rfl rfl (Nat.le_of_ble_eq_true rfl) dX11_note_5 (Nat.zero_le _) ?_
  refine z_ifnull C dX11_note_8 ?_
  refine z_iload_n C dX11_note_11 2 rfl rfl ?_
  refine f_callSr C hl (As := [.int b]) (rest := []) (c_X11_isBundle l B s t b) (zCB (nA := 1) C rfl rfl tw_287 tw_1 tw_285 (by decide +kernel) ⟨Nat.le_of_ble_eq_true rfl, Nat.le_of_ble_eq_true rfl⟩) tw_286 rfl rfl (Nat.le_of_ble_eq_true rfl) dX11_note_12 (Nat.zero_le _) ?_
  refine z_ifb_eq C 36 dX11_note_15 (by decide) (fun h15 => ?_) (fun h15 => ?_)
  · refine z_aload_n C dX11_note_36 0 rfl rfl ?_
    refine z_bipush C dX11_note_37 kb_m2 ?_
    refine f_callVr C hl (As := [.int (-2)]) (rest := []) (c_X11_refuse2 l B s t) zb_0 (zg_11 zk_0) rfl (zCB (nA := 1) C rfl rfl tw_272 tw_1 tw_269 (by decide +kernel) ⟨Nat.le_of_ble_eq_true rfl, Nat.le_of_ble_eq_true rfl⟩) tw_271 tp_0 rfl rfl (Nat.le_of_ble_eq_true rfl) dX11_note_39 (Nat.zero_le _) ?_
    refine z_iret C E rfl dX11_note_42 rfl (Nat.le_refl _) ⟨rfl, rfl⟩
  · refine z_iload_n C dX11_note_18 3 rfl rfl ?_
    refine z_bipush C dX11_note_19 kb_99 ?_
    refine f_callSr C hl (As := [.int e, .int 99]) (rest := []) (c_X11_within l B s t e 99) (zCB (nA := 2) C rfl rfl tw_268 tw_1 tw_266 (by decide +kernel) ⟨Nat.le_of_ble_eq_true rfl, Nat.le_of_ble_eq_true rfl⟩) tw_267 rfl rfl (Nat.le_of_ble_eq_true rfl) dX11_note_21 (Nat.zero_le _) ?_
    refine z_ifb_eq C 36 dX11_note_24 (by decide) (fun h24 => ?_) (fun h24 => ?_)
    · refine z_aload_n C dX11_note_36 0 rfl rfl ?_
      refine z_bipush C dX11_note_37 kb_m2 ?_
      refine f_callVr C hl (As := [.int (-2)]) (rest := []) (c_X11_refuse2 l B s t) zb_0 (zg_11 zk_0) rfl (zCB (nA := 1) C rfl rfl tw_272 tw_1 tw_269 (by decide +kernel) ⟨Nat.le_of_ble_eq_true rfl, Nat.le_of_ble_eq_true rfl⟩) tw_271 tp_0 rfl rfl (Nat.le_of_ble_eq_true rfl) dX11_note_39 (Nat.zero_le _) ?_
      refine z_iret C E rfl dX11_note_42 rfl (Nat.le_refl _) ⟨rfl, rfl⟩
    · refine z_iload C dX11_note_27 4 rfl ?_
      refine z_iconst C dX11_note_29 ki_1 ?_
      refine f_callSr C hl (As := [.int f, .int 1]) (rest := []) (c_X11_within l B s t f 1) (zCB (nA := 2) C rfl rfl tw_268 tw_1 tw_266 (by decide +kernel) ⟨Nat.le_of_ble_eq_true rfl, Nat.le_of_ble_eq_true rfl⟩) tw_267 rfl rfl (Nat.le_of_ble_eq_true rfl) dX11_note_30 (Nat.zero_le _) ?_
      refine z_ifb_ne C 43 dX11_note_33 (by decide) (fun h33 => ?_) (fun h33 => ?_)
      · exact absurd h (by rw [h15, h24, h33]; decide)
      · refine z_aload_n C dX11_note_36 0 rfl rfl ?_
        refine z_bipush C dX11_note_37 kb_m2 ?_
        refine f_callVr C hl (As := [.int (-2)]) (rest := []) (c_X11_refuse2 l B s t) zb_0 (zg_11 zk_0) rfl (zCB (nA := 1) C rfl rfl tw_272 tw_1 tw_269 (by decide +kernel) ⟨Nat.le_of_ble_eq_true rfl, Nat.le_of_ble_eq_true rfl⟩) tw_271 tp_0 rfl rfl (Nat.le_of_ble_eq_true rfl) dX11_note_39 (Nat.zero_le _) ?_
        refine z_iret C E rfl dX11_note_42 rfl (Nat.le_refl _) ⟨rfl, rfl⟩
set_option maxRecDepth 100000 in
set_option maxHeartbeats 4000000 in
theorem c_X11_note_full (l : Launch) (B : zB) (s : zS) (t : zL) (N : Nat) (hN : s 8 4 = nI N) (h6 : N ≤ 6) (d : Nat) (hd : d < N) (x : Int32) (hx : x = nI d) (b e f : Int32) (g1 : wIn b 255 = true) (g2 : wIn e 99 = true) (g3 : wIn f 1 = true) (hc : s 8 5 = 6) : zD l B mX11_note s t [.ref (B.1 + 0), .int x, .int b, .int e, .int f] (some (.int (-4))) (zu s 0 11 (s 0 11 + 1)) t := by
  refine z_met (by decide) (Nat.le_of_ble_eq_true rfl) ?_
  intro X hl C E hnm
  show Zf X B mX11_note s t 0 [(0, .ref (B.1 + 0)), (1, .int x), (2, .int b), (3, .int e), (4, .int f)] []
  refine z_aload_n C dX11_note_0 0 rfl rfl ?_
  refine f_get11 C 1 (v := .ref (B.1 + 8)) (by decide) tw_226 rfl zk_0 zb_0 rfl dX11_note_1 ?_
  refine z_iload_n C dX11_note_4 1 rfl rfl ?_
  refine f_callVr C hl (As := [.int x]) (rest := []) (c_X1_deputyAt8s l B s t d (by omega) x hx (by rw [hx, hN]; exact nI_lt hd (by omega))) zb_8 (zg_1 zk_8) rfl (zCB (nA := 1) C rfl rfl tw_424 tw_8 tw_474 (by decide +kernel) ⟨Nat.le_of_ble_eq_true rfl, Nat.le_of_ble_eq_true rfl⟩) tw_422 tw_423 rfl rfl (Nat.le_of_ble_eq_true rfl) dX11_note_5 (Nat.zero_le _) ?_
  refine z_ifnull C dX11_note_8 ?_
  refine z_iload_n C dX11_note_11 2 rfl rfl ?_
  refine f_callSr C hl (As := [.int b]) (rest := []) (c_X11_isBundle l B s t b) (zCB (nA := 1) C rfl rfl tw_287 tw_1 tw_285 (by decide +kernel) ⟨Nat.le_of_ble_eq_true rfl, Nat.le_of_ble_eq_true rfl⟩) tw_286 rfl rfl (Nat.le_of_ble_eq_true rfl) dX11_note_12 (Nat.zero_le _) ?_
  refine z_ifb_eq C 36 dX11_note_15 (by decide) (fun hbr => absurd hbr (by rw [g1]; decide)) (fun _ => ?_)
  refine z_iload_n C dX11_note_18 3 rfl rfl ?_
  refine z_bipush C dX11_note_19 kb_99 ?_
  refine f_callSr C hl (As := [.int e, .int 99]) (rest := []) (c_X11_within l B s t e 99) (zCB (nA := 2) C rfl rfl tw_268 tw_1 tw_266 (by decide +kernel) ⟨Nat.le_of_ble_eq_true rfl, Nat.le_of_ble_eq_true rfl⟩) tw_267 rfl rfl (Nat.le_of_ble_eq_true rfl) dX11_note_21 (Nat.zero_le _) ?_
  refine z_ifb_eq C 36 dX11_note_24 (by decide) (fun hbr => absurd hbr (by rw [g2]; decide)) (fun _ => ?_)
  refine z_iload C dX11_note_27 4 rfl ?_
  refine z_iconst C dX11_note_29 ki_1 ?_
  refine f_callSr C hl (As := [.int f, .int 1]) (rest := []) (c_X11_within l B s t f 1) (zCB (nA := 2) C rfl rfl tw_268 tw_1 tw_266 (by decide +kernel) ⟨Nat.le_of_ble_eq_true rfl, Nat.le_of_ble_eq_true rfl⟩) tw_267 rfl rfl (Nat.le_of_ble_eq_true rfl) dX11_note_30 (Nat.zero_le _) ?_
  refine z_ifb_ne C 43 dX11_note_33 (by decide) (fun _ => ?_) (fun hbr => Bool.noConfusion (show false = true from hbr.symm.trans g3))
  refine z_aload_n C dX11_note_43 0 rfl rfl ?_
  refine f_get11 C 1 (v := .ref (B.1 + 8)) (by decide) tw_226 rfl zk_0 zb_0 rfl dX11_note_44 ?_
  refine f_get1 C 5 (v := .int (s 8 5)) (by decide) tw_175 rfl zk_8 zb_8 rfl dX11_note_47 ?_
  refine f_topi hc ?_
  refine z_bipush C dX11_note_50 kb_6 ?_
  refine z_icmp_lt C 62 dX11_note_52 (by decide) (fun hbr => absurd hbr (by decide)) (fun _ => ?_)
  refine z_aload_n C dX11_note_55 0 rfl rfl ?_
  refine z_bipush C dX11_note_56 kb_m4 ?_
  refine f_callVr C hl (As := [.int (-4)]) (rest := []) (c_X11_refuse4 l B s t) zb_0 (zg_11 zk_0) rfl (zCB (nA := 1) C rfl rfl tw_272 tw_1 tw_269 (by decide +kernel) ⟨Nat.le_of_ble_eq_true rfl, Nat.le_of_ble_eq_true rfl⟩) tw_271 tp_0 rfl rfl (Nat.le_of_ble_eq_true rfl) dX11_note_58 (Nat.zero_le _) ?_
  refine z_iret C E rfl dX11_note_61 rfl (Nat.le_refl _) ⟨rfl, rfl⟩
set_option maxRecDepth 100000 in
set_option maxHeartbeats 4000000 in
theorem c_X11_note_ok (l : Launch) (B : zB) (s : zS) (t : zL) (N : Nat) (hN : s 8 4 = nI N) (h6 : N ≤ 6) (d : Nat) (hd : d < N) (x : Int32) (hx : x = nI d) (b e f : Int32) (g1 : wIn b 255 = true) (g2 : wIn e 99 = true) (g3 : wIn f 1 = true) (n : Nat) (hn : n < 6) (hc : s 8 5 = nI n) : zD l B mX11_note s t [.ref (B.1 + 0), .int x, .int b, .int e, .int f] (some (.int (nI (n + 1)))) (wAddN s n x b e f) t := by
  refine z_met (by decide) (Nat.le_of_ble_eq_true rfl) ?_
  intro X hl C E hnm
  show Zf X B mX11_note s t 0 [(0, .ref (B.1 + 0)), (1, .int x), (2, .int b), (3, .int e), (4, .int f)] []
  refine z_aload_n C dX11_note_0 0 rfl rfl ?_
  refine f_get11 C 1 (v := .ref (B.1 + 8)) (by decide) tw_226 rfl zk_0 zb_0 rfl dX11_note_1 ?_
  refine z_iload_n C dX11_note_4 1 rfl rfl ?_
  refine f_callVr C hl (As := [.int x]) (rest := []) (c_X1_deputyAt8s l B s t d (by omega) x hx (by rw [hx, hN]; exact nI_lt hd (by omega))) zb_8 (zg_1 zk_8) rfl (zCB (nA := 1) C rfl rfl tw_424 tw_8 tw_474 (by decide +kernel) ⟨Nat.le_of_ble_eq_true rfl, Nat.le_of_ble_eq_true rfl⟩) tw_422 tw_423 rfl rfl (Nat.le_of_ble_eq_true rfl) dX11_note_5 (Nat.zero_le _) ?_
  refine z_ifnull C dX11_note_8 ?_
  refine z_iload_n C dX11_note_11 2 rfl rfl ?_
  refine f_callSr C hl (As := [.int b]) (rest := []) (c_X11_isBundle l B s t b) (zCB (nA := 1) C rfl rfl tw_287 tw_1 tw_285 (by decide +kernel) ⟨Nat.le_of_ble_eq_true rfl, Nat.le_of_ble_eq_true rfl⟩) tw_286 rfl rfl (Nat.le_of_ble_eq_true rfl) dX11_note_12 (Nat.zero_le _) ?_
  refine z_ifb_eq C 36 dX11_note_15 (by decide) (fun hbr => absurd hbr (by rw [g1]; decide)) (fun _ => ?_)
  refine z_iload_n C dX11_note_18 3 rfl rfl ?_
  refine z_bipush C dX11_note_19 kb_99 ?_
  refine f_callSr C hl (As := [.int e, .int 99]) (rest := []) (c_X11_within l B s t e 99) (zCB (nA := 2) C rfl rfl tw_268 tw_1 tw_266 (by decide +kernel) ⟨Nat.le_of_ble_eq_true rfl, Nat.le_of_ble_eq_true rfl⟩) tw_267 rfl rfl (Nat.le_of_ble_eq_true rfl) dX11_note_21 (Nat.zero_le _) ?_
  refine z_ifb_eq C 36 dX11_note_24 (by decide) (fun hbr => absurd hbr (by rw [g2]; decide)) (fun _ => ?_)
  refine z_iload C dX11_note_27 4 rfl ?_
  refine z_iconst C dX11_note_29 ki_1 ?_
  refine f_callSr C hl (As := [.int f, .int 1]) (rest := []) (c_X11_within l B s t f 1) (zCB (nA := 2) C rfl rfl tw_268 tw_1 tw_266 (by decide +kernel) ⟨Nat.le_of_ble_eq_true rfl, Nat.le_of_ble_eq_true rfl⟩) tw_267 rfl rfl (Nat.le_of_ble_eq_true rfl) dX11_note_30 (Nat.zero_le _) ?_
  refine z_ifb_ne C 43 dX11_note_33 (by decide) (fun _ => ?_) (fun hbr => Bool.noConfusion (show false = true from hbr.symm.trans g3))
  refine z_aload_n C dX11_note_43 0 rfl rfl ?_
  refine f_get11 C 1 (v := .ref (B.1 + 8)) (by decide) tw_226 rfl zk_0 zb_0 rfl dX11_note_44 ?_
  refine f_get1 C 5 (v := .int (s 8 5)) (by decide) tw_175 rfl zk_8 zb_8 rfl dX11_note_47 ?_
  refine f_topi hc ?_
  refine z_bipush C dX11_note_50 kb_6 ?_
  refine z_icmp_lt C 62 dX11_note_52 (by decide) (fun _ => ?_) (fun hbr => absurd (i32_lt6 hn) hbr)
  refine z_aload_n C dX11_note_62 0 rfl rfl ?_
  refine f_get11 C 1 (v := .ref (B.1 + 8)) (by decide) tw_226 rfl zk_0 zb_0 rfl dX11_note_63 ?_
  refine z_iload_n C dX11_note_66 1 rfl rfl ?_
  refine z_iload_n C dX11_note_67 2 rfl rfl ?_
  refine z_iload_n C dX11_note_68 3 rfl rfl ?_
  refine z_iload C dX11_note_69 4 rfl ?_
  refine f_callVv C hl (As := [.int x, .int b, .int e, .int f]) (rest := []) (c_X1_addNote l B s t n hn hc x b e f) zb_8 (zg_1 zk_8) rfl (zCB (nA := 4) C rfl rfl tw_648 tw_8 tw_645 (by decide +kernel) ⟨Nat.le_of_ble_eq_true rfl, Nat.le_of_ble_eq_true rfl⟩) tw_646 tw_647 rfl rfl (Nat.le_of_ble_eq_true rfl) dX11_note_71 (Nat.zero_le _) ?_
  refine z_aload_n C dX11_note_74 0 rfl rfl ?_
  refine f_get11 C 1 (v := .ref (B.1 + 8)) (by decide) tw_226 rfl zk_0 zb_0 rfl dX11_note_75 ?_
  refine f_get1 C 5 (v := .int ((wAddN s n x b e f) 8 5)) (by decide) tw_175 rfl zk_8 zb_8 rfl dX11_note_78 ?_
  refine f_topi (y := nI (n + 1)) (by simp [wAddN, zu]) ?_
  refine z_iret C E rfl dX11_note_81 rfl (Nat.le_refl _) ⟨rfl, rfl⟩
abbrev mX11_forget : zM := (yX11_forget, cX11_forget, 2, (some .int), { frames := 0, cells := 0, slots := 0, locals := 0 })
set_option maxRecDepth 100000 in
set_option maxHeartbeats 4000000 in
theorem c_X11_forget (l : Launch) (B : zB) (s : zS) (t : zL)  : zD l B mX11_forget s t [.ref (B.1 + 0)] (some (.int (s 8 5))) (zu s 8 5 0) t := by
  refine z_met (by decide) (Nat.le_of_ble_eq_true rfl) ?_
  intro X hl C E hnm
  show Zf X B mX11_forget s t 0 [(0, .ref (B.1 + 0))] []
  refine z_aload_n C dX11_forget_0 0 rfl rfl ?_
  refine f_get11 C 1 (v := .ref (B.1 + 8)) (by decide) tw_226 rfl zk_0 zb_0 rfl dX11_forget_1 ?_
  refine f_get1 C 5 (v := .int (s 8 5)) (by decide) tw_175 rfl zk_8 zb_8 rfl dX11_forget_4 ?_
  refine z_istore_n C [(1, .int (s 8 5)), (0, .ref (B.1 + 0))] dX11_forget_7 rfl (by decide) rfl ?_
  refine z_aload_n C dX11_forget_8 1 rfl rfl ?_
  refine f_get11 C 1 (v := .ref (B.1 + 8)) (by decide) tw_226 rfl zk_0 zb_0 rfl dX11_forget_9 ?_
  refine z_iconst C dX11_forget_12 ki_0 ?_
  refine f_put1_5 C tw_175 zk_8 zb_8 dX11_forget_13 ?_
  refine z_iload_n C dX11_forget_16 0 rfl rfl ?_
  refine z_iret C E rfl dX11_forget_17 rfl (Nat.le_refl _) ⟨rfl, rfl⟩
abbrev mX11_is : zM := (yX11_is, cX11_is, 3, (some .int), { frames := 6, cells := 0, slots := 0, locals := 146 })
set_option maxRecDepth 100000 in
set_option maxHeartbeats 4000000 in
theorem c_X11_is_bad (l : Launch) (B : zB) (s : zS) (t : zL) (x : Int32) (hx : x < 0 ∨ s 8 4 ≤ x) : zD l B mX11_is s t [.ref (B.1 + 0), .int x] (some (.int (-2))) (zu s 0 9 (s 0 9 + 1)) t := by
  refine z_met (by decide) (Nat.le_of_ble_eq_true rfl) ?_
  intro X hl C E hnm
  show Zf X B mX11_is s t 0 [(0, .ref (B.1 + 0)), (1, .int x)] []
  refine z_aload_n C dX11_is_0 0 rfl rfl ?_
  refine f_get11 C 1 (v := .ref (B.1 + 8)) (by decide) tw_226 rfl zk_0 zb_0 rfl dX11_is_1 ?_
  refine z_iload_n C dX11_is_4 1 rfl rfl ?_
  refine f_callVr C hl (As := [.int x]) (rest := []) (c_X1_deputyAt8n l B s t x hx) zb_8 (zg_1 zk_8) rfl (zCB (nA := 1) C rfl rfl tw_424 tw_8 tw_474 (by decide +kernel) ⟨Nat.le_of_ble_eq_true rfl, Nat.le_of_ble_eq_true rfl⟩) tw_422 tw_423 rfl rfl (Nat.le_of_ble_eq_true rfl) dX11_is_5 (Nat.zero_le _) ?_
  refine z_astore_nN C [(2, .null), (0, .ref (B.1 + 0)), (1, .int x)] dX11_is_8 rfl (by decide) rfl ?_
  refine z_aload_nN C dX11_is_9 0 rfl rfl ?_
  refine z_ifnonnullN C dX11_is_10 ?_
  refine z_aload_n C dX11_is_13 1 rfl rfl ?_
  refine z_bipush C dX11_is_14 kb_m2 ?_
  refine f_callVr C hl (As := [.int (-2)]) (rest := []) (c_X11_refuse2 l B s t) zb_0 (zg_11 zk_0) rfl (zCB (nA := 1) C rfl rfl tw_272 tw_1 tw_269 (by decide +kernel) ⟨Nat.le_of_ble_eq_true rfl, Nat.le_of_ble_eq_true rfl⟩) tw_271 tp_0 rfl rfl (Nat.le_of_ble_eq_true rfl) dX11_is_16 (Nat.zero_le _) ?_
  refine z_goto C 28 dX11_is_19 (by decide) ?_
  refine z_iret C E rfl dX11_is_28 rfl (Nat.le_refl _) ⟨rfl, rfl⟩
set_option maxRecDepth 100000 in
set_option maxHeartbeats 4000000 in
theorem c_X11_is_ok (l : Launch) (B : zB) (s : zS) (t : zL) (N : Nat) (hN : s 8 4 = nI N) (h6 : N ≤ 6) (d : Nat) (hd : d < N) (x : Int32) (hx : x = nI d) (M : Nat) (hM : s 8 5 = nI M) (hM6 : M ≤ 6) (hB : ∀ n, n < M → r8 (s (18 + n) 1)) : zD l B mX11_is s t [.ref (B.1 + 0), .int x] (some (.int (wCol (fun c => wFit s x (nI c) (s (11 + d) 1) (s (11 + d) 2) M) 6))) s t := by
  refine z_met (by decide) (Nat.le_of_ble_eq_true rfl) ?_
  intro X hl C E hnm
  show Zf X B mX11_is s t 0 [(0, .ref (B.1 + 0)), (1, .int x)] []
  refine z_aload_n C dX11_is_0 0 rfl rfl ?_
  refine f_get11 C 1 (v := .ref (B.1 + 8)) (by decide) tw_226 rfl zk_0 zb_0 rfl dX11_is_1 ?_
  refine z_iload_n C dX11_is_4 1 rfl rfl ?_
  refine f_callVr C hl (As := [.int x]) (rest := []) (c_X1_deputyAt8s l B s t d (by omega) x hx (by rw [hx, hN]; exact nI_lt hd (by omega))) zb_8 (zg_1 zk_8) rfl (zCB (nA := 1) C rfl rfl tw_424 tw_8 tw_474 (by decide +kernel) ⟨Nat.le_of_ble_eq_true rfl, Nat.le_of_ble_eq_true rfl⟩) tw_422 tw_423 rfl rfl (Nat.le_of_ble_eq_true rfl) dX11_is_5 (Nat.zero_le _) ?_
  refine z_astore_n C [(2, .ref (B.1 + (11 + d))), (0, .ref (B.1 + 0)), (1, .int x)] dX11_is_8 rfl (by decide) rfl ?_
  refine z_aload_n C dX11_is_9 0 rfl rfl ?_
  refine z_ifnonnull C 22 dX11_is_10 (by decide) ?_
  refine z_aload_n C dX11_is_22 1 rfl rfl ?_
  refine z_iload_n C dX11_is_23 2 rfl rfl ?_
  refine z_aload_n C dX11_is_24 0 rfl rfl ?_
  refine f_callVr C hl (As := [.int x, .ref (B.1 + (11 + d))]) (rest := []) (c_X11_kindsThatFit l B s t x (11 + d) (zk_dep d (by omega)) (by omega) M hM hM6 hB) zb_0 (zg_11 zk_0) rfl (zCB (nA := 2) C rfl rfl tw_660 tw_1 tw_657 (by decide +kernel) ⟨Nat.le_of_ble_eq_true rfl, Nat.le_of_ble_eq_true rfl⟩) tw_659 tp_20 rfl rfl (Nat.le_of_ble_eq_true rfl) dX11_is_25 (Nat.zero_le _) ?_
  refine z_iret C E rfl dX11_is_28 rfl (Nat.le_refl _) ⟨rfl, rfl⟩
abbrev mX11_holds : zM := (yX11_holds, cX11_holds, 10, (some .int), { frames := 5, cells := 0, slots := 0, locals := 122 })
set_option maxRecDepth 100000 in
set_option maxHeartbeats 4000000 in
theorem c_X11_holds_bad (l : Launch) (B : zB) (s : zS) (t : zL) (x : Int32) (hx : x < 0 ∨ s 8 4 ≤ x) (w : Int32) : zD l B mX11_holds s t [.ref (B.1 + 0), .int x, .int w] (some (.int (-2))) (zu s 0 9 (s 0 9 + 1)) t := by
  refine z_met (by decide) (Nat.le_of_ble_eq_true rfl) ?_
  intro X hl C E hnm
  show Zf X B mX11_holds s t 0 [(0, .ref (B.1 + 0)), (1, .int x), (2, .int w)] []
  refine z_aload_n C dX11_holds_0 0 rfl rfl ?_
  refine f_get11 C 1 (v := .ref (B.1 + 8)) (by decide) tw_226 rfl zk_0 zb_0 rfl dX11_holds_1 ?_
  refine z_iload_n C dX11_holds_4 1 rfl rfl ?_
  refine f_callVr C hl (As := [.int x]) (rest := []) (c_X1_deputyAt8n l B s t x hx) zb_8 (zg_1 zk_8) rfl (zCB (nA := 1) C rfl rfl tw_424 tw_8 tw_474 (by decide +kernel) ⟨Nat.le_of_ble_eq_true rfl, Nat.le_of_ble_eq_true rfl⟩) tw_422 tw_423 rfl rfl (Nat.le_of_ble_eq_true rfl) dX11_holds_5 (Nat.zero_le _) ?_
  refine z_astore_nN C [(3, .null), (0, .ref (B.1 + 0)), (1, .int x), (2, .int w)] dX11_holds_8 rfl (by decide) rfl ?_
  refine z_aload_nN C dX11_holds_9 0 rfl rfl ?_
  refine z_ifnullN C 22 dX11_holds_10 (by decide) ?_
  refine z_aload_n C dX11_holds_22 1 rfl rfl ?_
  refine z_bipush C dX11_holds_23 kb_m2 ?_
  refine f_callVr C hl (As := [.int (-2)]) (rest := []) (c_X11_refuse2 l B s t) zb_0 (zg_11 zk_0) rfl (zCB (nA := 1) C rfl rfl tw_272 tw_1 tw_269 (by decide +kernel) ⟨Nat.le_of_ble_eq_true rfl, Nat.le_of_ble_eq_true rfl⟩) tw_271 tp_0 rfl rfl (Nat.le_of_ble_eq_true rfl) dX11_holds_25 (Nat.zero_le _) ?_
  refine z_iret C E rfl dX11_holds_28 rfl (Nat.le_refl _) ⟨rfl, rfl⟩
set_option maxRecDepth 100000 in
set_option maxHeartbeats 4000000 in
theorem c_X11_holds_badw (l : Launch) (B : zB) (s : zS) (t : zL) (N : Nat) (hN : s 8 4 = nI N) (h6 : N ≤ 6) (d : Nat) (hd : d < N) (x : Int32) (hx : x = nI d) (w : Int32) (g : wIn w 7 = false) : zD l B mX11_holds s t [.ref (B.1 + 0), .int x, .int w] (some (.int (-2))) (zu s 0 9 (s 0 9 + 1)) t := by
  refine z_met (by decide) (Nat.le_of_ble_eq_true rfl) ?_
  intro X hl C E hnm
  show Zf X B mX11_holds s t 0 [(0, .ref (B.1 + 0)), (1, .int x), (2, .int w)] []
  refine z_aload_n C dX11_holds_0 0 rfl rfl ?_
  refine f_get11 C 1 (v := .ref (B.1 + 8)) (by decide) tw_226 rfl zk_0 zb_0 rfl dX11_holds_1 ?_
  refine z_iload_n C dX11_holds_4 1 rfl rfl ?_
  refine f_callVr C hl (As := [.int x]) (rest := []) (c_X1_deputyAt8s l B s t d (by omega) x hx (by rw [hx, hN]; exact nI_lt hd (by omega))) zb_8 (zg_1 zk_8) rfl (zCB (nA := 1) C rfl rfl tw_424 tw_8 tw_474 (by decide +kernel) ⟨Nat.le_of_ble_eq_true rfl, Nat.le_of_ble_eq_true rfl⟩) tw_422 tw_423 rfl rfl (Nat.le_of_ble_eq_true rfl) dX11_holds_5 (Nat.zero_le _) ?_
  refine z_astore_n C [(3, .ref (B.1 + (11 + d))), (0, .ref (B.1 + 0)), (1, .int x), (2, .int w)] dX11_holds_8 rfl (by decide) rfl ?_
  refine z_aload_n C dX11_holds_9 0 rfl rfl ?_
  refine z_ifnull C dX11_holds_10 ?_
  refine z_iload_n C dX11_holds_13 3 rfl rfl ?_
  refine z_bipush C dX11_holds_14 kb_7 ?_
  refine f_callSr C hl (As := [.int w, .int 7]) (rest := []) (c_X11_within l B s t w 7) (zCB (nA := 2) C rfl rfl tw_268 tw_1 tw_266 (by decide +kernel) ⟨Nat.le_of_ble_eq_true rfl, Nat.le_of_ble_eq_true rfl⟩) tw_267 rfl rfl (Nat.le_of_ble_eq_true rfl) dX11_holds_16 (Nat.zero_le _) ?_
  refine z_ifb_ne C 29 dX11_holds_19 (by decide) (fun hbr => absurd hbr (by rw [g]; decide)) (fun _ => ?_)
  refine z_aload_n C dX11_holds_22 1 rfl rfl ?_
  refine z_bipush C dX11_holds_23 kb_m2 ?_
  refine f_callVr C hl (As := [.int (-2)]) (rest := []) (c_X11_refuse2 l B s t) zb_0 (zg_11 zk_0) rfl (zCB (nA := 1) C rfl rfl tw_272 tw_1 tw_269 (by decide +kernel) ⟨Nat.le_of_ble_eq_true rfl, Nat.le_of_ble_eq_true rfl⟩) tw_271 tp_0 rfl rfl (Nat.le_of_ble_eq_true rfl) dX11_holds_25 (Nat.zero_le _) ?_
  refine z_iret C E rfl dX11_holds_28 rfl (Nat.le_refl _) ⟨rfl, rfl⟩
set_option maxRecDepth 100000 in
set_option maxHeartbeats 4000000 in
theorem c_X11_holds_ok (l : Launch) (B : zB) (s : zS) (t : zL) (N : Nat) (hN : s 8 4 = nI N) (h6 : N ≤ 6) (d : Nat) (hd : d < N) (x : Int32) (hx : x = nI d) (hK : ∃ c, c < 6 ∧ s (11 + d) 0 = nI c) (M : Nat) (hM : s 8 5 = nI M) (hM6 : M ≤ 6) (hB : ∀ n, n < M → r8 (s (18 + n) 1)) (w : Int32) (g : wIn w 7 = true) : zD l B mX11_holds s t [.ref (B.1 + 0), .int x, .int w] (some (.int ((zi (wFit s x (s (11 + d) 0) ((s (11 + d) 1 &&& (wBit w ^^^ (-1))) ||| wBit w) (s (11 + d) 2 &&& (wBit w ^^^ (-1))) M) ||| (zi (wFit s x (s (11 + d) 0) (s (11 + d) 1 &&& (wBit w ^^^ (-1))) ((s (11 + d) 2 &&& (wBit w ^^^ (-1))) ||| wBit w) M) <<< ((1 : Int32) &&& 31))) ||| (zi (wFit s x (s (11 + d) 0) (s (11 + d) 1 &&& (wBit w ^^^ (-1))) (s (11 + d) 2 &&& (wBit w ^^^ (-1))) M) <<< ((2 : Int32) &&& 31))))) s t := by
  refine z_met (by decide) (Nat.le_of_ble_eq_true rfl) ?_
  intro X hl C E hnm
  show Zf X B mX11_holds s t 0 [(0, .ref (B.1 + 0)), (1, .int x), (2, .int w)] []
  refine z_aload_n C dX11_holds_0 0 rfl rfl ?_
  refine f_get11 C 1 (v := .ref (B.1 + 8)) (by decide) tw_226 rfl zk_0 zb_0 rfl dX11_holds_1 ?_
  refine z_iload_n C dX11_holds_4 1 rfl rfl ?_
  refine f_callVr C hl (As := [.int x]) (rest := []) (c_X1_deputyAt8s l B s t d (by omega) x hx (by rw [hx, hN]; exact nI_lt hd (by omega))) zb_8 (zg_1 zk_8) rfl (zCB (nA := 1) C rfl rfl tw_424 tw_8 tw_474 (by decide +kernel) ⟨Nat.le_of_ble_eq_true rfl, Nat.le_of_ble_eq_true rfl⟩) tw_422 tw_423 rfl rfl (Nat.le_of_ble_eq_true rfl) dX11_holds_5 (Nat.zero_le _) ?_
  refine z_astore_n C [(3, .ref (B.1 + (11 + d))), (0, .ref (B.1 + 0)), (1, .int x), (2, .int w)] dX11_holds_8 rfl (by decide) rfl ?_
  refine z_aload_n C dX11_holds_9 0 rfl rfl ?_
  refine z_ifnull C dX11_holds_10 ?_
  refine z_iload_n C dX11_holds_13 3 rfl rfl ?_
  refine z_bipush C dX11_holds_14 kb_7 ?_
  refine f_callSr C hl (As := [.int w, .int 7]) (rest := []) (c_X11_within l B s t w 7) (zCB (nA := 2) C rfl rfl tw_268 tw_1 tw_266 (by decide +kernel) ⟨Nat.le_of_ble_eq_true rfl, Nat.le_of_ble_eq_true rfl⟩) tw_267 rfl rfl (Nat.le_of_ble_eq_true rfl) dX11_holds_16 (Nat.zero_le _) ?_
  refine z_ifb_ne C 29 dX11_holds_19 (by decide) (fun _ => ?_) (fun hbr => Bool.noConfusion (show false = true from hbr.symm.trans g))
  refine z_iload_n C dX11_holds_29 3 rfl rfl ?_
  refine f_callSr C hl (As := [.int w]) (rest := []) (c_X11_bitOf l B s t w) (zCB (nA := 1) C rfl rfl tw_431 tw_1 tw_475 (by decide +kernel) ⟨Nat.le_of_ble_eq_true rfl, Nat.le_of_ble_eq_true rfl⟩) tw_430 rfl rfl (Nat.le_of_ble_eq_true rfl) dX11_holds_30 (Nat.zero_le _) ?_
  refine z_istore C [(4, .int (wBit w)), (3, .ref (B.1 + (11 + d))), (0, .ref (B.1 + 0)), (1, .int x), (2, .int w)] dX11_holds_33 (by decide) rfl ?_
  refine z_aload_n C dX11_holds_35 1 rfl rfl ?_
  refine f_get0 C 1 (v := .int (s (11 + d) 1)) (by decide) tw_122 rfl (zk_dep d (by omega)) (by omega) rfl dX11_holds_36 ?_
  refine z_iload C dX11_holds_39 0 rfl ?_
  refine z_iconst C dX11_holds_41 ki_m1 ?_
  refine z_ixor C dX11_holds_42 ?_
  refine z_iand C dX11_holds_43 ?_
  refine z_istore C [(5, .int ((s (11 + d) 1) &&& ((wBit w) ^^^ (-1)))), (4, .int (wBit w)), (3, .ref (B.1 + (11 + d))), (0, .ref (B.1 + 0)), (1, .int x), (2, .int w)] dX11_holds_44 (by decide) rfl ?_
  refine z_aload_n C dX11_holds_46 2 rfl rfl ?_
  refine f_get0 C 2 (v := .int (s (11 + d) 2)) (by decide) tw_125 rfl (zk_dep d (by omega)) (by omega) rfl dX11_holds_47 ?_
  refine z_iload C dX11_holds_50 1 rfl ?_
  refine z_iconst C dX11_holds_52 ki_m1 ?_
  refine z_ixor C dX11_holds_53 ?_
  refine z_iand C dX11_holds_54 ?_
  refine z_istore C [(6, .int ((s (11 + d) 2) &&& ((wBit w) ^^^ (-1)))), (5, .int ((s (11 + d) 1) &&& ((wBit w) ^^^ (-1)))), (4, .int (wBit w)), (3, .ref (B.1 + (11 + d))), (0, .ref (B.1 + 0)), (1, .int x), (2, .int w)] dX11_holds_55 (by decide) rfl ?_
  refine z_aload_n C dX11_holds_57 4 rfl rfl ?_
  refine z_iload_n C dX11_holds_58 5 rfl rfl ?_
  refine z_aload_n C dX11_holds_59 3 rfl rfl ?_
  refine f_get0 C 0 (v := .int (s (11 + d) 0)) (by decide) tw_119 rfl (zk_dep d (by omega)) (by omega) rfl dX11_holds_60 ?_
  refine z_iload C dX11_holds_63 1 rfl ?_
  refine z_iload C dX11_holds_65 2 rfl ?_
  refine z_ior C dX11_holds_67 ?_
  refine z_iload C dX11_holds_68 0 rfl ?_
  refine f_callVr C hl (As := [.int x, .int (s (11 + d) 0), .int (((s (11 + d) 1) &&& ((wBit w) ^^^ (-1))) ||| (wBit w)), .int ((s (11 + d) 2) &&& ((wBit w) ^^^ (-1)))]) (rest := []) (c_X11_notesFit l B s t x (s (11 + d) 0) (((s (11 + d) 1) &&& ((wBit w) ^^^ (-1))) ||| (wBit w)) ((s (11 + d) 2) &&& ((wBit w) ^^^ (-1))) hK M hM hM6 hB) zb_0 (zg_11 zk_0) rfl (zCB (nA := 4) C rfl rfl tw_664 tw_1 tw_661 (by decide +kernel) ⟨Nat.le_of_ble_eq_true rfl, Nat.le_of_ble_eq_true rfl⟩) tw_663 tp_21 rfl rfl (Nat.le_of_ble_eq_true rfl) dX11_holds_70 (Nat.zero_le _) ?_
  refine f_callSr C hl (As := [.int (zi (wFit s x (s (11 + d) 0) (((s (11 + d) 1) &&& ((wBit w) ^^^ (-1))) ||| (wBit w)) ((s (11 + d) 2) &&& ((wBit w) ^^^ (-1))) M))]) (rest := []) (c_X11_oneIf l B s t (wFit s x (s (11 + d) 0) (((s (11 + d) 1) &&& ((wBit w) ^^^ (-1))) ||| (wBit w)) ((s (11 + d) 2) &&& ((wBit w) ^^^ (-1))) M)) (zCB (nA := 1) C rfl rfl tw_576 tw_1 tw_574 (by decide +kernel) ⟨Nat.le_of_ble_eq_true rfl, Nat.le_of_ble_eq_true rfl⟩) tw_575 rfl rfl (Nat.le_of_ble_eq_true rfl) dX11_holds_73 (Nat.zero_le _) ?_
  refine z_istore C [(7, .int (zi (wFit s x (s (11 + d) 0) (((s (11 + d) 1) &&& ((wBit w) ^^^ (-1))) ||| (wBit w)) ((s (11 + d) 2) &&& ((wBit w) ^^^ (-1))) M))), (6, .int ((s (11 + d) 2) &&& ((wBit w) ^^^ (-1)))), (5, .int ((s (11 + d) 1) &&& ((wBit w) ^^^ (-1)))), (4, .int (wBit w)), (3, .ref (B.1 + (11 + d))), (0, .ref (B.1 + 0)), (1, .int x), (2, .int w)] dX11_holds_76 (by decide) rfl ?_
  refine z_aload_n C dX11_holds_78 5 rfl rfl ?_
  refine z_iload_n C dX11_holds_79 6 rfl rfl ?_
  refine z_aload_n C dX11_holds_80 4 rfl rfl ?_
  refine f_get0 C 0 (v := .int (s (11 + d) 0)) (by decide) tw_119 rfl (zk_dep d (by omega)) (by omega) rfl dX11_holds_81 ?_
  refine z_iload C dX11_holds_84 2 rfl ?_
  refine z_iload C dX11_holds_86 1 rfl ?_
  refine z_iload C dX11_holds_88 3 rfl ?_
  refine z_ior C dX11_holds_90 ?_
  refine f_callVr C hl (As := [.int x, .int (s (11 + d) 0), .int ((s (11 + d) 1) &&& ((wBit w) ^^^ (-1))), .int (((s (11 + d) 2) &&& ((wBit w) ^^^ (-1))) ||| (wBit w))]) (rest := []) (c_X11_notesFit l B s t x (s (11 + d) 0) ((s (11 + d) 1) &&& ((wBit w) ^^^ (-1))) (((s (11 + d) 2) &&& ((wBit w) ^^^ (-1))) ||| (wBit w)) hK M hM hM6 hB) zb_0 (zg_11 zk_0) rfl (zCB (nA := 4) C rfl rfl tw_664 tw_1 tw_661 (by decide +kernel) ⟨Nat.le_of_ble_eq_true rfl, Nat.le_of_ble_eq_true rfl⟩) tw_663 tp_21 rfl rfl (Nat.le_of_ble_eq_true rfl) dX11_holds_91 (Nat.zero_le _) ?_
  refine f_callSr C hl (As := [.int (zi (wFit s x (s (11 + d) 0) ((s (11 + d) 1) &&& ((wBit w) ^^^ (-1))) (((s (11 + d) 2) &&& ((wBit w) ^^^ (-1))) ||| (wBit w)) M))]) (rest := []) (c_X11_oneIf l B s t (wFit s x (s (11 + d) 0) ((s (11 + d) 1) &&& ((wBit w) ^^^ (-1))) (((s (11 + d) 2) &&& ((wBit w) ^^^ (-1))) ||| (wBit w)) M)) (zCB (nA := 1) C rfl rfl tw_576 tw_1 tw_574 (by decide +kernel) ⟨Nat.le_of_ble_eq_true rfl, Nat.le_of_ble_eq_true rfl⟩) tw_575 rfl rfl (Nat.le_of_ble_eq_true rfl) dX11_holds_94 (Nat.zero_le _) ?_
  refine z_istore C [(8, .int (zi (wFit s x (s (11 + d) 0) ((s (11 + d) 1) &&& ((wBit w) ^^^ (-1))) (((s (11 + d) 2) &&& ((wBit w) ^^^ (-1))) ||| (wBit w)) M))), (7, .int (zi (wFit s x (s (11 + d) 0) (((s (11 + d) 1) &&& ((wBit w) ^^^ (-1))) ||| (wBit w)) ((s (11 + d) 2) &&& ((wBit w) ^^^ (-1))) M))), (6, .int ((s (11 + d) 2) &&& ((wBit w) ^^^ (-1)))), (5, .int ((s (11 + d) 1) &&& ((wBit w) ^^^ (-1)))), (4, .int (wBit w)), (3, .ref (B.1 + (11 + d))), (0, .ref (B.1 + 0)), (1, .int x), (2, .int w)] dX11_holds_97 (by decide) rfl ?_
  refine z_aload_n C dX11_holds_99 6 rfl rfl ?_
  refine z_iload_n C dX11_holds_100 7 rfl rfl ?_
  refine z_aload_n C dX11_holds_101 5 rfl rfl ?_
  refine f_get0 C 0 (v := .int (s (11 + d) 0)) (by decide) tw_119 rfl (zk_dep d (by omega)) (by omega) rfl dX11_holds_102 ?_
  refine z_iload C dX11_holds_105 3 rfl ?_
  refine z_iload C dX11_holds_107 2 rfl ?_
  refine f_callVr C hl (As := [.int x, .int (s (11 + d) 0), .int ((s (11 + d) 1) &&& ((wBit w) ^^^ (-1))), .int ((s (11 + d) 2) &&& ((wBit w) ^^^ (-1)))]) (rest := []) (c_X11_notesFit l B s t x (s (11 + d) 0) ((s (11 + d) 1) &&& ((wBit w) ^^^ (-1))) ((s (11 + d) 2) &&& ((wBit w) ^^^ (-1))) hK M hM hM6 hB) zb_0 (zg_11 zk_0) rfl (zCB (nA := 4) C rfl rfl tw_664 tw_1 tw_661 (by decide +kernel) ⟨Nat.le_of_ble_eq_true rfl, Nat.le_of_ble_eq_true rfl⟩) tw_663 tp_21 rfl rfl (Nat.le_of_ble_eq_true rfl) dX11_holds_109 (Nat.zero_le _) ?_
  refine f_callSr C hl (As := [.int (zi (wFit s x (s (11 + d) 0) ((s (11 + d) 1) &&& ((wBit w) ^^^ (-1))) ((s (11 + d) 2) &&& ((wBit w) ^^^ (-1))) M))]) (rest := []) (c_X11_oneIf l B s t (wFit s x (s (11 + d) 0) ((s (11 + d) 1) &&& ((wBit w) ^^^ (-1))) ((s (11 + d) 2) &&& ((wBit w) ^^^ (-1))) M)) (zCB (nA := 1) C rfl rfl tw_576 tw_1 tw_574 (by decide +kernel) ⟨Nat.le_of_ble_eq_true rfl, Nat.le_of_ble_eq_true rfl⟩) tw_575 rfl rfl (Nat.le_of_ble_eq_true rfl) dX11_holds_112 (Nat.zero_le _) ?_
  refine z_istore C [(9, .int (zi (wFit s x (s (11 + d) 0) ((s (11 + d) 1) &&& ((wBit w) ^^^ (-1))) ((s (11 + d) 2) &&& ((wBit w) ^^^ (-1))) M))), (8, .int (zi (wFit s x (s (11 + d) 0) ((s (11 + d) 1) &&& ((wBit w) ^^^ (-1))) (((s (11 + d) 2) &&& ((wBit w) ^^^ (-1))) ||| (wBit w)) M))), (7, .int (zi (wFit s x (s (11 + d) 0) (((s (11 + d) 1) &&& ((wBit w) ^^^ (-1))) ||| (wBit w)) ((s (11 + d) 2) &&& ((wBit w) ^^^ (-1))) M))), (6, .int ((s (11 + d) 2) &&& ((wBit w) ^^^ (-1)))), (5, .int ((s (11 + d) 1) &&& ((wBit w) ^^^ (-1)))), (4, .int (wBit w)), (3, .ref (B.1 + (11 + d))), (0, .ref (B.1 + 0)), (1, .int x), (2, .int w)] dX11_holds_115 (by decide) rfl ?_
  refine z_iload C dX11_holds_117 2 rfl ?_
  refine z_iload C dX11_holds_119 1 rfl ?_
  refine z_iconst C dX11_holds_121 ki_1 ?_
  refine z_ishl C dX11_holds_122 ?_
  refine z_ior C dX11_holds_123 ?_
  refine z_iload C dX11_holds_124 0 rfl ?_
  refine z_iconst C dX11_holds_126 ki_2 ?_
  refine z_ishl C dX11_holds_127 ?_
  refine z_ior C dX11_holds_128 ?_
  refine z_iret C E rfl dX11_holds_129 rfl (Nat.le_refl _) ⟨rfl, rfl⟩
