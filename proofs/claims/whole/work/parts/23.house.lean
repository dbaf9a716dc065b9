/-- a bundle is of most laws so far: of the bundles 1 .. n -/
def wBest (ok : Int32 → Bool) (free : Int32) : Nat → Int32
  | 0 => 0
  | n + 1 => if (nI (n + 1) &&& (free ^^^ (-1)) = 0) ∧ ¬ wPop (nI (n + 1)) ≤ wPop (wBest ok free n) ∧ ok (nI (n + 1)) = true then nI (n + 1) else wBest ok free n
theorem wBest_r8 (ok : Int32 → Bool) (free : Int32) : ∀ n, n < 256 → r8 (wBest ok free n) := by
  intro n
  induction n with
  | zero => intro _; exact r8_of (n := 0) (by decide)
  | succ n ih =>
    intro h
    unfold wBest
    split
    · exact r8_of h
    · exact ih (by omega)
theorem wBest_n1 {ok : Int32 → Bool} {free a : Int32} {n : Nat} (ha : a = wBest ok free n) (h : ¬ nI (n + 1) &&& (free ^^^ (-1)) = 0) : a = wBest ok free (n + 1) := by rw [wBest, if_neg (fun q => h q.1)]; exact ha
theorem wBest_n2 {ok : Int32 → Bool} {free a : Int32} {n : Nat} (ha : a = wBest ok free n) (h : wPop (nI (n + 1)) ≤ wPop a) : a = wBest ok free (n + 1) := by rw [wBest, if_neg (fun q => q.2.1 (ha ▸ h))]; exact ha
theorem wBest_n3 {ok : Int32 → Bool} {free a : Int32} {n : Nat} (ha : a = wBest ok free n) (h : ok (nI (n + 1)) = false) : a = wBest ok free (n + 1) := by rw [wBest, if_neg (fun q => by rw [h] at q; exact absurd q.2.2 (by decide))]; exact ha
theorem wBest_y {ok : Int32 → Bool} {free a : Int32} {n : Nat} (ha : a = wBest ok free n) (h1 : nI (n + 1) &&& (free ^^^ (-1)) = 0) (h2 : ¬ wPop (nI (n + 1)) ≤ wPop a) (h3 : ok (nI (n + 1)) = true) : nI (n + 1) = wBest ok free (n + 1) := by rw [wBest, if_pos ⟨h1, ha ▸ h2, h3⟩]
theorem or_tt {A B : Prop} [Decidable A] [Decidable B] (h : A) : (decide A || decide B) = true := by simp [h]
theorem or_ft {A B : Prop} [Decidable A] [Decidable B] (h : B) : (decide A || decide B) = true := by simp [h]
theorem or_ff {A B : Prop} [Decidable A] [Decidable B] (h : ¬ A) (k : ¬ B) : (decide A || decide B) = false := by simp [h, k]
/-- bits of the places of which p holds -/
def wCol (p : Nat → Bool) : Nat → Int32
  | 0 => 0
  | n + 1 => if p n = true then wCol p n ||| wBit (nI n) else wCol p n
/-- all of the first n -/
def wAll (p : Nat → Bool) : Nat → Bool
  | 0 => true
  | n + 1 => wAll p n && p n
theorem wAll_no {p : Nat → Bool} {i N : Nat} (hi : i < N) (h : p i = false) : wAll p N = false := by
  induction N with
  | zero => omega
  | succ n ih =>
    unfold wAll
    by_cases e : i = n
    · subst e; rw [h, Bool.and_false]
    · rw [ih (by omega), Bool.false_and]
theorem zi_inj {a b : Bool} (h : zi a = zi b) : a = b := by cases a <;> cases b <;> first | rfl | exact absurd h (by decide)
theorem zi_nej {a b : Bool} (h : ¬ zi a = zi b) : ¬ a = b := fun e => h (by rw [e])
/-- -1, 0, 1 .. -/
def wOth (i : Nat) : Int32 := nI i - 1
theorem wOth_inc (i : Nat) : wOth i + Int32.ofInt 1 = wOth (i + 1) := by
  show nI i - 1 + 1 = nI (i + 1) - 1
  rw [← nI_1, Int32.sub_add_cancel, Int32.add_sub_cancel]
theorem wOth_toInt {i : Nat} (h : i < 100) : (wOth i).toInt = (i : Int) - 1 := pk_sub_toInt (a := i) (b := 1) (by omega) (by decide)
theorem wOth_ge {i N : Nat} (hi : i < 100) (hN : N < 100) (h : i = N + 1) : nI N ≤ wOth i := by
  rw [Int32.le_iff_toInt_le, wOth_toInt hi, nI_toInt (by omega)]; omega
theorem wOth_nge {i N : Nat} (hN : N < 99) (h : i < N + 1) : ¬ nI N ≤ wOth i := by
  rw [Int32.le_iff_toInt_le, wOth_toInt (by omega), nI_toInt (by omega)]; omega
/-- whether it is stopped, when one buys and the other hires -/
def wBet (lk bu who bo hi : Int32) : Bool := decide (¬ bu = 0) && decide (¬ ((who ||| (wBit hi &&& (lk ^^^ (-1)))) &&& (wBit bo ^^^ (-1))) = 0)
def wOw (lk bu who bo hi : Int32) (n : Nat) : Bool := if wBet lk bu who bo hi = true then wBet lk bu who (wOth n) hi else wBet lk bu who bo (wOth n)
def wPair (lk bu who bo hi : Int32) (n : Nat) : Bool := wAll (fun i => wOw lk bu who bo hi i == wBet lk bu who bo hi) n
/-- the notes fit -/
def wNote (s : zS) (dep k lo ha : Int32) (n : Nat) : Bool := decide (¬ s (18 + n) 0 = dep) || (wStop k lo ha (s (18 + n) 1) (s (18 + n) 2) == decide (s (18 + n) 3 = 1))
def wFit (s : zS) (dep k lo ha : Int32) (M : Nat) : Bool := wAll (wNote s dep k lo ha) M
def wMove (s : zS) (o : Nat) (who bu : Int32) : zS := if who = 0 then zu s o 1 (s o 1 ||| bu) else wClose (zu s o 1 0) o
abbrev mX11_moveIn : zM := (yX11_moveIn, cX11_moveIn, 4, (some .int), { frames := 5, cells := 0, slots := 0, locals := 122 })
set_option maxRecDepth 100000 in
set_option maxHeartbeats 4000000 in
theorem c_X11_moveIn (l : Launch) (B : zB) (s : zS) (t : zL) (o : Nat) (ho : zk o = 8) (lo : o < 124) (bu : Int32) (hb : r8 bu) (N : Nat) (hN : s 8 4 = nI N) (h6 : N ≤ 6) (hK : ∀ d, d < N → ∃ c, c < 6 ∧ s (11 + d) 0 = nI c) : zD l B mX11_moveIn s t [.ref (B.1 + 0), .ref (B.1 + o), .int bu] (some (.int (wWho (fun d => s (11 + d) 0) (fun d => s (11 + d) 1) (fun d => s (11 + d) 2) (s o 3 ||| s o 4) (s o 0) bu N))) (wMove s o (wWho (fun d => s (11 + d) 0) (fun d => s (11 + d) 1) (fun d => s (11 + d) 2) (s o 3 ||| s o 4) (s o 0) bu N) bu) t := by
  refine z_met (by decide) (Nat.le_of_ble_eq_true rfl) ?_
  intro X hl C E hnm
  show Zf X B mX11_moveIn s t 0 [(0, .ref (B.1 + 0)), (1, .ref (B.1 + o)), (2, .int bu)] []
  refine z_aload_n C dX11_moveIn_0 0 rfl rfl ?_
  refine z_aload_n C dX11_moveIn_1 1 rfl rfl ?_
  refine z_iload_n C dX11_moveIn_2 2 rfl rfl ?_
  refine f_callVr C hl (As := [.ref (B.1 + o), .int bu]) (rest := []) (c_X11_stoppers l B s t o ho lo bu hb N hN h6 hK) zb_0 (zg_11 zk_0) rfl (zCB (nA := 2) C rfl rfl tw_473 tw_1 tw_470 (by decide +kernel) ⟨Nat.le_of_ble_eq_true rfl, Nat.le_of_ble_eq_true rfl⟩) tw_472 tp_10 rfl rfl (Nat.le_of_ble_eq_true rfl) dX11_moveIn_3 (Nat.zero_le _) ?_
  refine z_istore_n C [(3, .int (wWho (fun d => s (11 + d) 0) (fun d => s (11 + d) 1) (fun d => s (11 + d) 2) (s o 3 ||| s o 4) (s o 0) bu N)), (0, .ref (B.1 + 0)), (1, .ref (B.1 + o)), (2, .int bu)] dX11_moveIn_6 rfl (by decide) rfl ?_
  refine z_iload_n C dX11_moveIn_7 0 rfl rfl ?_
  refine z_if_ne C 24 dX11_moveIn_8 (by decide) (fun h8 => ?_) (fun h8 => ?_)
  · refine z_aload_n C dX11_moveIn_24 2 rfl rfl ?_
    refine z_iconst C dX11_moveIn_25 ki_0 ?_
    refine f_put8_1 C tw_87 ho lo dX11_moveIn_26 ?_
    refine z_aload_n C dX11_moveIn_29 2 rfl rfl ?_
    refine f_callVv C hl (As := []) (rest := []) (c_X8_close l B (zu s o 1 0) t o ho lo) lo (zg_8 ho) rfl (zCB (nA := 0) C rfl rfl tw_527 tw_9 tw_524 (by decide +kernel) ⟨Nat.le_of_ble_eq_true rfl, Nat.le_of_ble_eq_true rfl⟩) tw_525 tw_526 rfl rfl (Nat.le_of_ble_eq_true rfl) dX11_moveIn_30 (Nat.zero_le _) ?_
    refine z_iload_n C dX11_moveIn_33 0 rfl rfl ?_
    refine z_iret C E rfl dX11_moveIn_34 rfl (Nat.le_refl _) ⟨rfl, congrArg (fun z => zg B z t) (by rw [wMove, if_neg h8])⟩
  · refine z_aload_n C dX11_moveIn_11 2 rfl rfl ?_
    refine z_dup C dX11_moveIn_12 rfl ?_
    refine f_get8 C 1 (v := .int (s o 1)) (by decide) tw_87 rfl ho lo rfl dX11_moveIn_13 ?_
    refine z_iload_n C dX11_moveIn_16 3 rfl rfl ?_
    refine z_ior C dX11_moveIn_17 ?_
    refine f_put8_1 C tw_87 ho lo dX11_moveIn_18 ?_
    refine z_goto C 33 dX11_moveIn_21 (by decide) ?_
    refine z_iload_n C dX11_moveIn_33 0 rfl rfl ?_
    refine z_iret C E rfl dX11_moveIn_34 rfl (Nat.le_refl _) ⟨rfl, congrArg (fun z => zg B z t) (by rw [wMove, if_pos h8])⟩
abbrev mX11_bestBundle : zM := (yX11_bestBundle, cX11_bestBundle, 7, (some .int), { frames := 5, cells := 0, slots := 0, locals := 122 })
set_option maxRecDepth 100000 in
set_option maxHeartbeats 4000000 in
theorem l_X11_bestBundle {l : Launch} {B : zB} {s : zS} {t : zL} {X : zX} (hl : X.2.1 = l) (C : zC X B mX11_bestBundle) (mo sp : Int32) (N : Nat) (hN : s 8 4 = nI N) (h6 : N ≤ 6) (hK : ∀ d, d < N → ∃ c, c < 6 ∧ s (11 + d) 0 = nI c) (E : zE X B mX11_bestBundle 124 0 0 (zR B (some (.int (wBest (fun b => decide (wWho (fun d => s (11 + d) 0) (fun d => s (11 + d) 1) (fun d => s (11 + d) 2) (s 9 3 ||| s 9 4) (s 9 0) b N &&& (sp ^^^ (-1)) = 0) || decide (wSum (fun d => s (11 + d) 0) (fun d => s (11 + d) 3) (wWho (fun d => s (11 + d) 0) (fun d => s (11 + d) 1) (fun d => s (11 + d) 2) (s 9 3 ||| s 9 4) (s 9 0) b N &&& (sp ^^^ (-1))) N ≤ mo)) (255 &&& ((s 9 1 ||| s 9 2) ^^^ (-1))) 255))) s t)) : ∀ (m : Nat) (i : Nat) (a : Int32), i + m = 255 → a = wBest (fun b => decide (wWho (fun d => s (11 + d) 0) (fun d => s (11 + d) 1) (fun d => s (11 + d) 2) (s 9 3 ||| s 9 4) (s 9 0) b N &&& (sp ^^^ (-1)) = 0) || decide (wSum (fun d => s (11 + d) 0) (fun d => s (11 + d) 3) (wWho (fun d => s (11 + d) 0) (fun d => s (11 + d) 1) (fun d => s (11 + d) 2) (s 9 3 ||| s 9 4) (s 9 0) b N &&& (sp ^^^ (-1))) N ≤ mo)) (255 &&& ((s 9 1 ||| s 9 2) ^^^ (-1))) i → Zf X B mX11_bestBundle s t 17 [(5, .int (nI (i + 1))), (4, .int a), (3, .int (255 &&& ((s 9 1 ||| s 9 2) ^^^ (-1)))), (0, .ref (B.1 + 0)), (1, .int mo), (2, .int sp)] [] := by
  intro m
  induction m with
  | zero =>
    intro i a hi ha
    obtain rfl : i = 255 := by omega
    refine z_iload C dX11_bestBundle_17 0 rfl ?_
    refine z_sipush C dX11_bestBundle_19 ks_255 ?_
    refine z_icmp_gt C 91 dX11_bestBundle_22 (by decide) (fun _ => ?_) (fun hbr => absurd (by decide) hbr)
    refine z_iload C dX11_bestBundle_91 1 rfl ?_
    refine z_iret C E rfl dX11_bestBundle_93 rfl (Nat.le_refl _) ⟨by rw [ha], rfl⟩
  | succ m ih =>
    intro i a hi0 ha
    have hi : i < 255 := by omega
    have h8 : r8 (nI (i + 1)) := r8_of (by omega)
    have h9 : r8 a := by rw [ha]; exact wBest_r8 _ _ _ (by omega)
    refine z_iload C dX11_bestBundle_17 0 rfl ?_
    refine z_sipush C dX11_bestBundle_19 ks_255 ?_
    refine z_icmp_gt C 91 dX11_bestBundle_22 (by decide) (fun hbr => absurd hbr (show ¬ nI 255 < nI (i + 1) from nI_nlt (by omega) (by decide))) (fun _ => ?_)
    refine z_iload C dX11_bestBundle_25 0 rfl ?_
    refine z_iload_n C dX11_bestBundle_27 2 rfl rfl ?_
    refine z_iconst C dX11_bestBundle_28 ki_m1 ?_
    refine z_ixor C dX11_bestBundle_29 ?_
    refine z_iand C dX11_bestBundle_30 ?_
    refine z_if_ne C 85 dX11_bestBundle_31 (by decide) (fun h31 => ?_) (fun h31 => ?_)
    · refine z_iinc C [(5, .int (nI (i + 1 + 1))), (4, .int a), (3, .int (255 &&& ((s 9 1 ||| s 9 2) ^^^ (-1)))), (0, .ref (B.1 + 0)), (1, .int mo), (2, .int sp)] dX11_bestBundle_85 0 rfl (nI_inc (i + 1)) (by decide) rfl ?_
      refine z_goto C 17 dX11_bestBundle_88 (by decide) ?_
      exact z_lv [0, 1, 2, 3, 4, 5] rfl (ih (i + 1) _ (by omega) (wBest_n1 ha h31))
    · refine z_iload C dX11_bestBundle_34 0 rfl ?_
      refine f_callSr C hl (As := [.int (nI (i + 1))]) (rest := []) (c_J6_bitCount_0f7a4 l B s t (nI (i + 1)) h8) (zCB (nA := 1) C rfl rfl tw_486 tw_19 tw_484 (by decide +kernel) ⟨Nat.le_of_ble_eq_true rfl, Nat.le_of_ble_eq_true rfl⟩) tw_485 rfl rfl (Nat.le_of_ble_eq_true rfl) dX11_bestBundle_36 (Nat.zero_le _) ?_
      refine z_iload C dX11_bestBundle_39 1 rfl ?_
      refine f_callSr C hl (As := [.int a]) (rest := [.int (wPop (nI (i + 1)))]) (c_J6_bitCount_0f7a4 l B s t a h9) (zCB (nA := 1) C rfl rfl tw_486 tw_19 tw_484 (by decide +kernel) ⟨Nat.le_of_ble_eq_true rfl, Nat.le_of_ble_eq_true rfl⟩) tw_485 rfl rfl (Nat.le_of_ble_eq_true rfl) dX11_bestBundle_41 (Nat.zero_le _) ?_
      refine z_icmp_le C 85 dX11_bestBundle_44 (by decide) (fun h44 => ?_) (fun h44 => ?_)
      · refine z_iinc C [(5, .int (nI (i + 1 + 1))), (4, .int a), (3, .int (255 &&& ((s 9 1 ||| s 9 2) ^^^ (-1)))), (0, .ref (B.1 + 0)), (1, .int mo), (2, .int sp)] dX11_bestBundle_85 0 rfl (nI_inc (i + 1)) (by decide) rfl ?_
        refine z_goto C 17 dX11_bestBundle_88 (by decide) ?_
        exact z_lv [0, 1, 2, 3, 4, 5] rfl (ih (i + 1) _ (by omega) (wBest_n2 ha h44))
      · refine z_aload_n C dX11_bestBundle_47 3 rfl rfl ?_
        refine z_aload_n C dX11_bestBundle_48 3 rfl rfl ?_
        refine f_get11 C 1 (v := .ref (B.1 + 8)) (by decide) tw_226 rfl zk_0 zb_0 rfl dX11_bestBundle_49 ?_
        refine f_get1 C 0 (v := .ref (B.1 + 9)) (by decide) tw_168 rfl zk_8 zb_8 rfl dX11_bestBundle_52 ?_
        refine z_iload C dX11_bestBundle_55 0 rfl ?_
        refine f_callVr C hl (As := [.ref (B.1 + 9), .int (nI (i + 1))]) (rest := []) (c_X11_stoppers l B s t 9 zk_9 zb_9 (nI (i + 1)) h8 N hN h6 hK) zb_0 (zg_11 zk_0) rfl (zCB (nA := 2) C rfl rfl tw_473 tw_1 tw_470 (by decide +kernel) ⟨Nat.le_of_ble_eq_true rfl, Nat.le_of_ble_eq_true rfl⟩) tw_472 tp_10 rfl rfl (Nat.le_of_ble_eq_true rfl) dX11_bestBundle_57 (Nat.zero_le _) ?_
        refine z_iload_n C dX11_bestBundle_60 5 rfl rfl ?_
        refine z_iconst C dX11_bestBundle_61 ki_m1 ?_
        refine z_ixor C dX11_bestBundle_62 ?_
        refine z_iand C dX11_bestBundle_63 ?_
        refine z_istore C [(6, .int ((wWho (fun d => s (11 + d) 0) (fun d => s (11 + d) 1) (fun d => s (11 + d) 2) (s 9 3 ||| s 9 4) (s 9 0) (nI (i + 1)) N) &&& (sp ^^^ (-1)))), (5, .int (nI (i + 1))), (4, .int a), (3, .int (255 &&& ((s 9 1 ||| s 9 2) ^^^ (-1)))), (0, .ref (B.1 + 0)), (1, .int mo), (2, .int sp)] dX11_bestBundle_64 (by decide) rfl ?_
        refine z_iload C dX11_bestBundle_66 0 rfl ?_
        refine z_if_eq C 81 dX11_bestBundle_68 (by decide) (fun h68 => ?_) (fun h68 => ?_)
        · refine z_iload C dX11_bestBundle_81 1 rfl ?_
          refine z_istore C [(4, .int (nI (i + 1))), (6, .int ((wWho (fun d => s (11 + d) 0) (fun d => s (11 + d) 1) (fun d => s (11 + d) 2) (s 9 3 ||| s 9 4) (s 9 0) (nI (i + 1)) N) &&& (sp ^^^ (-1)))), (5, .int (nI (i + 1))), (3, .int (255 &&& ((s 9 1 ||| s 9 2) ^^^ (-1)))), (0, .ref (B.1 + 0)), (1, .int mo), (2, .int sp)] dX11_bestBundle_83 (by decide) rfl ?_
          refine z_iinc C [(5, .int (nI (i + 1 + 1))), (4, .int (nI (i + 1))), (6, .int ((wWho (fun d => s (11 + d) 0) (fun d => s (11 + d) 1) (fun d => s (11 + d) 2) (s 9 3 ||| s 9 4) (s 9 0) (nI (i + 1)) N) &&& (sp ^^^ (-1)))), (3, .int (255 &&& ((s 9 1 ||| s 9 2) ^^^ (-1)))), (0, .ref (B.1 + 0)), (1, .int mo), (2, .int sp)] dX11_bestBundle_85 2 rfl (nI_inc (i + 1)) (by decide) rfl ?_
          refine z_goto C 17 dX11_bestBundle_88 (by decide) ?_
          exact z_lv [0, 1, 3, 4, 5, 6] rfl (ih (i + 1) _ (by omega) (wBest_y ha h31 h44 (or_tt h68)))
        · refine z_aload_n C dX11_bestBundle_71 4 rfl rfl ?_
          refine z_iload C dX11_bestBundle_72 0 rfl ?_
          refine f_callVr C hl (As := [.int ((wWho (fun d => s (11 + d) 0) (fun d => s (11 + d) 1) (fun d => s (11 + d) 2) (s 9 3 ||| s 9 4) (s 9 0) (nI (i + 1)) N) &&& (sp ^^^ (-1)))]) (rest := []) (c_X11_costOfAll l B s t ((wWho (fun d => s (11 + d) 0) (fun d => s (11 + d) 1) (fun d => s (11 + d) 2) (s 9 3 ||| s 9 4) (s 9 0) (nI (i + 1)) N) &&& (sp ^^^ (-1))) N hN h6 hK) zb_0 (zg_11 zk_0) rfl (zCB (nA := 1) C rfl rfl tw_604 tw_1 tw_601 (by decide +kernel) ⟨Nat.le_of_ble_eq_true rfl, Nat.le_of_ble_eq_true rfl⟩) tw_603 tp_16 rfl rfl (Nat.le_of_ble_eq_true rfl) dX11_bestBundle_74 (Nat.zero_le _) ?_
          refine z_iload_n C dX11_bestBundle_77 5 rfl rfl ?_
          refine z_icmp_gt C 85 dX11_bestBundle_78 (by decide) (fun h78 => ?_) (fun h78 => ?_)
          · refine z_iinc C [(5, .int (nI (i + 1 + 1))), (6, .int ((wWho (fun d => s (11 + d) 0) (fun d => s (11 + d) 1) (fun d => s (11 + d) 2) (s 9 3 ||| s 9 4) (s 9 0) (nI (i + 1)) N) &&& (sp ^^^ (-1)))), (4, .int a), (3, .int (255 &&& ((s 9 1 ||| s 9 2) ^^^ (-1)))), (0, .ref (B.1 + 0)), (1, .int mo), (2, .int sp)] dX11_bestBundle_85 1 rfl (nI_inc (i + 1)) (by decide) rfl ?_
            refine z_goto C 17 dX11_bestBundle_88 (by decide) ?_
            exact z_lv [0, 2, 3, 4, 5, 6] rfl (ih (i + 1) _ (by omega) (wBest_n3 ha (or_ff h68 (Int32.not_le.mpr h78))))
          · refine z_iload C dX11_bestBundle_81 1 rfl ?_
            refine z_istore C [(4, .int (nI (i + 1))), (6, .int ((wWho (fun d => s (11 + d) 0) (fun d => s (11 + d) 1) (fun d => s (11 + d) 2) (s 9 3 ||| s 9 4) (s 9 0) (nI (i + 1)) N) &&& (sp ^^^ (-1)))), (5, .int (nI (i + 1))), (3, .int (255 &&& ((s 9 1 ||| s 9 2) ^^^ (-1)))), (0, .ref (B.1 + 0)), (1, .int mo), (2, .int sp)] dX11_bestBundle_83 (by decide) rfl ?_
            refine z_iinc C [(5, .int (nI (i + 1 + 1))), (4, .int (nI (i + 1))), (6, .int ((wWho (fun d => s (11 + d) 0) (fun d => s (11 + d) 1) (fun d => s (11 + d) 2) (s 9 3 ||| s 9 4) (s 9 0) (nI (i + 1)) N) &&& (sp ^^^ (-1)))), (3, .int (255 &&& ((s 9 1 ||| s 9 2) ^^^ (-1)))), (0, .ref (B.1 + 0)), (1, .int mo), (2, .int sp)] dX11_bestBundle_85 2 rfl (nI_inc (i + 1)) (by decide) rfl ?_
            refine z_goto C 17 dX11_bestBundle_88 (by decide) ?_
            exact z_lv [0, 1, 3, 4, 5, 6] rfl (ih (i + 1) _ (by omega) (wBest_y ha h31 h44 (or_ft (Int32.not_lt.mp h78))))
set_option maxRecDepth 100000 in
set_option maxHeartbeats 4000000 in
theorem c_X11_bestBundle (l : Launch) (B : zB) (s : zS) (t : zL) (mo sp : Int32) (N : Nat) (hN : s 8 4 = nI N) (h6 : N ≤ 6) (hK : ∀ d, d < N → ∃ c, c < 6 ∧ s (11 + d) 0 = nI c) : zD l B mX11_bestBundle s t [.ref (B.1 + 0), .int mo, .int sp] (some (.int (wBest (fun b => decide (wWho (fun d => s (11 + d) 0) (fun d => s (11 + d) 1) (fun d => s (11 + d) 2) (s 9 3 ||| s 9 4) (s 9 0) b N &&& (sp ^^^ (-1)) = 0) || decide (wSum (fun d => s (11 + d) 0) (fun d => s (11 + d) 3) (wWho (fun d => s (11 + d) 0) (fun d => s (11 + d) 1) (fun d => s (11 + d) 2) (s 9 3 ||| s 9 4) (s 9 0) b N &&& (sp ^^^ (-1))) N ≤ mo)) (255 &&& ((s 9 1 ||| s 9 2) ^^^ (-1))) 255))) s t := by
  refine z_met (by decide) (Nat.le_of_ble_eq_true rfl) ?_
  intro X hl C E hnm
  show Zf X B mX11_bestBundle s t 0 [(0, .ref (B.1 + 0)), (1, .int mo), (2, .int sp)] []
  refine z_aload_n C dX11_bestBundle_0 0 rfl rfl ?_
  refine f_get11 C 1 (v := .ref (B.1 + 8)) (by decide) tw_226 rfl zk_0 zb_0 rfl dX11_bestBundle_1 ?_
  refine f_get1 C 0 (v := .ref (B.1 + 9)) (by decide) tw_168 rfl zk_8 zb_8 rfl dX11_bestBundle_4 ?_
  refine f_callVr C hl (As := []) (rest := []) (c_X8_freeLaws l B s t 9 zk_9 zb_9) zb_9 (zg_8 zk_9) rfl (zCB (nA := 0) C rfl rfl tw_461 tw_9 tw_458 (by decide +kernel) ⟨Nat.le_of_ble_eq_true rfl, Nat.le_of_ble_eq_true rfl⟩) tw_459 tw_460 rfl rfl (Nat.le_of_ble_eq_true rfl) dX11_bestBundle_7 (Nat.zero_le _) ?_
  refine z_istore_n C [(3, .int (255 &&& ((s 9 1 ||| s 9 2) ^^^ (-1)))), (0, .ref (B.1 + 0)), (1, .int mo), (2, .int sp)] dX11_bestBundle_10 rfl (by decide) rfl ?_
  refine z_iconst C dX11_bestBundle_11 ki_0 ?_
  refine z_istore C [(4, .int 0), (3, .int (255 &&& ((s 9 1 ||| s 9 2) ^^^ (-1)))), (0, .ref (B.1 + 0)), (1, .int mo), (2, .int sp)] dX11_bestBundle_12 (by decide) rfl ?_
  refine z_iconst C dX11_bestBundle_14 ki_1 ?_
  refine z_istore C [(5, .int 1), (4, .int 0), (3, .int (255 &&& ((s 9 1 ||| s 9 2) ^^^ (-1)))), (0, .ref (B.1 + 0)), (1, .int mo), (2, .int sp)] dX11_bestBundle_15 (by decide) rfl ?_
  exact z_lv [0, 1, 2, 3, 4, 5] rfl (l_X11_bestBundle hl C mo sp N hN h6 hK E 255 0 0 (by omega) rfl)
abbrev mX11_stoppedBetween : zM := (yX11_stoppedBetween, cX11_stoppedBetween, 6, (some .boolean), { frames := 1, cells := 0, slots := 0, locals := 20 })
set_option maxRecDepth 100000 in
set_option maxHeartbeats 4000000 in
theorem c_X11_stoppedBetween (l : Launch) (B : zB) (s : zS) (t : zL) (bu who bo hi : Int32) : zD l B mX11_stoppedBetween s t [.ref (B.1 + 0), .int bu, .int who, .int bo, .int hi] (some (.int (zi (wBet (s 9 4) bu who bo hi)))) s t := by
  refine z_met (by decide) (Nat.le_of_ble_eq_true rfl) ?_
  intro X hl C E hnm
  show Zf X B mX11_stoppedBetween s t 0 [(0, .ref (B.1 + 0)), (1, .int bu), (2, .int who), (3, .int bo), (4, .int hi)] []
  refine z_iload C dX11_stoppedBetween_0 4 rfl ?_
  refine f_callSr C hl (As := [.int hi]) (rest := []) (c_X11_bitOf l B s t hi) (zCB (nA := 1) C rfl rfl tw_431 tw_1 tw_475 (by decide +kernel) ⟨Nat.le_of_ble_eq_true rfl, Nat.le_of_ble_eq_true rfl⟩) tw_430 rfl rfl (Nat.le_of_ble_eq_true rfl) dX11_stoppedBetween_2 (Nat.zero_le _) ?_
  refine z_aload_n C dX11_stoppedBetween_5 0 rfl rfl ?_
  refine f_get11 C 1 (v := .ref (B.1 + 8)) (by decide) tw_226 rfl zk_0 zb_0 rfl dX11_stoppedBetween_6 ?_
  refine f_get1 C 0 (v := .ref (B.1 + 9)) (by decide) tw_168 rfl zk_8 zb_8 rfl dX11_stoppedBetween_9 ?_
  refine f_get8 C 4 (v := .int (s 9 4)) (by decide) tw_94 rfl zk_9 zb_9 rfl dX11_stoppedBetween_12 ?_
  refine z_iconst C dX11_stoppedBetween_15 ki_m1 ?_
  refine z_ixor C dX11_stoppedBetween_16 ?_
  refine z_iand C dX11_stoppedBetween_17 ?_
  refine z_istore C [(5, .int ((wBit hi) &&& ((s 9 4) ^^^ (-1)))), (0, .ref (B.1 + 0)), (1, .int bu), (2, .int who), (3, .int bo), (4, .int hi)] dX11_stoppedBetween_18 (by decide) rfl ?_
  refine z_iload_n C dX11_stoppedBetween_20 2 rfl rfl ?_
  refine z_if_eq C 42 dX11_stoppedBetween_21 (by decide) (fun h21 => ?_) (fun h21 => ?_)
  · refine z_iconst C dX11_stoppedBetween_42 ki_0 ?_
    refine z_zret C E rfl dX11_stoppedBetween_43 rfl rfl (Nat.le_refl _) ⟨by simp only [wBet, zi, h21, decide_true, decide_false, not_true_eq_false, not_false_eq_true, Bool.and_true, Bool.true_and, Bool.and_false, Bool.false_and, Bool.false_eq_true, if_true, if_false, ite_true, ite_false, reduceIte], rfl⟩
  · refine z_iload_n C dX11_stoppedBetween_24 3 rfl rfl ?_
    refine z_iload C dX11_stoppedBetween_25 0 rfl ?_
    refine z_ior C dX11_stoppedBetween_27 ?_
    refine z_iload_n C dX11_stoppedBetween_28 4 rfl rfl ?_
    refine f_callSr C hl (As := [.int bo]) (rest := [.int (who ||| ((wBit hi) &&& ((s 9 4) ^^^ (-1))))]) (c_X11_bitOf l B s t bo) (zCB (nA := 1) C rfl rfl tw_431 tw_1 tw_475 (by decide +kernel) ⟨Nat.le_of_ble_eq_true rfl, Nat.le_of_ble_eq_true rfl⟩) tw_430 rfl rfl (Nat.le_of_ble_eq_true rfl) dX11_stoppedBetween_29 (Nat.zero_le _) ?_
    refine z_iconst C dX11_stoppedBetween_32 ki_m1 ?_
    refine z_ixor C dX11_stoppedBetween_33 ?_
    refine z_iand C dX11_stoppedBetween_34 ?_
    refine z_if_eq C 42 dX11_stoppedBetween_35 (by decide) (fun h35 => ?_) (fun h35 => ?_)
    · refine z_iconst C dX11_stoppedBetween_42 ki_0 ?_
      refine z_zret C E rfl dX11_stoppedBetween_43 rfl rfl (Nat.le_refl _) ⟨by simp only [wBet, zi, h21, h35, decide_true, decide_false, not_true_eq_false, not_false_eq_true, Bool.and_true, Bool.true_and, Bool.and_false, Bool.false_and, Bool.false_eq_true, if_true, if_false, ite_true, ite_false, reduceIte], rfl⟩
    · refine z_iconst C dX11_stoppedBetween_38 ki_1 ?_
      refine z_goto C 43 dX11_stoppedBetween_39 (by decide) ?_
      refine z_zret C E rfl dX11_stoppedBetween_43 rfl rfl (Nat.le_refl _) ⟨by simp only [wBet, zi, h21, h35, decide_true, decide_false, not_true_eq_false, not_false_eq_true, Bool.and_true, Bool.true_and, Bool.and_false, Bool.false_and, Bool.false_eq_true, if_true, if_false, ite_true, ite_false, reduceIte], rfl⟩
theorem wOw_t {lk bu who bo hi : Int32} {n : Nat} (h : wBet lk bu who bo hi = true) : wOw lk bu who bo hi n = wBet lk bu who (wOth n) hi := by rw [wOw, if_pos h]
theorem wOw_f {lk bu who bo hi : Int32} {n : Nat} (h : wBet lk bu who bo hi = false) : wOw lk bu who bo hi n = wBet lk bu who bo (wOth n) := by rw [wOw, if_neg (by rw [h]; decide)]
theorem wPair_y {f : Nat → Bool} {b c : Bool} {n : Nat} (ha : wAll (fun i => f i == b) n = true) (h : f n = c) (e : c = b) : wAll (fun i => f i == b) (n + 1) = true := by
  show (wAll _ n && (f n == b)) = true
  rw [ha, h, e]; cases b <;> rfl
theorem wPair_n {f : Nat → Bool} {b c : Bool} {n : Nat} (h : f n = c) (e : ¬ c = b) : (fun i => f i == b) n = false := by
  show (f n == b) = false
  rw [h]; cases b <;> cases c <;> first | rfl | exact absurd rfl e
abbrev mX11_pairRests : zM := (yX11_pairRests, cX11_pairRests, 8, (some .boolean), { frames := 2, cells := 0, slots := 0, locals := 45 })
set_option maxRecDepth 100000 in
set_option maxHeartbeats 4000000 in
theorem l_X11_pairRests {l : Launch} {B : zB} {s : zS} {t : zL} {X : zX} (hl : X.2.1 = l) (C : zC X B mX11_pairRests) (bu who bo hi : Int32) (N : Nat) (hN : s 8 4 = nI N) (h6 : N ≤ 6) (E : zE X B mX11_pairRests 124 0 0 (zR B (some (.int (zi (wPair (s 9 4) bu who bo hi (N + 1))))) s t)) : ∀ (m : Nat) (i : Nat), i + m = N + 1 → wAll (fun i => wOw (s 9 4) bu who bo hi i == wBet (s 9 4) bu who bo hi) i = true → Zf X B mX11_pairRests s t 14 [(6, .int (wOth i)), (5, .int (zi (wBet (s 9 4) bu who bo hi))), (0, .ref (B.1 + 0)), (1, .int bu), (2, .int who), (3, .int bo), (4, .int hi)] [] := by
  intro m
  induction m with
  | zero =>
    intro i hi1 ha
    refine z_iload C dX11_pairRests_14 0 rfl ?_
    refine z_aload_n C dX11_pairRests_16 2 rfl rfl ?_
    refine f_get11 C 1 (v := .ref (B.1 + 8)) (by decide) tw_226 rfl zk_0 zb_0 rfl dX11_pairRests_17 ?_
    refine f_get1 C 4 (v := .int (s 8 4)) (by decide) tw_173 rfl zk_8 zb_8 rfl dX11_pairRests_20 ?_
    refine f_topi hN ?_
    refine z_icmp_ge C 70 dX11_pairRests_23 (by decide) (fun _ => ?_) (fun hbr => absurd (wOth_ge (by omega) (by omega) (by omega)) hbr)
    refine z_iconst C dX11_pairRests_70 ki_1 ?_
    refine z_zret C E rfl dX11_pairRests_71 rfl rfl (Nat.le_refl _) ⟨by rw [wPair, show N + 1 = i by omega, ha, zi_t], rfl⟩
  | succ m ih =>
    intro i hi1 ha
    have hi2 : i < N + 1 := by omega
    refine z_iload C dX11_pairRests_14 0 rfl ?_
    refine z_aload_n C dX11_pairRests_16 2 rfl rfl ?_
    refine f_get11 C 1 (v := .ref (B.1 + 8)) (by decide) tw_226 rfl zk_0 zb_0 rfl dX11_pairRests_17 ?_
    refine f_get1 C 4 (v := .int (s 8 4)) (by decide) tw_173 rfl zk_8 zb_8 rfl dX11_pairRests_20 ?_
    refine f_topi hN ?_
    refine z_icmp_ge C 70 dX11_pairRests_23 (by decide) (fun hbr => absurd hbr (wOth_nge (by omega) hi2)) (fun _ => ?_)
    refine z_iload C dX11_pairRests_26 1 rfl ?_
    refine z_ifb_eq C 44 dX11_pairRests_28 (by decide) (fun h28 => ?_) (fun h28 => ?_)
    · refine z_aload_n C dX11_pairRests_44 2 rfl rfl ?_
      refine z_iload_n C dX11_pairRests_45 3 rfl rfl ?_
      refine z_iload_n C dX11_pairRests_46 4 rfl rfl ?_
      refine z_iload_n C dX11_pairRests_47 5 rfl rfl ?_
      refine z_iload C dX11_pairRests_48 0 rfl ?_
      refine f_callVr C hl (As := [.int bu, .int who, .int bo, .int (wOth i)]) (rest := []) (c_X11_stoppedBetween l B s t bu who bo (wOth i)) zb_0 (zg_11 zk_0) rfl (zCB (nA := 4) C rfl rfl tw_636 tw_1 tw_633 (by decide +kernel) ⟨Nat.le_of_ble_eq_true rfl, Nat.le_of_ble_eq_true rfl⟩) tw_635 tp_19 rfl rfl (Nat.le_of_ble_eq_true rfl) dX11_pairRests_50 (Nat.zero_le _) ?_
      refine z_istore C [(7, .int (zi (wBet (s 9 4) bu who bo (wOth i)))), (6, .int (wOth i)), (5, .int (zi (wBet (s 9 4) bu who bo hi))), (0, .ref (B.1 + 0)), (1, .int bu), (2, .int who), (3, .int bo), (4, .int hi)] dX11_pairRests_53 (by decide) rfl ?_
      refine z_iload C dX11_pairRests_55 0 rfl ?_
      refine z_iload C dX11_pairRests_57 2 rfl ?_
      refine z_icmp_eq C 64 dX11_pairRests_59 (by decide) (fun h59 => ?_) (fun h59 => ?_)
      · refine z_iinc C [(6, .int (wOth (i + 1))), (7, .int (zi (wBet (s 9 4) bu who bo (wOth i)))), (5, .int (zi (wBet (s 9 4) bu who bo hi))), (0, .ref (B.1 + 0)), (1, .int bu), (2, .int who), (3, .int bo), (4, .int hi)] dX11_pairRests_64 1 rfl (wOth_inc i) (by decide) rfl ?_
        refine z_goto C 14 dX11_pairRests_67 (by decide) ?_
        exact z_lv [0, 2, 3, 4, 5, 6, 7] rfl (ih (i + 1) (by omega) (wPair_y ha (wOw_f h28) (zi_inj h59)))
      · refine z_iconst C dX11_pairRests_62 ki_0 ?_
        refine z_zret C E rfl dX11_pairRests_63 rfl rfl (Nat.le_refl _) ⟨by rw [wPair, wAll_no hi2 (wPair_n (wOw_f h28) (zi_nej h59)), zi_f], rfl⟩
    · refine z_aload_n C dX11_pairRests_31 2 rfl rfl ?_
      refine z_iload_n C dX11_pairRests_32 3 rfl rfl ?_
      refine z_iload_n C dX11_pairRests_33 4 rfl rfl ?_
      refine z_iload C dX11_pairRests_34 0 rfl ?_
      refine z_iload C dX11_pairRests_36 6 rfl ?_
      refine f_callVr C hl (As := [.int bu, .int who, .int (wOth i), .int hi]) (rest := []) (c_X11_stoppedBetween l B s t bu who (wOth i) hi) zb_0 (zg_11 zk_0) rfl (zCB (nA := 4) C rfl rfl tw_636 tw_1 tw_633 (by decide +kernel) ⟨Nat.le_of_ble_eq_true rfl, Nat.le_of_ble_eq_true rfl⟩) tw_635 tp_19 rfl rfl (Nat.le_of_ble_eq_true rfl) dX11_pairRests_38 (Nat.zero_le _) ?_
      refine z_goto C 53 dX11_pairRests_41 (by decide) ?_
      refine z_istore C [(7, .int (zi (wBet (s 9 4) bu who (wOth i) hi))), (6, .int (wOth i)), (5, .int (zi (wBet (s 9 4) bu who bo hi))), (0, .ref (B.1 + 0)), (1, .int bu), (2, .int who), (3, .int bo), (4, .int hi)] dX11_pairRests_53 (by decide) rfl ?_
      refine z_iload C dX11_pairRests_55 0 rfl ?_
      refine z_iload C dX11_pairRests_57 2 rfl ?_
      refine z_icmp_eq C 64 dX11_pairRests_59 (by decide) (fun h59 => ?_) (fun h59 => ?_)
      · refine z_iinc C [(6, .int (wOth (i + 1))), (7, .int (zi (wBet (s 9 4) bu who (wOth i) hi))), (5, .int (zi (wBet (s 9 4) bu who bo hi))), (0, .ref (B.1 + 0)), (1, .int bu), (2, .int who), (3, .int bo), (4, .int hi)] dX11_pairRests_64 1 rfl (wOth_inc i) (by decide) rfl ?_
        refine z_goto C 14 dX11_pairRests_67 (by decide) ?_
        exact z_lv [0, 2, 3, 4, 5, 6, 7] rfl (ih (i + 1) (by omega) (wPair_y ha (wOw_t h28) (zi_inj h59)))
      · refine z_iconst C dX11_pairRests_62 ki_0 ?_
        refine z_zret C E rfl dX11_pairRests_63 rfl rfl (Nat.le_refl _) ⟨by rw [wPair, wAll_no hi2 (wPair_n (wOw_t h28) (zi_nej h59)), zi_f], rfl⟩
set_option maxRecDepth 100000 in
set_option maxHeartbeats 4000000 in
theorem c_X11_pairRests (l : Launch) (B : zB) (s : zS) (t : zL) (bu who bo hi : Int32) (N : Nat) (hN : s 8 4 = nI N) (h6 : N ≤ 6) : zD l B mX11_pairRests s t [.ref (B.1 + 0), .int bu, .int who, .int bo, .int hi] (some (.int (zi (wPair (s 9 4) bu who bo hi (N + 1))))) s t := by
  refine z_met (by decide) (Nat.le_of_ble_eq_true rfl) ?_
  intro X hl C E hnm
  show Zf X B mX11_pairRests s t 0 [(0, .ref (B.1 + 0)), (1, .int bu), (2, .int who), (3, .int bo), (4, .int hi)] []
  refine z_aload_n C dX11_pairRests_0 0 rfl rfl ?_
  refine z_iload_n C dX11_pairRests_1 1 rfl rfl ?_
  refine z_iload_n C dX11_pairRests_2 2 rfl rfl ?_
  refine z_iload_n C dX11_pairRests_3 3 rfl rfl ?_
  refine z_iload C dX11_pairRests_4 4 rfl ?_
  refine f_callVr C hl (As := [.int bu, .int who, .int bo, .int hi]) (rest := []) (c_X11_stoppedBetween l B s t bu who bo hi) zb_0 (zg_11 zk_0) rfl (zCB (nA := 4) C rfl rfl tw_636 tw_1 tw_633 (by decide +kernel) ⟨Nat.le_of_ble_eq_true rfl, Nat.le_of_ble_eq_true rfl⟩) tw_635 tp_19 rfl rfl (Nat.le_of_ble_eq_true rfl) dX11_pairRests_6 (Nat.zero_le _) ?_
  refine z_istore C [(5, .int (zi (wBet (s 9 4) bu who bo hi))), (0, .ref (B.1 + 0)), (1, .int bu), (2, .int who), (3, .int bo), (4, .int hi)] dX11_pairRests_9 (by decide) rfl ?_
  refine z_iconst C dX11_pairRests_11 ki_m1 ?_
  refine z_istore C [(6, .int (-1)), (5, .int (zi (wBet (s 9 4) bu who bo hi))), (0, .ref (B.1 + 0)), (1, .int bu), (2, .int who), (3, .int bo), (4, .int hi)] dX11_pairRests_12 (by decide) rfl ?_
  exact z_lv [0, 1, 2, 3, 4, 5, 6] rfl (l_X11_pairRests hl C bu who bo hi N hN h6 E (N + 1) 0 (by omega) rfl)
abbrev mX11_notesFit : zM := (yX11_notesFit, cX11_notesFit, 7, (some .boolean), { frames := 4, cells := 0, slots := 0, locals := 96 })
set_option maxRecDepth 100000 in
set_option maxHeartbeats 4000000 in
theorem l_X11_notesFit {l : Launch} {B : zB} {s : zS} {t : zL} {X : zX} (hl : X.2.1 = l) (C : zC X B mX11_notesFit) (dep k lo ha : Int32) (hk : ∃ c, c < 6 ∧ k = nI c) (M : Nat) (hM : s 8 5 = nI M) (hM6 : M ≤ 6) (hB : ∀ n, n < M → r8 (s (18 + n) 1)) (E : zE X B mX11_notesFit 124 0 0 (zR B (some (.int (zi (wFit s dep k lo ha M)))) s t)) : ∀ (m : Nat) (i : Nat), i + m = M → wAll (wNote s dep k lo ha) i = true → Zf X B mX11_notesFit s t 3 [(5, .int (nI i)), (0, .ref (B.1 + 0)), (1, .int dep), (2, .int k), (3, .int lo), (4, .int ha)] [] := by
  intro m
  induction m with
  | zero =>
    intro i hi ha2
    obtain rfl : i = M := by omega
    refine z_iload C dX11_notesFit_3 0 rfl ?_
    refine z_aload_n C dX11_notesFit_5 1 rfl rfl ?_
    refine f_get11 C 1 (v := .ref (B.1 + 8)) (by decide) tw_226 rfl zk_0 zb_0 rfl dX11_notesFit_6 ?_
    refine f_get1 C 5 (v := .int (s 8 5)) (by decide) tw_175 rfl zk_8 zb_8 rfl dX11_notesFit_9 ?_
    refine f_topi hM ?_
    refine z_icmp_ge C 83 dX11_notesFit_12 (by decide) (fun _ => ?_) (fun hbr => absurd (Int32.le_refl _) hbr)
    refine z_iconst C dX11_notesFit_83 ki_1 ?_
    refine z_zret C E rfl dX11_notesFit_84 rfl rfl (Nat.le_refl _) ⟨by rw [wFit, ha2, zi_t], rfl⟩
  | succ m ih =>
    intro i hi0 ha2
    have hi : i < M := by omega
    refine z_iload C dX11_notesFit_3 0 rfl ?_
    refine z_aload_n C dX11_notesFit_5 1 rfl rfl ?_
    refine f_get11 C 1 (v := .ref (B.1 + 8)) (by decide) tw_226 rfl zk_0 zb_0 rfl dX11_notesFit_6 ?_
    refine f_get1 C 5 (v := .int (s 8 5)) (by decide) tw_175 rfl zk_8 zb_8 rfl dX11_notesFit_9 ?_
    refine f_topi hM ?_
    refine z_icmp_ge C 83 dX11_notesFit_12 (by decide) (fun hbr => absurd hbr (nI_ge hi (by omega))) (fun _ => ?_)
    refine z_aload_n C dX11_notesFit_15 1 rfl rfl ?_
    refine f_get11 C 1 (v := .ref (B.1 + 8)) (by decide) tw_226 rfl zk_0 zb_0 rfl dX11_notesFit_16 ?_
    refine z_iload C dX11_notesFit_19 0 rfl ?_
    refine f_callVr C hl (As := [.int (nI i)]) (rest := []) (c_X1_noteAt8s l B s t i (by omega) (nI i) rfl (by rw [hM]; exact nI_lt hi (by omega))) zb_8 (zg_1 zk_8) rfl (zCB (nA := 1) C rfl rfl tw_668 tw_8 tw_665 (by decide +kernel) ⟨Nat.le_of_ble_eq_true rfl, Nat.le_of_ble_eq_true rfl⟩) tw_666 tw_667 rfl rfl (Nat.le_of_ble_eq_true rfl) dX11_notesFit_21 (Nat.zero_le _) ?_
    refine z_astore C [(6, .ref (B.1 + (18 + i))), (5, .int (nI i)), (0, .ref (B.1 + 0)), (1, .int dep), (2, .int k), (3, .int lo), (4, .int ha)] dX11_notesFit_24 (by decide) rfl ?_
    refine z_aload C dX11_notesFit_26 0 rfl ?_
    refine z_ifnull C dX11_notesFit_28 ?_
    refine z_aload C dX11_notesFit_31 0 rfl ?_
    refine f_get4 C 0 (v := .int (s (18 + i) 0)) (by decide) tw_147 rfl (zk_not i (by omega)) (by omega) rfl dX11_notesFit_33 ?_
    refine z_iload_n C dX11_notesFit_36 3 rfl rfl ?_
    refine z_icmp_ne C 77 dX11_notesFit_37 (by decide) (fun h37 => ?_) (fun h37 => ?_)
    · refine z_iinc C [(5, .int (nI (i + 1))), (6, .ref (B.1 + (18 + i))), (0, .ref (B.1 + 0)), (1, .int dep), (2, .int k), (3, .int lo), (4, .int ha)] dX11_notesFit_77 1 rfl (nI_inc i) (by decide) rfl ?_
      refine z_goto C 3 dX11_notesFit_80 (by decide) ?_
      exact z_lv [0, 2, 3, 4, 5, 6] rfl (ih (i + 1) (by omega) (by simp_all [wAll, wNote, zi]))
    · refine z_aload_n C dX11_notesFit_40 2 rfl rfl ?_
      refine z_iload_n C dX11_notesFit_41 4 rfl rfl ?_
      refine z_iload_n C dX11_notesFit_42 5 rfl rfl ?_
      refine z_iload C dX11_notesFit_43 6 rfl ?_
      refine z_aload C dX11_notesFit_45 0 rfl ?_
      refine f_get4 C 1 (v := .int (s (18 + i) 1)) (by decide) tw_150 rfl (zk_not i (by omega)) (by omega) rfl dX11_notesFit_47 ?_
      refine z_aload C dX11_notesFit_50 0 rfl ?_
      refine f_get4 C 2 (v := .int (s (18 + i) 2)) (by decide) tw_153 rfl (zk_not i (by omega)) (by omega) rfl dX11_notesFit_52 ?_
      refine f_callVr C hl (As := [.int k, .int lo, .int ha, .int (s (18 + i) 1), .int (s (18 + i) 2)]) (rest := []) (c_X11_wouldStop l B s t k lo ha (s (18 + i) 1) (s (18 + i) 2) hk (hB i hi)) zb_0 (zg_11 zk_0) rfl (zCB (nA := 5) C rfl rfl tw_479 tw_1 tw_476 (by decide +kernel) ⟨Nat.le_of_ble_eq_true rfl, Nat.le_of_ble_eq_true rfl⟩) tw_478 tp_11 rfl rfl (Nat.le_of_ble_eq_true rfl) dX11_notesFit_55 (Nat.zero_le _) ?_
      refine z_aload C dX11_notesFit_58 0 rfl ?_
      refine f_get4 C 3 (v := .int (s (18 + i) 3)) (by decide) tw_156 rfl (zk_not i (by omega)) (by omega) rfl dX11_notesFit_60 ?_
      refine z_iconst C dX11_notesFit_63 ki_1 ?_
      refine z_icmp_ne C 71 dX11_notesFit_64 (by decide) (fun h64 => ?_) (fun h64 => ?_)
      · refine z_iconst C dX11_notesFit_71 ki_0 ?_
        refine z_icmp_eq C 77 dX11_notesFit_72 (by decide) (fun h72 => ?_) (fun h72 => ?_)
        · refine z_iinc C [(5, .int (nI (i + 1))), (6, .ref (B.1 + (18 + i))), (0, .ref (B.1 + 0)), (1, .int dep), (2, .int k), (3, .int lo), (4, .int ha)] dX11_notesFit_77 1 rfl (nI_inc i) (by decide) rfl ?_
          refine z_goto C 3 dX11_notesFit_80 (by decide) ?_
          exact z_lv [0, 2, 3, 4, 5, 6] rfl (ih (i + 1) (by omega) (by simp_all [wAll, wNote, zi]))
        · refine z_iconst C dX11_notesFit_75 ki_0 ?_
          refine z_zret C E rfl dX11_notesFit_76 rfl rfl (Nat.le_refl _) ⟨by rw [wFit, wAll_no hi (by simp_all [wNote, zi]), zi_f], rfl⟩
      · refine z_iconst C dX11_notesFit_67 ki_1 ?_
        refine z_goto C 72 dX11_notesFit_68 (by decide) ?_
        refine z_icmp_eq C 77 dX11_notesFit_72 (by decide) (fun h72 => ?_) (fun h72 => ?_)
        · refine z_iinc C [(5, .int (nI (i + 1))), (6, .ref (B.1 + (18 + i))), (0, .ref (B.1 + 0)), (1, .int dep), (2, .int k), (3, .int lo), (4, .int ha)] dX11_notesFit_77 1 rfl (nI_inc i) (by decide) rfl ?_
          refine z_goto C 3 dX11_notesFit_80 (by decide) ?_
          exact z_lv [0, 2, 3, 4, 5, 6] rfl (ih (i + 1) (by omega) (by simp_all [wAll, wNote, zi]))
        · refine z_iconst C dX11_notesFit_75 ki_0 ?_
          refine z_zret C E rfl dX11_notesFit_76 rfl rfl (Nat.le_refl _) ⟨by rw [wFit, wAll_no hi (by simp_all [wNote, zi]), zi_f], rfl⟩
set_option maxRecDepth 100000 in
set_option maxHeartbeats 4000000 in
theorem c_X11_notesFit (l : Launch) (B : zB) (s : zS) (t : zL) (dep k lo ha : Int32) (hk : ∃ c, c < 6 ∧ k = nI c) (M : Nat) (hM : s 8 5 = nI M) (hM6 : M ≤ 6) (hB : ∀ n, n < M → r8 (s (18 + n) 1)) : zD l B mX11_notesFit s t [.ref (B.1 + 0), .int dep, .int k, .int lo, .int ha] (some (.int (zi (wFit s dep k lo ha M)))) s t := by
  refine z_met (by decide) (Nat.le_of_ble_eq_true rfl) ?_
  intro X hl C E hnm
  show Zf X B mX11_notesFit s t 0 [(0, .ref (B.1 + 0)), (1, .int dep), (2, .int k), (3, .int lo), (4, .int ha)] []
  refine z_iconst C dX11_notesFit_0 ki_0 ?_
  refine z_istore C [(5, .int 0), (0, .ref (B.1 + 0)), (1, .int dep), (2, .int k), (3, .int lo), (4, .int ha)] dX11_notesFit_1 (by decide) rfl ?_
  exact z_lv [0, 1, 2, 3, 4, 5] rfl (l_X11_notesFit hl C dep k lo ha hk M hM hM6 hB E M 0 (by omega) rfl)
abbrev mX11_kindsThatFit : zM := (yX11_kindsThatFit, cX11_kindsThatFit, 5, (some .int), { frames := 5, cells := 0, slots := 0, locals := 122 })
set_option maxRecDepth 100000 in
set_option maxHeartbeats 4000000 in
theorem l_X11_kindsThatFit {l : Launch} {B : zB} {s : zS} {t : zL} {X : zX} (hl : X.2.1 = l) (C : zC X B mX11_kindsThatFit) (dep : Int32) (o : Nat) (ho : zk o = 0) (lo : o < 124) (M : Nat) (hM : s 8 5 = nI M) (hM6 : M ≤ 6) (hB : ∀ n, n < M → r8 (s (18 + n) 1)) (E : zE X B mX11_kindsThatFit 124 0 0 (zR B (some (.int (wCol (fun c => wFit s dep (nI c) (s o 1) (s o 2) M) 6))) s t)) : ∀ (m : Nat) (i : Nat) (a : Int32), i + m = 6 → a = wCol (fun c => wFit s dep (nI c) (s o 1) (s o 2) M) i → Zf X B mX11_kindsThatFit s t 5 [(4, .int (nI i)), (3, .int a), (0, .ref (B.1 + 0)), (1, .int dep), (2, .ref (B.1 + o))] [] := by
  intro m
  induction m with
  | zero =>
    intro i a hi ha
    obtain rfl : i = 6 := by omega
    refine z_iload C dX11_kindsThatFit_5 0 rfl ?_
    refine z_bipush C dX11_kindsThatFit_7 kb_6 ?_
    refine z_icmp_ge C 44 dX11_kindsThatFit_9 (by decide) (fun _ => ?_) (fun hbr => absurd (by decide) hbr)
    refine z_iload_n C dX11_kindsThatFit_44 1 rfl rfl ?_
    refine z_iret C E rfl dX11_kindsThatFit_45 rfl (Nat.le_refl _) ⟨by rw [ha], rfl⟩
  | succ m ih =>
    intro i a hi0 ha
    have hi : i < 6 := by omega
    refine z_iload C dX11_kindsThatFit_5 0 rfl ?_
    refine z_bipush C dX11_kindsThatFit_7 kb_6 ?_
    refine z_icmp_ge C 44 dX11_kindsThatFit_9 (by decide) (fun hbr => absurd hbr (show ¬ nI 6 ≤ nI i from nI_ge hi (by decide))) (fun _ => ?_)
    refine z_aload_n C dX11_kindsThatFit_12 2 rfl rfl ?_
    refine z_iload_n C dX11_kindsThatFit_13 3 rfl rfl ?_
    refine z_iload C dX11_kindsThatFit_14 0 rfl ?_
    refine z_aload_n C dX11_kindsThatFit_16 4 rfl rfl ?_
    refine f_get0 C 1 (v := .int (s o 1)) (by decide) tw_122 rfl ho lo rfl dX11_kindsThatFit_17 ?_
    refine z_aload_n C dX11_kindsThatFit_20 4 rfl rfl ?_
    refine f_get0 C 2 (v := .int (s o 2)) (by decide) tw_125 rfl ho lo rfl dX11_kindsThatFit_21 ?_
    refine f_callVr C hl (As := [.int dep, .int (nI i), .int (s o 1), .int (s o 2)]) (rest := []) (c_X11_notesFit l B s t dep (nI i) (s o 1) (s o 2) ⟨i, hi, rfl⟩ M hM hM6 hB) zb_0 (zg_11 zk_0) rfl (zCB (nA := 4) C rfl rfl tw_664 tw_1 tw_661 (by decide +kernel) ⟨Nat.le_of_ble_eq_true rfl, Nat.le_of_ble_eq_true rfl⟩) tw_663 tp_21 rfl rfl (Nat.le_of_ble_eq_true rfl) dX11_kindsThatFit_24 (Nat.zero_le _) ?_
    refine z_ifb_eq C 38 dX11_kindsThatFit_27 (by decide) (fun h27 => ?_) (fun h27 => ?_)
    · refine z_iinc C [(4, .int (nI (i + 1))), (3, .int a), (0, .ref (B.1 + 0)), (1, .int dep), (2, .ref (B.1 + o))] dX11_kindsThatFit_38 0 rfl (nI_inc i) (by decide) rfl ?_
      refine z_goto C 5 dX11_kindsThatFit_41 (by decide) ?_
      exact z_lv [0, 1, 2, 3, 4] rfl (ih (i + 1) _ (by omega) (by simp [wCol, ha, h27]))
    · refine z_iload_n C dX11_kindsThatFit_30 1 rfl rfl ?_
      refine z_iload C dX11_kindsThatFit_31 0 rfl ?_
      refine f_callSr C hl (As := [.int (nI i)]) (rest := [.int a]) (c_X11_bitOf l B s t (nI i)) (zCB (nA := 1) C rfl rfl tw_431 tw_1 tw_475 (by decide +kernel) ⟨Nat.le_of_ble_eq_true rfl, Nat.le_of_ble_eq_true rfl⟩) tw_430 rfl rfl (Nat.le_of_ble_eq_true rfl) dX11_kindsThatFit_33 (Nat.zero_le _) ?_
      refine z_ior C dX11_kindsThatFit_36 ?_
      refine z_istore_n C [(3, .int (a ||| (wBit (nI i)))), (4, .int (nI i)), (0, .ref (B.1 + 0)), (1, .int dep), (2, .ref (B.1 + o))] dX11_kindsThatFit_37 rfl (by decide) rfl ?_
      refine z_iinc C [(4, .int (nI (i + 1))), (3, .int (a ||| (wBit (nI i)))), (0, .ref (B.1 + 0)), (1, .int dep), (2, .ref (B.1 + o))] dX11_kindsThatFit_38 1 rfl (nI_inc i) (by decide) rfl ?_
      refine z_goto C 5 dX11_kindsThatFit_41 (by decide) ?_
      exact z_lv [0, 1, 2, 3, 4] rfl (ih (i + 1) _ (by omega) (by simp [wCol, ha, h27]))
set_option maxRecDepth 100000 in
set_option maxHeartbeats 4000000 in
theorem c_X11_kindsThatFit (l : Launch) (B : zB) (s : zS) (t : zL) (dep : Int32) (o : Nat) (ho : zk o = 0) (lo : o < 124) (M : Nat) (hM : s 8 5 = nI M) (hM6 : M ≤ 6) (hB : ∀ n, n < M → r8 (s (18 + n) 1)) : zD l B mX11_kindsThatFit s t [.ref (B.1 + 0), .int dep, .ref (B.1 + o)] (some (.int (wCol (fun c => wFit s dep (nI c) (s o 1) (s o 2) M) 6))) s t := by
  refine z_met (by decide) (Nat.le_of_ble_eq_true rfl) ?_
  intro X hl C E hnm
  show Zf X B mX11_kindsThatFit s t 0 [(0, .ref (B.1 + 0)), (1, .int dep), (2, .ref (B.1 + o))] []
  refine z_iconst C dX11_kindsThatFit_0 ki_0 ?_
  refine z_istore_n C [(3, .int 0), (0, .ref (B.1 + 0)), (1, .int dep), (2, .ref (B.1 + o))] dX11_kindsThatFit_1 rfl (by decide) rfl ?_
  refine z_iconst C dX11_kindsThatFit_2 ki_0 ?_
  refine z_istore C [(4, .int 0), (3, .int 0), (0, .ref (B.1 + 0)), (1, .int dep), (2, .ref (B.1 + o))] dX11_kindsThatFit_3 (by decide) rfl ?_
  exact z_lv [0, 1, 2, 3, 4] rfl (l_X11_kindsThatFit hl C dep o ho lo M hM hM6 hB E 6 0 0 (by omega) rfl)
abbrev mX11_kindsThatStop : zM := (yX11_kindsThatStop, cX11_kindsThatStop, 5, (some .int), { frames := 4, cells := 0, slots := 0, locals := 96 })
set_option maxRecDepth 100000 in
set_option maxHeartbeats 4000000 in
theorem l_X11_kindsThatStop {l : Launch} {B : zB} {s : zS} {t : zL} {X : zX} (hl : X.2.1 = l) (C : zC X B mX11_kindsThatStop) (o : Nat) (ho : zk o = 0) (lo : o < 124) (bu : Int32) (hb : r8 bu) (E : zE X B mX11_kindsThatStop 124 0 0 (zR B (some (.int (wCol (fun c => wStop (nI c) (s o 1) (s o 2) bu (s 9 0)) 6))) s t)) : ∀ (m : Nat) (i : Nat) (a : Int32), i + m = 6 → a = wCol (fun c => wStop (nI c) (s o 1) (s o 2) bu (s 9 0)) i → Zf X B mX11_kindsThatStop s t 5 [(4, .int (nI i)), (3, .int a), (0, .ref (B.1 + 0)), (1, .ref (B.1 + o)), (2, .int bu)] [] := by
  intro m
  induction m with
  | zero =>
    intro i a hi ha
    obtain rfl : i = 6 := by omega
    refine z_iload C dX11_kindsThatStop_5 0 rfl ?_
    refine z_bipush C dX11_kindsThatStop_7 kb_6 ?_
    refine z_icmp_ge C 54 dX11_kindsThatStop_9 (by decide) (fun _ => ?_) (fun hbr => absurd (by decide) hbr)
    refine z_iload_n C dX11_kindsThatStop_54 1 rfl rfl ?_
    refine z_iret C E rfl dX11_kindsThatStop_55 rfl (Nat.le_refl _) ⟨by rw [ha], rfl⟩
  | succ m ih =>
    intro i a hi0 ha
    have hi : i < 6 := by omega
    refine z_iload C dX11_kindsThatStop_5 0 rfl ?_
    refine z_bipush C dX11_kindsThatStop_7 kb_6 ?_
    refine z_icmp_ge C 54 dX11_kindsThatStop_9 (by decide) (fun hbr => absurd hbr (show ¬ nI 6 ≤ nI i from nI_ge hi (by decide))) (fun _ => ?_)
    refine z_aload_n C dX11_kindsThatStop_12 2 rfl rfl ?_
    refine z_iload C dX11_kindsThatStop_13 0 rfl ?_
    refine z_aload_n C dX11_kindsThatStop_15 3 rfl rfl ?_
    refine f_get0 C 1 (v := .int (s o 1)) (by decide) tw_122 rfl ho lo rfl dX11_kindsThatStop_16 ?_
    refine z_aload_n C dX11_kindsThatStop_19 3 rfl rfl ?_
    refine f_get0 C 2 (v := .int (s o 2)) (by decide) tw_125 rfl ho lo rfl dX11_kindsThatStop_20 ?_
    refine z_iload_n C dX11_kindsThatStop_23 4 rfl rfl ?_
    refine z_aload_n C dX11_kindsThatStop_24 2 rfl rfl ?_
    refine f_get11 C 1 (v := .ref (B.1 + 8)) (by decide) tw_226 rfl zk_0 zb_0 rfl dX11_kindsThatStop_25 ?_
    refine f_get1 C 0 (v := .ref (B.1 + 9)) (by decide) tw_168 rfl zk_8 zb_8 rfl dX11_kindsThatStop_28 ?_
    refine f_get8 C 0 (v := .int (s 9 0)) (by decide) tw_84 rfl zk_9 zb_9 rfl dX11_kindsThatStop_31 ?_
    refine f_callVr C hl (As := [.int (nI i), .int (s o 1), .int (s o 2), .int bu, .int (s 9 0)]) (rest := []) (c_X11_wouldStop l B s t (nI i) (s o 1) (s o 2) bu (s 9 0) ⟨i, hi, rfl⟩ hb) zb_0 (zg_11 zk_0) rfl (zCB (nA := 5) C rfl rfl tw_479 tw_1 tw_476 (by decide +kernel) ⟨Nat.le_of_ble_eq_true rfl, Nat.le_of_ble_eq_true rfl⟩) tw_478 tp_11 rfl rfl (Nat.le_of_ble_eq_true rfl) dX11_kindsThatStop_34 (Nat.zero_le _) ?_
    refine z_ifb_eq C 48 dX11_kindsThatStop_37 (by decide) (fun h37 => ?_) (fun h37 => ?_)
    · refine z_iinc C [(4, .int (nI (i + 1))), (3, .int a), (0, .ref (B.1 + 0)), (1, .ref (B.1 + o)), (2, .int bu)] dX11_kindsThatStop_48 0 rfl (nI_inc i) (by decide) rfl ?_
      refine z_goto C 5 dX11_kindsThatStop_51 (by decide) ?_
      exact z_lv [0, 1, 2, 3, 4] rfl (ih (i + 1) _ (by omega) (by simp [wCol, ha, h37]))
    · refine z_iload_n C dX11_kindsThatStop_40 1 rfl rfl ?_
      refine z_iload C dX11_kindsThatStop_41 0 rfl ?_
      refine f_callSr C hl (As := [.int (nI i)]) (rest := [.int a]) (c_X11_bitOf l B s t (nI i)) (zCB (nA := 1) C rfl rfl tw_431 tw_1 tw_475 (by decide +kernel) ⟨Nat.le_of_ble_eq_true rfl, Nat.le_of_ble_eq_true rfl⟩) tw_430 rfl rfl (Nat.le_of_ble_eq_true rfl) dX11_kindsThatStop_43 (Nat.zero_le _) ?_
      refine z_ior C dX11_kindsThatStop_46 ?_
      refine z_istore_n C [(3, .int (a ||| (wBit (nI i)))), (4, .int (nI i)), (0, .ref (B.1 + 0)), (1, .ref (B.1 + o)), (2, .int bu)] dX11_kindsThatStop_47 rfl (by decide) rfl ?_
      refine z_iinc C [(4, .int (nI (i + 1))), (3, .int (a ||| (wBit (nI i)))), (0, .ref (B.1 + 0)), (1, .ref (B.1 + o)), (2, .int bu)] dX11_kindsThatStop_48 1 rfl (nI_inc i) (by decide) rfl ?_
      refine z_goto C 5 dX11_kindsThatStop_51 (by decide) ?_
      exact z_lv [0, 1, 2, 3, 4] rfl (ih (i + 1) _ (by omega) (by simp [wCol, ha, h37]))
set_option maxRecDepth 100000 in
set_option maxHeartbeats 4000000 in
theorem c_X11_kindsThatStop (l : Launch) (B : zB) (s : zS) (t : zL) (o : Nat) (ho : zk o = 0) (lo : o < 124) (bu : Int32) (hb : r8 bu) : zD l B mX11_kindsThatStop s t [.ref (B.1 + 0), .ref (B.1 + o), .int bu] (some (.int (wCol (fun c => wStop (nI c) (s o 1) (s o 2) bu (s 9 0)) 6))) s t := by
  refine z_met (by decide) (Nat.le_of_ble_eq_true rfl) ?_
  intro X hl C E hnm
  show Zf X B mX11_kindsThatStop s t 0 [(0, .ref (B.1 + 0)), (1, .ref (B.1 + o)), (2, .int bu)] []
  refine z_iconst C dX11_kindsThatStop_0 ki_0 ?_
  refine z_istore_n C [(3, .int 0), (0, .ref (B.1 + 0)), (1, .ref (B.1 + o)), (2, .int bu)] dX11_kindsThatStop_1 rfl (by decide) rfl ?_
  refine z_iconst C dX11_kindsThatStop_2 ki_0 ?_
  refine z_istore C [(4, .int 0), (3, .int 0), (0, .ref (B.1 + 0)), (1, .ref (B.1 + o)), (2, .int bu)] dX11_kindsThatStop_3 (by decide) rfl ?_
  exact z_lv [0, 1, 2, 3, 4] rfl (l_X11_kindsThatStop hl C o ho lo bu hb E 6 0 0 (by omega) rfl)
