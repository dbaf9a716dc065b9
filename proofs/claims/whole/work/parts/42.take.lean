def cNum (b : Nat → Int32) (n q : Nat) (v last : Int32) : Int32 × Nat × Int32 := if tK b n q = 2 ∧ v ≤ last then (v, tN b n q, tV b n (tN b n q) v) else (-1, q, v)
def cMk (b : Nat → Int32) (n q : Nat) (v : Int32) : Bool × Nat × Int32 := if tK b n q = 3 then (true, tN b n q, tV b n (tN b n q) v) else (false, q, v)
theorem cNum_le {b : Nat → Int32} {n q : Nat} {v last : Int32} (h : q ≤ n) : (cNum b n q v last).2.1 ≤ n := by
  unfold cNum
  split
  · exact tN_le h
  · exact h
theorem cMk_le {b : Nat → Int32} {n q : Nat} {v : Int32} (h : q ≤ n) : (cMk b n q v).2.1 ≤ n := by
  unfold cMk
  split
  · exact tN_le h
  · exact h
theorem tLaws_le {b : Nat → Int32} {n : Nat} : ∀ (f q : Nat) (v a : Int32), q ≤ n → (tLaws b n f q v a).2.1 ≤ n := by
  intro f
  induction f with
  | zero => intro q v a h; exact h
  | succ f ih =>
    intro q v a h
    rw [tLaws]
    split
    · exact ih _ _ _ (tN_le h)
    · exact h
theorem cT_zu (s : zS) (b : Nat → Int32) (n q : Nat) (v : Int32) {k j : Nat} (x : Int32) (h : k ≠ 111) : zu (cT s b n q v) k j x = cT (zu s k j x) b n q v := by
  funext i r
  simp only [cT, cTf, zu]
  by_cases hi : i = 111
  · subst hi
    have : ¬ (111 = k ∧ r = j) := fun z => h z.1.symm
    rw [if_neg this, if_pos rfl, if_pos rfl]
    split
    · rfl
    · split
      · rfl
      · split
        · rfl
        · split
          · rfl
          · split
            · rfl
            · rfl
  · rw [if_neg hi, if_neg hi]
theorem c_cNum (l : Launch) (B : zB) (s : zS) (t : zL) (b : Nat → Int32) (hb : s 112 = b) (n : Nat) (h150 : n ≤ 150) (q : Nat) (hq : q ≤ n) (v last : Int32) : zD l B mX9_takeNumber (cT s b n q v) t [.ref (B.1 + 111), .int last] (some (.int (cNum b n q v last).1)) (cT s b n (cNum b n q v last).2.1 (cNum b n q v last).2.2) t := by
  unfold cNum
  split
  · next h => exact c_X9_takeNumber_ok l B s t b hb n h150 q hq v last h.1 h.2
  · next h => exact c_X9_takeNumber_no l B s t b hb n h150 q hq v last h
theorem c_cMk (l : Launch) (B : zB) (s : zS) (t : zL) (b : Nat → Int32) (hb : s 112 = b) (n : Nat) (h150 : n ≤ 150) (q : Nat) (hq : q ≤ n) (v : Int32) : zD l B mX9_takeMark (cT s b n q v) t [.ref (B.1 + 111)] (some (.int (zi (cMk b n q v).1))) (cT s b n (cMk b n q v).2.1 (cMk b n q v).2.2) t := by
  unfold cMk
  split
  · next h => exact c_X9_takeMark_ok l B s t b hb n h150 q hq v h
  · next h => exact c_X9_takeMark_no l B s t b hb n h150 q hq v h
theorem wAddD33_row (s : zS) (n : Nat) (a b c d : Int32) {k : Nat} (h : 42 < k) (hn : n < 6) : wAddD33 s n a b c d k = s k := by
  rw [wAddD33, zu_row _ _ (by omega), zu_row _ _ (by omega), zu_row _ _ (by omega), zu_row _ _ (by omega), zu_row _ _ (by omega), zu_row _ _ (by omega)]
theorem cT_add (s : zS) (b : Nat → Int32) (n q : Nat) (v : Int32) (N : Nat) (hN : N < 6) (x y z w : Int32) : wAddD33 (cT s b n q v) N x y z w = cT (wAddD33 s N x y z w) b n q v := by
  rw [wAddD33, cT_zu _ _ _ _ _ _ (by omega), cT_zu _ _ _ _ _ _ (by omega), cT_zu _ _ _ _ _ _ (by omega), cT_zu _ _ _ _ _ _ (by omega), cT_zu _ _ _ _ _ _ (by decide), cT_zu _ _ _ _ _ _ (by decide)]
  rfl
abbrev cR : Type := Bool × zS × Nat × Int32
def cDay (s : zS) (b : Nat → Int32) (n q : Nat) (v : Int32) : cR :=
  if (cNum b n (tN b n q) (tV b n (tN b n q) v) 99).1 < 0 then (false, zu s 34 0 (cNum b n (tN b n q) (tV b n (tN b n q) v) 99).1, (cNum b n (tN b n q) (tV b n (tN b n q) v) 99).2)
  else ((cMk b n (cNum b n (tN b n q) (tV b n (tN b n q) v) 99).2.1 (cNum b n (tN b n q) (tV b n (tN b n q) v) 99).2.2).1, zu s 34 0 (cNum b n (tN b n q) (tV b n (tN b n q) v) 99).1, (cMk b n (cNum b n (tN b n q) (tV b n (tN b n q) v) 99).2.1 (cNum b n (tN b n q) (tV b n (tN b n q) v) 99).2.2).2)
abbrev mX1_takeDay : zM := (yX1_takeDay, cX1_takeDay, 2, (some .boolean), { frames := 4, cells := 0, slots := 0, locals := 89 })
set_option maxRecDepth 100000 in
set_option maxHeartbeats 4000000 in
theorem c_X1_takeDay (l : Launch) (B : zB) (s : zS) (t : zL) (b : Nat → Int32) (hb : s 112 = b) (n : Nat) (h150 : n ≤ 150) (q : Nat) (hq : q ≤ n) (v : Int32) : zD l B mX1_takeDay (cT s b n q v) t [.ref (B.1 + 33), .ref (B.1 + 111)] (some (.int (zi (cDay s b n q v).1))) (cT (cDay s b n q v).2.1 b n (cDay s b n q v).2.2.1 (cDay s b n q v).2.2.2) t := by
  refine z_met (by decide) (Nat.le_of_ble_eq_true rfl) ?_
  intro X hl C E hnm
  show Zf X B mX1_takeDay (cT s b n q v) t 0 [(0, .ref (B.1 + 33)), (1, .ref (B.1 + 111))] []
  refine z_aload_n C dX1_takeDay_0 1 rfl rfl ?_
  refine f_callVv C hl (As := []) (rest := []) (c_X9_stepT l B s t b hb n h150 q hq v) zb_111 (zg_9 zk_111) rfl (zCB (nA := 0) C rfl rfl tw_320 tw_12 tw_401 (by decide +kernel) ⟨Nat.le_of_ble_eq_true rfl, Nat.le_of_ble_eq_true rfl⟩) tw_318 tw_319 rfl rfl (Nat.le_of_ble_eq_true rfl) dX1_takeDay_1 (Nat.zero_le _) ?_
  refine z_aload_n C dX1_takeDay_4 0 rfl rfl ?_
  refine f_get1 C 0 (v := .ref (B.1 + 34)) (by decide) tw_167 rfl zk_33 zb_33 rfl dX1_takeDay_5 ?_
  refine z_aload_n C dX1_takeDay_8 1 rfl rfl ?_
  refine z_bipush C dX1_takeDay_9 kb_99 ?_
  refine f_callVr C hl (As := [.int 99]) (rest := [.ref (B.1 + 34)]) (c_cNum l B s t b hb n h150 (tN b n q) (tN_le hq) (tV b n (tN b n q) v) 99) zb_111 (zg_9 zk_111) rfl (zCB (nA := 1) C rfl rfl tw_405 tw_12 tw_402 (by decide +kernel) ⟨Nat.le_of_ble_eq_true rfl, Nat.le_of_ble_eq_true rfl⟩) tw_403 tw_404 rfl rfl (Nat.le_of_ble_eq_true rfl) dX1_takeDay_11 (Nat.zero_le _) ?_
  refine f_put8_0 C tw_85 zk_34 zb_34 dX1_takeDay_14 ?_
  refine z_G (congrArg (fun z => zg B z t) (cT_zu _ _ _ _ _ _ (by decide))) ?_
  refine z_aload_n C dX1_takeDay_17 0 rfl rfl ?_
  refine f_get1 C 0 (v := .ref (B.1 + 34)) (by decide) tw_167 rfl zk_33 zb_33 rfl dX1_takeDay_18 ?_
  refine f_get8 C 0 (v := .int ((cT (zu s 34 0 ((cNum b n (tN b n q) (tV b n (tN b n q) v) 99).1)) b n ((cNum b n (tN b n q) (tV b n (tN b n q) v) 99).2.1) ((cNum b n (tN b n q) (tV b n (tN b n q) v) 99).2.2)) 34 0)) (by decide) tw_85 rfl zk_34 zb_34 rfl dX1_takeDay_21 ?_
  refine f_topi (y := (cNum b n (tN b n q) (tV b n (tN b n q) v) 99).1) (by rw [cT_row _ _ _ _ _ (by decide)]; exact zu_same _ _ _ _) ?_
  refine z_if_lt C 38 dX1_takeDay_24 (by decide) (fun h24 => ?_) (fun h24 => ?_)
  · refine z_iconst C dX1_takeDay_38 ki_0 ?_
    refine z_zret C E rfl dX1_takeDay_39 rfl rfl (Nat.le_refl _) ⟨by rw [cDay, if_pos h24]; rfl, by rw [cDay, if_pos h24]⟩
  · refine z_aload_n C dX1_takeDay_27 1 rfl rfl ?_
    refine f_callVr C hl (As := []) (rest := []) (c_cMk l B (zu s 34 0 ((cNum b n (tN b n q) (tV b n (tN b n q) v) 99).1)) t b (by rw [zu_row _ _ (by decide)]; exact hb) n h150 ((cNum b n (tN b n q) (tV b n (tN b n q) v) 99).2.1) (cNum_le (tN_le hq)) ((cNum b n (tN b n q) (tV b n (tN b n q) v) 99).2.2)) zb_111 (zg_9 zk_111) rfl (zCB (nA := 0) C rfl rfl tw_409 tw_12 tw_406 (by decide +kernel) ⟨Nat.le_of_ble_eq_true rfl, Nat.le_of_ble_eq_true rfl⟩) tw_407 tw_408 rfl rfl (Nat.le_of_ble_eq_true rfl) dX1_takeDay_28 (Nat.zero_le _) ?_
    refine z_ifb_eq C 38 dX1_takeDay_31 (by decide) (fun h31 => ?_) (fun h31 => ?_)
    · refine z_iconst C dX1_takeDay_38 ki_0 ?_
      refine z_zret C E rfl dX1_takeDay_39 rfl rfl (Nat.le_refl _) ⟨by rw [cDay, if_neg h24]; show some (Value.int 0) = some (Value.int (zi (cMk b n _ _).1)); rw [h31]; rfl, by rw [cDay, if_neg h24]⟩
    · refine z_iconst C dX1_takeDay_34 ki_1 ?_
      refine z_goto C 39 dX1_takeDay_35 (by decide) ?_
      refine z_zret C E rfl dX1_takeDay_39 rfl rfl (Nat.le_refl _) ⟨by rw [cDay, if_neg h24]; show some (Value.int 1) = some (Value.int (zi (cMk b n _ _).1)); rw [h31]; rfl, by rw [cDay, if_neg h24]⟩
def cFor (s : zS) (b : Nat → Int32) (n q : Nat) (v : Int32) : cR :=
  ((cMk b n (tLaws b n 150 (tN b n q) (tV b n (tN b n q) v) 0).2.1 (tLaws b n 150 (tN b n q) (tV b n (tN b n q) v) 0).2.2).1, zu s 34 2 (tLaws b n 150 (tN b n q) (tV b n (tN b n q) v) 0).1, (cMk b n (tLaws b n 150 (tN b n q) (tV b n (tN b n q) v) 0).2.1 (tLaws b n 150 (tN b n q) (tV b n (tN b n q) v) 0).2.2).2)
def cDep (s : zS) (b : Nat → Int32) (n q : Nat) (v : Int32) (N : Nat) : cR :=
  if s 33 4 < 6 then
    (if 0 ≤ (cNum b n (tN b n q) (tV b n (tN b n q) v) 5).1 then
      (if (cNum b n (cNum b n (tN b n q) (tV b n (tN b n q) v) 5).2.1 (cNum b n (tN b n q) (tV b n (tN b n q) v) 5).2.2 40).1 < 0 then (false, s, (cNum b n (cNum b n (tN b n q) (tV b n (tN b n q) v) 5).2.1 (cNum b n (tN b n q) (tV b n (tN b n q) v) 5).2.2 40).2)
       else (if (cMk b n (cNum b n (cNum b n (tN b n q) (tV b n (tN b n q) v) 5).2.1 (cNum b n (tN b n q) (tV b n (tN b n q) v) 5).2.2 40).2.1 (cNum b n (cNum b n (tN b n q) (tV b n (tN b n q) v) 5).2.1 (cNum b n (tN b n q) (tV b n (tN b n q) v) 5).2.2 40).2.2).1 = false then (false, s, (cMk b n (cNum b n (cNum b n (tN b n q) (tV b n (tN b n q) v) 5).2.1 (cNum b n (tN b n q) (tV b n (tN b n q) v) 5).2.2 40).2.1 (cNum b n (cNum b n (tN b n q) (tV b n (tN b n q) v) 5).2.1 (cNum b n (tN b n q) (tV b n (tN b n q) v) 5).2.2 40).2.2).2)
         else (true, wAddD33 s N (cNum b n (tN b n q) (tV b n (tN b n q) v) 5).1 0 0 (cNum b n (cNum b n (tN b n q) (tV b n (tN b n q) v) 5).2.1 (cNum b n (tN b n q) (tV b n (tN b n q) v) 5).2.2 40).1, (cMk b n (cNum b n (cNum b n (tN b n q) (tV b n (tN b n q) v) 5).2.1 (cNum b n (tN b n q) (tV b n (tN b n q) v) 5).2.2 40).2.1 (cNum b n (cNum b n (tN b n q) (tV b n (tN b n q) v) 5).2.1 (cNum b n (tN b n q) (tV b n (tN b n q) v) 5).2.2 40).2.2).2)))
     else (false, s, (cNum b n (tN b n q) (tV b n (tN b n q) v) 5).2))
  else (false, s, q, v)
abbrev mX1_takeForce : zM := (yX1_takeForce, cX1_takeForce, 2, (some .boolean), { frames := 4, cells := 0, slots := 0, locals := 89 })
set_option maxRecDepth 100000 in
set_option maxHeartbeats 4000000 in
theorem c_X1_takeForce (l : Launch) (B : zB) (s : zS) (t : zL) (b : Nat → Int32) (hb : s 112 = b) (n : Nat) (h150 : n ≤ 150) (q : Nat) (hq : q ≤ n) (v : Int32) : zD l B mX1_takeForce (cT s b n q v) t [.ref (B.1 + 33), .ref (B.1 + 111)] (some (.int (zi (cFor s b n q v).1))) (cT (cFor s b n q v).2.1 b n (cFor s b n q v).2.2.1 (cFor s b n q v).2.2.2) t := by
  refine z_met (by decide) (Nat.le_of_ble_eq_true rfl) ?_
  intro X hl C E hnm
  show Zf X B mX1_takeForce (cT s b n q v) t 0 [(0, .ref (B.1 + 33)), (1, .ref (B.1 + 111))] []
  refine z_aload_n C dX1_takeForce_0 1 rfl rfl ?_
  refine f_callVv C hl (As := []) (rest := []) (c_X9_stepT l B s t b hb n h150 q hq v) zb_111 (zg_9 zk_111) rfl (zCB (nA := 0) C rfl rfl tw_320 tw_12 tw_401 (by decide +kernel) ⟨Nat.le_of_ble_eq_true rfl, Nat.le_of_ble_eq_true rfl⟩) tw_318 tw_319 rfl rfl (Nat.le_of_ble_eq_true rfl) dX1_takeForce_1 (Nat.zero_le _) ?_
  refine z_aload_n C dX1_takeForce_4 0 rfl rfl ?_
  refine f_get1 C 0 (v := .ref (B.1 + 34)) (by decide) tw_167 rfl zk_33 zb_33 rfl dX1_takeForce_5 ?_
  refine z_aload_n C dX1_takeForce_8 1 rfl rfl ?_
  refine f_callVr C hl (As := []) (rest := [.ref (B.1 + 34)]) (c_X9_takeLaws l B s t b hb n h150 (tN b n q) (tN_le hq) (tV b n (tN b n q) v)) zb_111 (zg_9 zk_111) rfl (zCB (nA := 0) C rfl rfl tw_428 tw_12 tw_425 (by decide +kernel) ⟨Nat.le_of_ble_eq_true rfl, Nat.le_of_ble_eq_true rfl⟩) tw_426 tw_427 rfl rfl (Nat.le_of_ble_eq_true rfl) dX1_takeForce_9 (Nat.zero_le _) ?_
  refine f_put8_2 C tw_90 zk_34 zb_34 dX1_takeForce_12 ?_
  refine z_G (congrArg (fun z => zg B z t) (cT_zu _ _ _ _ _ _ (by decide))) ?_
  refine z_aload_n C dX1_takeForce_15 1 rfl rfl ?_
  refine f_callVr C hl (As := []) (rest := []) (c_cMk l B (zu s 34 2 ((tLaws b n 150 (tN b n q) (tV b n (tN b n q) v) 0).1)) t b (by rw [zu_row _ _ (by decide)]; exact hb) n h150 ((tLaws b n 150 (tN b n q) (tV b n (tN b n q) v) 0).2.1) (tLaws_le _ _ _ _ (tN_le hq)) ((tLaws b n 150 (tN b n q) (tV b n (tN b n q) v) 0).2.2)) zb_111 (zg_9 zk_111) rfl (zCB (nA := 0) C rfl rfl tw_409 tw_12 tw_406 (by decide +kernel) ⟨Nat.le_of_ble_eq_true rfl, Nat.le_of_ble_eq_true rfl⟩) tw_407 tw_408 rfl rfl (Nat.le_of_ble_eq_true rfl) dX1_takeForce_16 (Nat.zero_le _) ?_
  refine z_zret C E rfl dX1_takeForce_19 (zi_nar _) rfl (Nat.le_refl _) ⟨rfl, rfl⟩
abbrev mX1_takeDeputy : zM := (yX1_takeDeputy, cX1_takeDeputy, 4, (some .boolean), { frames := 4, cells := 0, slots := 0, locals := 89 })
set_option maxRecDepth 100000 in
set_option maxHeartbeats 4000000 in
theorem c_X1_takeDeputy (l : Launch) (B : zB) (s : zS) (t : zL) (b : Nat → Int32) (hb : s 112 = b) (n : Nat) (h150 : n ≤ 150) (q : Nat) (hq : q ≤ n) (v : Int32) (N : Nat) (hN : s 33 4 = nI N) (hN31 : N ≤ 6) : zD l B mX1_takeDeputy (cT s b n q v) t [.ref (B.1 + 33), .ref (B.1 + 111)] (some (.int (zi (cDep s b n q v N).1))) (cT (cDep s b n q v N).2.1 b n (cDep s b n q v N).2.2.1 (cDep s b n q v N).2.2.2) t := by
  refine z_met (by decide) (Nat.le_of_ble_eq_true rfl) ?_
  intro X hl C E hnm
  show Zf X B mX1_takeDeputy (cT s b n q v) t 0 [(0, .ref (B.1 + 33)), (1, .ref (B.1 + 111))] []
  refine z_aload_n C dX1_takeDeputy_0 0 rfl rfl ?_
  refine f_get1 C 4 (v := .int ((cT s b n q v) 33 4)) (by decide) tw_172 rfl zk_33 zb_33 rfl dX1_takeDeputy_1 ?_
  refine f_topi (y := s 33 4) (by rw [cT_row _ _ _ _ _ (by decide)]) ?_
  refine z_bipush C dX1_takeDeputy_4 kb_6 ?_
  refine z_icmp_lt C 11 dX1_takeDeputy_6 (by decide) (fun h6 => ?_) (fun h6 => ?_)
  · refine z_aload_n C dX1_takeDeputy_11 1 rfl rfl ?_
    refine f_callVv C hl (As := []) (rest := []) (c_X9_stepT l B s t b hb n h150 q hq v) zb_111 (zg_9 zk_111) rfl (zCB (nA := 0) C rfl rfl tw_320 tw_12 tw_401 (by decide +kernel) ⟨Nat.le_of_ble_eq_true rfl, Nat.le_of_ble_eq_true rfl⟩) tw_318 tw_319 rfl rfl (Nat.le_of_ble_eq_true rfl) dX1_takeDeputy_12 (Nat.zero_le _) ?_
    refine z_aload_n C dX1_takeDeputy_15 1 rfl rfl ?_
    refine z_iconst C dX1_takeDeputy_16 ki_5 ?_
    refine f_callVr C hl (As := [.int 5]) (rest := []) (c_cNum l B s t b hb n h150 (tN b n q) (tN_le hq) (tV b n (tN b n q) v) 5) zb_111 (zg_9 zk_111) rfl (zCB (nA := 1) C rfl rfl tw_405 tw_12 tw_402 (by decide +kernel) ⟨Nat.le_of_ble_eq_true rfl, Nat.le_of_ble_eq_true rfl⟩) tw_403 tw_404 rfl rfl (Nat.le_of_ble_eq_true rfl) dX1_takeDeputy_17 (Nat.zero_le _) ?_
    refine z_istore_n C [(2, .int ((cNum b n (tN b n q) (tV b n (tN b n q) v) 5).1)), (0, .ref (B.1 + 33)), (1, .ref (B.1 + 111))] dX1_takeDeputy_20 rfl (by decide) rfl ?_
    refine z_iload_n C dX1_takeDeputy_21 0 rfl rfl ?_
    refine z_if_ge C 29 dX1_takeDeputy_22 (by decide) (fun h22 => ?_) (fun h22 => ?_)
    · refine z_aload_n C dX1_takeDeputy_29 2 rfl rfl ?_
      refine z_bipush C dX1_takeDeputy_30 kb_40 ?_
      refine f_callVr C hl (As := [.int 40]) (rest := []) (c_cNum l B s t b hb n h150 ((cNum b n (tN b n q) (tV b n (tN b n q) v) 5).2.1) (cNum_le (tN_le hq)) ((cNum b n (tN b n q) (tV b n (tN b n q) v) 5).2.2) 40) zb_111 (zg_9 zk_111) rfl (zCB (nA := 1) C rfl rfl tw_405 tw_12 tw_402 (by decide +kernel) ⟨Nat.le_of_ble_eq_true rfl, Nat.le_of_ble_eq_true rfl⟩) tw_403 tw_404 rfl rfl (Nat.le_of_ble_eq_true rfl) dX1_takeDeputy_32 (Nat.zero_le _) ?_
      refine z_istore_n C [(3, .int ((cNum b n ((cNum b n (tN b n q) (tV b n (tN b n q) v) 5).2.1) ((cNum b n (tN b n q) (tV b n (tN b n q) v) 5).2.2) 40).1)), (2, .int ((cNum b n (tN b n q) (tV b n (tN b n q) v) 5).1)), (0, .ref (B.1 + 33)), (1, .ref (B.1 + 111))] dX1_takeDeputy_35 rfl (by decide) rfl ?_
      refine z_iload_n C dX1_takeDeputy_36 0 rfl rfl ?_
      refine z_if_lt C 47 dX1_takeDeputy_37 (by decide) (fun h37 => ?_) (fun h37 => ?_)
      · refine z_iconst C dX1_takeDeputy_47 ki_0 ?_
        refine z_zret C E rfl dX1_takeDeputy_48 rfl rfl (Nat.le_refl _) ⟨by rw [cDep, if_pos h6, if_pos h22, if_pos h37]; rfl, by rw [cDep, if_pos h6, if_pos h22, if_pos h37]⟩
      · refine z_aload_n C dX1_takeDeputy_40 3 rfl rfl ?_
        refine f_callVr C hl (As := []) (rest := []) (c_cMk l B s t b hb n h150 ((cNum b n ((cNum b n (tN b n q) (tV b n (tN b n q) v) 5).2.1) ((cNum b n (tN b n q) (tV b n (tN b n q) v) 5).2.2) 40).2.1) (cNum_le (cNum_le (tN_le hq))) ((cNum b n ((cNum b n (tN b n q) (tV b n (tN b n q) v) 5).2.1) ((cNum b n (tN b n q) (tV b n (tN b n q) v) 5).2.2) 40).2.2)) zb_111 (zg_9 zk_111) rfl (zCB (nA := 0) C rfl rfl tw_409 tw_12 tw_406 (by decide +kernel) ⟨Nat.le_of_ble_eq_true rfl, Nat.le_of_ble_eq_true rfl⟩) tw_407 tw_408 rfl rfl (Nat.le_of_ble_eq_true rfl) dX1_takeDeputy_41 (Nat.zero_le _) ?_
        refine z_ifb_ne C 49 dX1_takeDeputy_44 (by decide) (fun h44 => ?_) (fun h44 => ?_)
        · refine z_aload_n C dX1_takeDeputy_49 2 rfl rfl ?_
          refine z_iload_n C dX1_takeDeputy_50 1 rfl rfl ?_
          refine z_iconst C dX1_takeDeputy_51 ki_0 ?_
          refine z_iconst C dX1_takeDeputy_52 ki_0 ?_
          refine z_iload_n C dX1_takeDeputy_53 0 rfl rfl ?_
          have hN6 : N < 6 := Classical.byContradiction fun z => nI_nlt (a := N) (b := 6) (by omega) (by omega) (show nI N < nI 6 by rw [← hN]; exact h6)
          refine f_callVv C hl (As := [.int ((cNum b n (tN b n q) (tV b n (tN b n q) v) 5).1), .int 0, .int 0, .int ((cNum b n ((cNum b n (tN b n q) (tV b n (tN b n q) v) 5).2.1) ((cNum b n (tN b n q) (tV b n (tN b n q) v) 5).2.2) 40).1)]) (rest := []) (c_X1_addDeputy33 l B (cT s b n ((cMk b n ((cNum b n ((cNum b n (tN b n q) (tV b n (tN b n q) v) 5).2.1) ((cNum b n (tN b n q) (tV b n (tN b n q) v) 5).2.2) 40).2.1) ((cNum b n ((cNum b n (tN b n q) (tV b n (tN b n q) v) 5).2.1) ((cNum b n (tN b n q) (tV b n (tN b n q) v) 5).2.2) 40).2.2)).2.1) ((cMk b n ((cNum b n ((cNum b n (tN b n q) (tV b n (tN b n q) v) 5).2.1) ((cNum b n (tN b n q) (tV b n (tN b n q) v) 5).2.2) 40).2.1) ((cNum b n ((cNum b n (tN b n q) (tV b n (tN b n q) v) 5).2.1) ((cNum b n (tN b n q) (tV b n (tN b n q) v) 5).2.2) 40).2.2)).2.2)) t N hN6 (by rw [cT_row _ _ _ _ _ (by decide)]; exact hN) ((cNum b n (tN b n q) (tV b n (tN b n q) v) 5).1) 0 0 ((cNum b n ((cNum b n (tN b n q) (tV b n (tN b n q) v) 5).2.1) ((cNum b n (tN b n q) (tV b n (tN b n q) v) 5).2.2) 40).1)) zb_33 (zg_1 zk_33) rfl (zCB (nA := 4) C rfl rfl tw_291 tw_8 tw_415 (by decide +kernel) ⟨Nat.le_of_ble_eq_true rfl, Nat.le_of_ble_eq_true rfl⟩) tw_289 tw_290 rfl rfl (Nat.le_of_ble_eq_true rfl) dX1_takeDeputy_54 (Nat.zero_le _) ?_
          refine z_iconst C dX1_takeDeputy_57 ki_1 ?_
          refine z_zret C E rfl dX1_takeDeputy_58 rfl rfl (Nat.le_refl _) ⟨by rw [cDep, if_pos h6, if_pos h22, if_neg h37, if_neg (by rw [h44]; decide)]; rfl, congrArg (fun z => zg B z t) (by rw [cDep, if_pos h6, if_pos h22, if_neg h37, if_neg (by rw [h44]; decide)]; exact cT_add _ _ _ _ _ _ hN6 _ _ _ _)⟩
        · refine z_iconst C dX1_takeDeputy_47 ki_0 ?_
          refine z_zret C E rfl dX1_takeDeputy_48 rfl rfl (Nat.le_refl _) ⟨by rw [cDep, if_pos h6, if_pos h22, if_neg h37, if_pos h44]; rfl, by rw [cDep, if_pos h6, if_pos h22, if_neg h37, if_pos h44]⟩
    · refine z_iconst C dX1_takeDeputy_25 ki_m1 ?_
      refine z_goto C 35 dX1_takeDeputy_26 (by decide) ?_
      refine z_istore_n C [(3, .int (-1)), (2, .int ((cNum b n (tN b n q) (tV b n (tN b n q) v) 5).1)), (0, .ref (B.1 + 33)), (1, .ref (B.1 + 111))] dX1_takeDeputy_35 rfl (by decide) rfl ?_
      refine z_iload_n C dX1_takeDeputy_36 0 rfl rfl ?_
      refine z_if_lt C 47 dX1_takeDeputy_37 (by decide) (fun _ => ?_) (fun hbr => absurd (by decide) hbr)
      refine z_iconst C dX1_takeDeputy_47 ki_0 ?_
      refine z_zret C E rfl dX1_takeDeputy_48 rfl rfl (Nat.le_refl _) ⟨by rw [cDep, if_pos h6, if_neg h22]; rfl, by rw [cDep, if_pos h6, if_neg h22]⟩
  · refine z_iconst C dX1_takeDeputy_9 ki_0 ?_
    refine z_zret C E rfl dX1_takeDeputy_10 rfl rfl (Nat.le_refl _) ⟨by rw [cDep, if_neg h6]; rfl, by rw [cDep, if_neg h6]⟩
def cLea (s : zS) (b : Nat → Int32) (n q : Nat) (v : Int32) (j : Nat) : cR :=
  if (cNum b n (tN b n q) (tV b n (tN b n q) v) (s 33 4 - 1)).1 < 0 ∨ s 33 4 ≤ (cNum b n (tN b n q) (tV b n (tN b n q) v) (s 33 4 - 1)).1 then (false, s, (cNum b n (tN b n q) (tV b n (tN b n q) v) (s 33 4 - 1)).2)
  else ((cMk b n (tLaws b n 150 (cNum b n (tN b n q) (tV b n (tN b n q) v) (s 33 4 - 1)).2.1 (cNum b n (tN b n q) (tV b n (tN b n q) v) (s 33 4 - 1)).2.2 0).2.1 (tLaws b n 150 (cNum b n (tN b n q) (tV b n (tN b n q) v) (s 33 4 - 1)).2.1 (cNum b n (tN b n q) (tV b n (tN b n q) v) (s 33 4 - 1)).2.2 0).2.2).1, zu s (36 + (cNum b n (tN b n q) (tV b n (tN b n q) v) (s 33 4 - 1)).1.toNatClampNeg) j (tLaws b n 150 (cNum b n (tN b n q) (tV b n (tN b n q) v) (s 33 4 - 1)).2.1 (cNum b n (tN b n q) (tV b n (tN b n q) v) (s 33 4 - 1)).2.2 0).1, (cMk b n (tLaws b n 150 (cNum b n (tN b n q) (tV b n (tN b n q) v) (s 33 4 - 1)).2.1 (cNum b n (tN b n q) (tV b n (tN b n q) v) (s 33 4 - 1)).2.2 0).2.1 (tLaws b n 150 (cNum b n (tN b n q) (tV b n (tN b n q) v) (s 33 4 - 1)).2.1 (cNum b n (tN b n q) (tV b n (tN b n q) v) (s 33 4 - 1)).2.2 0).2.2).2)
abbrev mX1_takeLeaning : zM := (yX1_takeLeaning, cX1_takeLeaning, 5, (some .boolean), { frames := 4, cells := 0, slots := 0, locals := 89 })
set_option maxRecDepth 100000 in
set_option maxHeartbeats 4000000 in
theorem c_X1_takeLeaning1n (l : Launch) (B : zB) (s : zS) (t : zL) (b : Nat → Int32) (hb : s 112 = b) (n : Nat) (h150 : n ≤ 150) (q : Nat) (hq : q ≤ n) (v : Int32) (h : (cNum b n (tN b n q) (tV b n (tN b n q) v) (s 33 4 - 1)).1 < 0 ∨ s 33 4 ≤ (cNum b n (tN b n q) (tV b n (tN b n q) v) (s 33 4 - 1)).1) : zD l B mX1_takeLeaning (cT s b n q v) t [.ref (B.1 + 33), .ref (B.1 + 111), .int 1] (some (.int (zi (cLea s b n q v 1).1))) (cT (cLea s b n q v 1).2.1 b n (cLea s b n q v 1).2.2.1 (cLea s b n q v 1).2.2.2) t := by
  refine z_met (by decide) (Nat.le_of_ble_eq_true rfl) ?_
  intro X hl C E hnm
  show Zf X B mX1_takeLeaning (cT s b n q v) t 0 [(0, .ref (B.1 + 33)), (1, .ref (B.1 + 111)), (2, .int 1)] []
  refine z_aload_n C dX1_takeLeaning_0 1 rfl rfl ?_
  refine f_callVv C hl (As := []) (rest := []) (c_X9_stepT l B s t b hb n h150 q hq v) zb_111 (zg_9 zk_111) rfl (zCB (nA := 0) C rfl rfl tw_320 tw_12 tw_401 (by decide +kernel) ⟨Nat.le_of_ble_eq_true rfl, Nat.le_of_ble_eq_true rfl⟩) tw_318 tw_319 rfl rfl (Nat.le_of_ble_eq_true rfl) dX1_takeLeaning_1 (Nat.zero_le _) ?_
  refine z_aload_n C dX1_takeLeaning_4 0 rfl rfl ?_
  refine z_aload_n C dX1_takeLeaning_5 1 rfl rfl ?_
  refine z_aload_n C dX1_takeLeaning_6 0 rfl rfl ?_
  refine f_get1 C 4 (v := .int ((cT s b n (tN b n q) (tV b n (tN b n q) v)) 33 4)) (by decide) tw_172 rfl zk_33 zb_33 rfl dX1_takeLeaning_7 ?_
  refine f_topi (y := s 33 4) (by rw [cT_row _ _ _ _ _ (by decide)]) ?_
  refine z_iconst C dX1_takeLeaning_10 ki_1 ?_
  refine z_isub C dX1_takeLeaning_11 ?_
  refine f_callVr C hl (As := [.int ((s 33 4) - 1)]) (rest := [.ref (B.1 + 33)]) (c_cNum l B s t b hb n h150 (tN b n q) (tN_le hq) (tV b n (tN b n q) v) ((s 33 4) - 1)) zb_111 (zg_9 zk_111) rfl (zCB (nA := 1) C rfl rfl tw_405 tw_12 tw_402 (by decide +kernel) ⟨Nat.le_of_ble_eq_true rfl, Nat.le_of_ble_eq_true rfl⟩) tw_403 tw_404 rfl rfl (Nat.le_of_ble_eq_true rfl) dX1_takeLeaning_12 (Nat.zero_le _) ?_
  refine f_callVr C hl (As := [.int ((cNum b n (tN b n q) (tV b n (tN b n q) v) ((s 33 4) - 1)).1)]) (rest := []) (c_X1_deputyAt33n l B (cT s b n ((cNum b n (tN b n q) (tV b n (tN b n q) v) ((s 33 4) - 1)).2.1) ((cNum b n (tN b n q) (tV b n (tN b n q) v) ((s 33 4) - 1)).2.2)) t _ (by rw [cT_row _ _ _ _ _ (by decide)]; exact h)) zb_33 (zg_1 zk_33) rfl (zCB (nA := 1) C rfl rfl tw_424 tw_8 tw_421 (by decide +kernel) ⟨Nat.le_of_ble_eq_true rfl, Nat.le_of_ble_eq_true rfl⟩) tw_422 tw_423 rfl rfl (Nat.le_of_ble_eq_true rfl) dX1_takeLeaning_15 (Nat.zero_le _) ?_
  refine z_astore_nN C [(3, .null), (0, .ref (B.1 + 33)), (1, .ref (B.1 + 111)), (2, .int 1)] dX1_takeLeaning_18 rfl (by decide) rfl ?_
  refine z_aload_nN C dX1_takeLeaning_19 0 rfl rfl ?_
  refine z_ifnonnullN C dX1_takeLeaning_20 ?_
  refine z_iconst C dX1_takeLeaning_23 ki_0 ?_
  refine z_zret C E rfl dX1_takeLeaning_24 rfl rfl (Nat.le_refl _) ⟨by rw [cLea, if_pos h]; rfl, by rw [cLea, if_pos h]⟩
set_option maxRecDepth 100000 in
set_option maxHeartbeats 4000000 in
theorem c_X1_takeLeaning1s (l : Launch) (B : zB) (s : zS) (t : zL) (b : Nat → Int32) (hb : s 112 = b) (n : Nat) (h150 : n ≤ 150) (q : Nat) (hq : q ≤ n) (v : Int32) (d : Nat) (hd : d < 6) (e : (cNum b n (tN b n q) (tV b n (tN b n q) v) (s 33 4 - 1)).1 = nI d) (hc : nI d < s 33 4) : zD l B mX1_takeLeaning (cT s b n q v) t [.ref (B.1 + 33), .ref (B.1 + 111), .int 1] (some (.int (zi (cLea s b n q v 1).1))) (cT (cLea s b n q v 1).2.1 b n (cLea s b n q v 1).2.2.1 (cLea s b n q v 1).2.2.2) t := by
  refine z_met (by decide) (Nat.le_of_ble_eq_true rfl) ?_
  intro X hl C E hnm
  show Zf X B mX1_takeLeaning (cT s b n q v) t 0 [(0, .ref (B.1 + 33)), (1, .ref (B.1 + 111)), (2, .int 1)] []
  refine z_aload_n C dX1_takeLeaning_0 1 rfl rfl ?_
  refine f_callVv C hl (As := []) (rest := []) (c_X9_stepT l B s t b hb n h150 q hq v) zb_111 (zg_9 zk_111) rfl (zCB (nA := 0) C rfl rfl tw_320 tw_12 tw_401 (by decide +kernel) ⟨Nat.le_of_ble_eq_true rfl, Nat.le_of_ble_eq_true rfl⟩) tw_318 tw_319 rfl rfl (Nat.le_of_ble_eq_true rfl) dX1_takeLeaning_1 (Nat.zero_le _) ?_
  refine z_aload_n C dX1_takeLeaning_4 0 rfl rfl ?_
  refine z_aload_n C dX1_takeLeaning_5 1 rfl rfl ?_
  refine z_aload_n C dX1_takeLeaning_6 0 rfl rfl ?_
  refine f_get1 C 4 (v := .int ((cT s b n (tN b n q) (tV b n (tN b n q) v)) 33 4)) (by decide) tw_172 rfl zk_33 zb_33 rfl dX1_takeLeaning_7 ?_
  refine f_topi (y := s 33 4) (by rw [cT_row _ _ _ _ _ (by decide)]) ?_
  refine z_iconst C dX1_takeLeaning_10 ki_1 ?_
  refine z_isub C dX1_takeLeaning_11 ?_
  refine f_callVr C hl (As := [.int ((s 33 4) - 1)]) (rest := [.ref (B.1 + 33)]) (c_cNum l B s t b hb n h150 (tN b n q) (tN_le hq) (tV b n (tN b n q) v) ((s 33 4) - 1)) zb_111 (zg_9 zk_111) rfl (zCB (nA := 1) C rfl rfl tw_405 tw_12 tw_402 (by decide +kernel) ⟨Nat.le_of_ble_eq_true rfl, Nat.le_of_ble_eq_true rfl⟩) tw_403 tw_404 rfl rfl (Nat.le_of_ble_eq_true rfl) dX1_takeLeaning_12 (Nat.zero_le _) ?_
  refine f_topi (y := nI d) e ?_
  refine f_callVr C hl (As := [.int (nI d)]) (rest := []) (c_X1_deputyAt33s l B (cT s b n ((cNum b n (tN b n q) (tV b n (tN b n q) v) ((s 33 4) - 1)).2.1) ((cNum b n (tN b n q) (tV b n (tN b n q) v) ((s 33 4) - 1)).2.2)) t d hd (nI d) rfl (by rw [cT_row _ _ _ _ _ (by decide)]; exact hc)) zb_33 (zg_1 zk_33) rfl (zCB (nA := 1) C rfl rfl tw_424 tw_8 tw_421 (by decide +kernel) ⟨Nat.le_of_ble_eq_true rfl, Nat.le_of_ble_eq_true rfl⟩) tw_422 tw_423 rfl rfl (Nat.le_of_ble_eq_true rfl) dX1_takeLeaning_15 (Nat.zero_le _) ?_
  refine z_astore_n C [(3, .ref (B.1 + (36 + d))), (0, .ref (B.1 + 33)), (1, .ref (B.1 + 111)), (2, .int 1)] dX1_takeLeaning_18 rfl (by decide) rfl ?_
  refine z_aload_n C dX1_takeLeaning_19 0 rfl rfl ?_
  refine z_ifnonnull C 25 dX1_takeLeaning_20 (by decide) ?_
  refine z_aload_n C dX1_takeLeaning_25 2 rfl rfl ?_
  refine f_callVr C hl (As := []) (rest := []) (c_X9_takeLaws l B s t b hb n h150 ((cNum b n (tN b n q) (tV b n (tN b n q) v) ((s 33 4) - 1)).2.1) (cNum_le (tN_le hq)) ((cNum b n (tN b n q) (tV b n (tN b n q) v) ((s 33 4) - 1)).2.2)) zb_111 (zg_9 zk_111) rfl (zCB (nA := 0) C rfl rfl tw_428 tw_12 tw_425 (by decide +kernel) ⟨Nat.le_of_ble_eq_true rfl, Nat.le_of_ble_eq_true rfl⟩) tw_426 tw_427 rfl rfl (Nat.le_of_ble_eq_true rfl) dX1_takeLeaning_26 (Nat.zero_le _) ?_
  refine z_istore C [(4, .int ((tLaws b n 150 ((cNum b n (tN b n q) (tV b n (tN b n q) v) ((s 33 4) - 1)).2.1) ((cNum b n (tN b n q) (tV b n (tN b n q) v) ((s 33 4) - 1)).2.2) 0).1)), (3, .ref (B.1 + (36 + d))), (0, .ref (B.1 + 33)), (1, .ref (B.1 + 111)), (2, .int 1)] dX1_takeLeaning_29 (by decide) rfl ?_
  refine z_iload_n C dX1_takeLeaning_31 4 rfl rfl ?_
  refine z_if_eq C 44 dX1_takeLeaning_32 (by decide) (fun hbr => absurd hbr (by decide)) (fun _ => ?_)
  refine z_aload_n C dX1_takeLeaning_35 1 rfl rfl ?_
  refine z_iload C dX1_takeLeaning_36 0 rfl ?_
  refine f_put0_1 C tw_121 (zk_dep2 d hd) (by omega) dX1_takeLeaning_38 ?_
  refine z_goto C 50 dX1_takeLeaning_41 (by decide) ?_
  refine z_G (congrArg (fun z => zg B z t) (cT_zu _ _ _ _ _ _ (by omega))) ?_
  refine z_aload_n C dX1_takeLeaning_50 3 rfl rfl ?_
  refine f_callVr C hl (As := []) (rest := []) (c_cMk l B (zu s (36 + d) 1 ((tLaws b n 150 ((cNum b n (tN b n q) (tV b n (tN b n q) v) ((s 33 4) - 1)).2.1) ((cNum b n (tN b n q) (tV b n (tN b n q) v) ((s 33 4) - 1)).2.2) 0).1)) t b (by rw [zu_row _ _ (by omega)]; exact hb) n h150 ((tLaws b n 150 ((cNum b n (tN b n q) (tV b n (tN b n q) v) ((s 33 4) - 1)).2.1) ((cNum b n (tN b n q) (tV b n (tN b n q) v) ((s 33 4) - 1)).2.2) 0).2.1) (tLaws_le _ _ _ _ (cNum_le (tN_le hq))) ((tLaws b n 150 ((cNum b n (tN b n q) (tV b n (tN b n q) v) ((s 33 4) - 1)).2.1) ((cNum b n (tN b n q) (tV b n (tN b n q) v) ((s 33 4) - 1)).2.2) 0).2.2)) zb_111 (zg_9 zk_111) rfl (zCB (nA := 0) C rfl rfl tw_409 tw_12 tw_406 (by decide +kernel) ⟨Nat.le_of_ble_eq_true rfl, Nat.le_of_ble_eq_true rfl⟩) tw_407 tw_408 rfl rfl (Nat.le_of_ble_eq_true rfl) dX1_takeLeaning_51 (Nat.zero_le _) ?_
  refine z_zret C E rfl dX1_takeLeaning_54 (zi_nar _) rfl (Nat.le_refl _) ⟨by rw [cLea, if_neg (by rw [e]; exact fun z => z.elim (nI_pos (by omega)) (Int32.not_le.mpr hc))], by rw [cLea, if_neg (by rw [e]; exact fun z => z.elim (nI_pos (by omega)) (Int32.not_le.mpr hc)), e, nI_clamp (by omega)]⟩
theorem c_X1_takeLeaning1 (l : Launch) (B : zB) (s : zS) (t : zL) (b : Nat → Int32) (hb : s 112 = b) (n : Nat) (h150 : n ≤ 150) (q : Nat) (hq : q ≤ n) (v : Int32) (N : Nat) (hN : s 33 4 = nI N) (hN6 : N ≤ 6) : zD l B mX1_takeLeaning (cT s b n q v) t [.ref (B.1 + 33), .ref (B.1 + 111), .int 1] (some (.int (zi (cLea s b n q v 1).1))) (cT (cLea s b n q v 1).2.1 b n (cLea s b n q v 1).2.2.1 (cLea s b n q v 1).2.2.2) t := by
  by_cases h : (cNum b n (tN b n q) (tV b n (tN b n q) v) (s 33 4 - 1)).1 < 0 ∨ s 33 4 ≤ (cNum b n (tN b n q) (tV b n (tN b n q) v) (s 33 4 - 1)).1
  · exact c_X1_takeLeaning1n l B s t b hb n h150 q hq v h
  · obtain ⟨d, hd, e⟩ := nI_of (fun z => h (Or.inl z))
    have h2 : nI d < s 33 4 := Int32.not_le.mp (fun z => h (Or.inr (by rw [e]; exact z)))
    have h3 : d < N := by rw [hN] at h2; exact (nI_ltI hd (by omega)).mp h2
    exact c_X1_takeLeaning1s l B s t b hb n h150 q hq v d (by omega) e h2
set_option maxRecDepth 100000 in
set_option maxHeartbeats 4000000 in
theorem c_X1_takeLeaning0n (l : Launch) (B : zB) (s : zS) (t : zL) (b : Nat → Int32) (hb : s 112 = b) (n : Nat) (h150 : n ≤ 150) (q : Nat) (hq : q ≤ n) (v : Int32) (h : (cNum b n (tN b n q) (tV b n (tN b n q) v) (s 33 4 - 1)).1 < 0 ∨ s 33 4 ≤ (cNum b n (tN b n q) (tV b n (tN b n q) v) (s 33 4 - 1)).1) : zD l B mX1_takeLeaning (cT s b n q v) t [.ref (B.1 + 33), .ref (B.1 + 111), .int 0] (some (.int (zi (cLea s b n q v 2).1))) (cT (cLea s b n q v 2).2.1 b n (cLea s b n q v 2).2.2.1 (cLea s b n q v 2).2.2.2) t := by
  refine z_met (by decide) (Nat.le_of_ble_eq_true rfl) ?_
  intro X hl C E hnm
  show Zf X B mX1_takeLeaning (cT s b n q v) t 0 [(0, .ref (B.1 + 33)), (1, .ref (B.1 + 111)), (2, .int 0)] []
  refine z_aload_n C dX1_takeLeaning_0 1 rfl rfl ?_
  refine f_callVv C hl (As := []) (rest := []) (c_X9_stepT l B s t b hb n h150 q hq v) zb_111 (zg_9 zk_111) rfl (zCB (nA := 0) C rfl rfl tw_320 tw_12 tw_401 (by decide +kernel) ⟨Nat.le_of_ble_eq_true rfl, Nat.le_of_ble_eq_true rfl⟩) tw_318 tw_319 rfl rfl (Nat.le_of_ble_eq_true rfl) dX1_takeLeaning_1 (Nat.zero_le _) ?_
  refine z_aload_n C dX1_takeLeaning_4 0 rfl rfl ?_
  refine z_aload_n C dX1_takeLeaning_5 1 rfl rfl ?_
  refine z_aload_n C dX1_takeLeaning_6 0 rfl rfl ?_
  refine f_get1 C 4 (v := .int ((cT s b n (tN b n q) (tV b n (tN b n q) v)) 33 4)) (by decide) tw_172 rfl zk_33 zb_33 rfl dX1_takeLeaning_7 ?_
  refine f_topi (y := s 33 4) (by rw [cT_row _ _ _ _ _ (by decide)]) ?_
  refine z_iconst C dX1_takeLeaning_10 ki_1 ?_
  refine z_isub C dX1_takeLeaning_11 ?_
  refine f_callVr C hl (As := [.int ((s 33 4) - 1)]) (rest := [.ref (B.1 + 33)]) (c_cNum l B s t b hb n h150 (tN b n q) (tN_le hq) (tV b n (tN b n q) v) ((s 33 4) - 1)) zb_111 (zg_9 zk_111) rfl (zCB (nA := 1) C rfl rfl tw_405 tw_12 tw_402 (by decide +kernel) ⟨Nat.le_of_ble_eq_true rfl, Nat.le_of_ble_eq_true rfl⟩) tw_403 tw_404 rfl rfl (Nat.le_of_ble_eq_true rfl) dX1_takeLeaning_12 (Nat.zero_le _) ?_
  refine f_callVr C hl (As := [.int ((cNum b n (tN b n q) (tV b n (tN b n q) v) ((s 33 4) - 1)).1)]) (rest := []) (c_X1_deputyAt33n l B (cT s b n ((cNum b n (tN b n q) (tV b n (tN b n q) v) ((s 33 4) - 1)).2.1) ((cNum b n (tN b n q) (tV b n (tN b n q) v) ((s 33 4) - 1)).2.2)) t _ (by rw [cT_row _ _ _ _ _ (by decide)]; exact h)) zb_33 (zg_1 zk_33) rfl (zCB (nA := 1) C rfl rfl tw_424 tw_8 tw_421 (by decide +kernel) ⟨Nat.le_of_ble_eq_true rfl, Nat.le_of_ble_eq_true rfl⟩) tw_422 tw_423 rfl rfl (Nat.le_of_ble_eq_true rfl) dX1_takeLeaning_15 (Nat.zero_le _) ?_
  refine z_astore_nN C [(3, .null), (0, .ref (B.1 + 33)), (1, .ref (B.1 + 111)), (2, .int 0)] dX1_takeLeaning_18 rfl (by decide) rfl ?_
  refine z_aload_nN C dX1_takeLeaning_19 0 rfl rfl ?_
  refine z_ifnonnullN C dX1_takeLeaning_20 ?_
  refine z_iconst C dX1_takeLeaning_23 ki_0 ?_
  refine z_zret C E rfl dX1_takeLeaning_24 rfl rfl (Nat.le_refl _) ⟨by rw [cLea, if_pos h]; rfl, by rw [cLea, if_pos h]⟩
set_option maxRecDepth 100000 in
set_option maxHeartbeats 4000000 in
theorem c_X1_takeLeaning0s (l : Launch) (B : zB) (s : zS) (t : zL) (b : Nat → Int32) (hb : s 112 = b) (n : Nat) (h150 : n ≤ 150) (q : Nat) (hq : q ≤ n) (v : Int32) (d : Nat) (hd : d < 6) (e : (cNum b n (tN b n q) (tV b n (tN b n q) v) (s 33 4 - 1)).1 = nI d) (hc : nI d < s 33 4) : zD l B mX1_takeLeaning (cT s b n q v) t [.ref (B.1 + 33), .ref (B.1 + 111), .int 0] (some (.int (zi (cLea s b n q v 2).1))) (cT (cLea s b n q v 2).2.1 b n (cLea s b n q v 2).2.2.1 (cLea s b n q v 2).2.2.2) t := by
  refine z_met (by decide) (Nat.le_of_ble_eq_true rfl) ?_
  intro X hl C E hnm
  show Zf X B mX1_takeLeaning (cT s b n q v) t 0 [(0, .ref (B.1 + 33)), (1, .ref (B.1 + 111)), (2, .int 0)] []
  refine z_aload_n C dX1_takeLeaning_0 1 rfl rfl ?_
  refine f_callVv C hl (As := []) (rest := []) (c_X9_stepT l B s t b hb n h150 q hq v) zb_111 (zg_9 zk_111) rfl (zCB (nA := 0) C rfl rfl tw_320 tw_12 tw_401 (by decide +kernel) ⟨Nat.le_of_ble_eq_true rfl, Nat.le_of_ble_eq_true rfl⟩) tw_318 tw_319 rfl rfl (Nat.le_of_ble_eq_true rfl) dX1_takeLeaning_1 (Nat.zero_le _) ?_
  refine z_aload_n C dX1_takeLeaning_4 0 rfl rfl ?_
  refine z_aload_n C dX1_takeLeaning_5 1 rfl rfl ?_
  refine z_aload_n C dX1_takeLeaning_6 0 rfl rfl ?_
  refine f_get1 C 4 (v := .int ((cT s b n (tN b n q) (tV b n (tN b n q) v)) 33 4)) (by decide) tw_172 rfl zk_33 zb_33 rfl dX1_takeLeaning_7 ?_
  refine f_topi (y := s 33 4) (by rw [cT_row _ _ _ _ _ (by decide)]) ?_
  refine z_iconst C dX1_takeLeaning_10 ki_1 ?_
  refine z_isub C dX1_takeLeaning_11 ?_
  refine f_callVr C hl (As := [.int ((s 33 4) - 1)]) (rest := [.ref (B.1 + 33)]) (c_cNum l B s t b hb n h150 (tN b n q) (tN_le hq) (tV b n (tN b n q) v) ((s 33 4) - 1)) zb_111 (zg_9 zk_111) rfl (zCB (nA := 1) C rfl rfl tw_405 tw_12 tw_402 (by decide +kernel) ⟨Nat.le_of_ble_eq_true rfl, Nat.le_of_ble_eq_true rfl⟩) tw_403 tw_404 rfl rfl (Nat.le_of_ble_eq_true rfl) dX1_takeLeaning_12 (Nat.zero_le _) ?_
  refine f_topi (y := nI d) e ?_
  refine f_callVr C hl (As := [.int (nI d)]) (rest := []) (c_X1_deputyAt33s l B (cT s b n ((cNum b n (tN b n q) (tV b n (tN b n q) v) ((s 33 4) - 1)).2.1) ((cNum b n (tN b n q) (tV b n (tN b n q) v) ((s 33 4) - 1)).2.2)) t d hd (nI d) rfl (by rw [cT_row _ _ _ _ _ (by decide)]; exact hc)) zb_33 (zg_1 zk_33) rfl (zCB (nA := 1) C rfl rfl tw_424 tw_8 tw_421 (by decide +kernel) ⟨Nat.le_of_ble_eq_true rfl, Nat.le_of_ble_eq_true rfl⟩) tw_422 tw_423 rfl rfl (Nat.le_of_ble_eq_true rfl) dX1_takeLeaning_15 (Nat.zero_le _) ?_
  refine z_astore_n C [(3, .ref (B.1 + (36 + d))), (0, .ref (B.1 + 33)), (1, .ref (B.1 + 111)), (2, .int 0)] dX1_takeLeaning_18 rfl (by decide) rfl ?_
  refine z_aload_n C dX1_takeLeaning_19 0 rfl rfl ?_
  refine z_ifnonnull C 25 dX1_takeLeaning_20 (by decide) ?_
  refine z_aload_n C dX1_takeLeaning_25 2 rfl rfl ?_
  refine f_callVr C hl (As := []) (rest := []) (c_X9_takeLaws l B s t b hb n h150 ((cNum b n (tN b n q) (tV b n (tN b n q) v) ((s 33 4) - 1)).2.1) (cNum_le (tN_le hq)) ((cNum b n (tN b n q) (tV b n (tN b n q) v) ((s 33 4) - 1)).2.2)) zb_111 (zg_9 zk_111) rfl (zCB (nA := 0) C rfl rfl tw_428 tw_12 tw_425 (by decide +kernel) ⟨Nat.le_of_ble_eq_true rfl, Nat.le_of_ble_eq_true rfl⟩) tw_426 tw_427 rfl rfl (Nat.le_of_ble_eq_true rfl) dX1_takeLeaning_26 (Nat.zero_le _) ?_
  refine z_istore C [(4, .int ((tLaws b n 150 ((cNum b n (tN b n q) (tV b n (tN b n q) v) ((s 33 4) - 1)).2.1) ((cNum b n (tN b n q) (tV b n (tN b n q) v) ((s 33 4) - 1)).2.2) 0).1)), (3, .ref (B.1 + (36 + d))), (0, .ref (B.1 + 33)), (1, .ref (B.1 + 111)), (2, .int 0)] dX1_takeLeaning_29 (by decide) rfl ?_
  refine z_iload_n C dX1_takeLeaning_31 4 rfl rfl ?_
  refine z_if_eq C 44 dX1_takeLeaning_32 (by decide) (fun _ => ?_) (fun hbr => absurd (by decide) hbr)
  refine z_aload_n C dX1_takeLeaning_44 1 rfl rfl ?_
  refine z_iload C dX1_takeLeaning_45 0 rfl ?_
  refine f_put0_2 C tw_124 (zk_dep2 d hd) (by omega) dX1_takeLeaning_47 ?_
  refine z_G (congrArg (fun z => zg B z t) (cT_zu _ _ _ _ _ _ (by omega))) ?_
  refine z_aload_n C dX1_takeLeaning_50 3 rfl rfl ?_
  refine f_callVr C hl (As := []) (rest := []) (c_cMk l B (zu s (36 + d) 2 ((tLaws b n 150 ((cNum b n (tN b n q) (tV b n (tN b n q) v) ((s 33 4) - 1)).2.1) ((cNum b n (tN b n q) (tV b n (tN b n q) v) ((s 33 4) - 1)).2.2) 0).1)) t b (by rw [zu_row _ _ (by omega)]; exact hb) n h150 ((tLaws b n 150 ((cNum b n (tN b n q) (tV b n (tN b n q) v) ((s 33 4) - 1)).2.1) ((cNum b n (tN b n q) (tV b n (tN b n q) v) ((s 33 4) - 1)).2.2) 0).2.1) (tLaws_le _ _ _ _ (cNum_le (tN_le hq))) ((tLaws b n 150 ((cNum b n (tN b n q) (tV b n (tN b n q) v) ((s 33 4) - 1)).2.1) ((cNum b n (tN b n q) (tV b n (tN b n q) v) ((s 33 4) - 1)).2.2) 0).2.2)) zb_111 (zg_9 zk_111) rfl (zCB (nA := 0) C rfl rfl tw_409 tw_12 tw_406 (by decide +kernel) ⟨Nat.le_of_ble_eq_true rfl, Nat.le_of_ble_eq_true rfl⟩) tw_407 tw_408 rfl rfl (Nat.le_of_ble_eq_true rfl) dX1_takeLeaning_51 (Nat.zero_le _) ?_
  refine z_zret C E rfl dX1_takeLeaning_54 (zi_nar _) rfl (Nat.le_refl _) ⟨by rw [cLea, if_neg (by rw [e]; exact fun z => z.elim (nI_pos (by omega)) (Int32.not_le.mpr hc))], by rw [cLea, if_neg (by rw [e]; exact fun z => z.elim (nI_pos (by omega)) (Int32.not_le.mpr hc)), e, nI_clamp (by omega)]⟩
theorem c_X1_takeLeaning0 (l : Launch) (B : zB) (s : zS) (t : zL) (b : Nat → Int32) (hb : s 112 = b) (n : Nat) (h150 : n ≤ 150) (q : Nat) (hq : q ≤ n) (v : Int32) (N : Nat) (hN : s 33 4 = nI N) (hN6 : N ≤ 6) : zD l B mX1_takeLeaning (cT s b n q v) t [.ref (B.1 + 33), .ref (B.1 + 111), .int 0] (some (.int (zi (cLea s b n q v 2).1))) (cT (cLea s b n q v 2).2.1 b n (cLea s b n q v 2).2.2.1 (cLea s b n q v 2).2.2.2) t := by
  by_cases h : (cNum b n (tN b n q) (tV b n (tN b n q) v) (s 33 4 - 1)).1 < 0 ∨ s 33 4 ≤ (cNum b n (tN b n q) (tV b n (tN b n q) v) (s 33 4 - 1)).1
  · exact c_X1_takeLeaning0n l B s t b hb n h150 q hq v h
  · obtain ⟨d, hd, e⟩ := nI_of (fun z => h (Or.inl z))
    have h2 : nI d < s 33 4 := Int32.not_le.mp (fun z => h (Or.inr (by rw [e]; exact z)))
    have h3 : d < N := by rw [hN] at h2; exact (nI_ltI hd (by omega)).mp h2
    exact c_X1_takeLeaning0s l B s t b hb n h150 q hq v d (by omega) e h2
