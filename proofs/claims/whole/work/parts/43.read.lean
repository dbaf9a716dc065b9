theorem ziT {x : Bool} : zi x = 1 ↔ x = true := by cases x <;> decide
theorem ziF {x : Bool} : zi x = 0 ↔ x = false := by cases x <;> decide
theorem wAddD33_c (s : zS) (N : Nat) (a b c d : Int32) : wAddD33 s N a b c d 33 4 = nI (N + 1) := by rw [wAddD33, zu_ne _ _ (by omega), zu_same]
def cIt1 (s : zS) (b : Nat → Int32) (n q : Nat) (v : Int32) : cR := if tIs b n q 0 = true then cDay s b n q v else (false, s, q, v)
def cIt0 (s : zS) (b : Nat → Int32) (n q : Nat) (v : Int32) : cR :=
  if tIs b n q 0 = true then (false, s, q, v)
  else if tIs b n q 1 = true then cDep s b n q v (s 33 4).toNatClampNeg
  else if tIs b n q 2 = true then cLea s b n q v 1
  else if tIs b n q 3 = true then cLea s b n q v 2
  else if tIs b n q 4 = true then cFor s b n q v
  else (false, s, q, v)
def cI (s : zS) (b : Nat → Int32) (n q : Nat) : Prop := s 112 = b ∧ q ≤ n ∧ ∃ N, N ≤ 6 ∧ s 33 4 = nI N
theorem cI_zu {s : zS} {b : Nat → Int32} {n q q2 k j : Nat} {x : Int32} (h : cI s b n q) (h1 : k ≠ 112) (h2 : k ≠ 33) (h3 : q2 ≤ n) : cI (zu s k j x) b n q2 := ⟨by rw [zu_row _ _ (Ne.symm h1)]; exact h.1, h3, by rw [zu_row _ _ (Ne.symm h2)]; exact h.2.2⟩
theorem cDay_I {s : zS} {b : Nat → Int32} {n q : Nat} {v : Int32} (h : cI s b n q) : cI (cDay s b n q v).2.1 b n (cDay s b n q v).2.2.1 := by
  have hq := h.2.1
  unfold cDay
  split
  · exact cI_zu h (by decide) (by decide) (cNum_le (tN_le hq))
  · exact cI_zu h (by decide) (by decide) (cMk_le (cNum_le (tN_le hq)))
theorem cFor_I {s : zS} {b : Nat → Int32} {n q : Nat} {v : Int32} (h : cI s b n q) : cI (cFor s b n q v).2.1 b n (cFor s b n q v).2.2.1 :=
  cI_zu h (by decide) (by decide) (cMk_le (tLaws_le _ _ _ _ (tN_le h.2.1)))
theorem cLea_I {s : zS} {b : Nat → Int32} {n q : Nat} {v : Int32} {j : Nat} (h : cI s b n q) : cI (cLea s b n q v j).2.1 b n (cLea s b n q v j).2.2.1 := by
  have hq := h.2.1
  unfold cLea
  split
  · exact ⟨h.1, cNum_le (tN_le hq), h.2.2⟩
  · next hh =>
    obtain ⟨N, hN, e⟩ := h.2.2
    obtain ⟨d, hd, ed⟩ := nI_of (fun z => hh (Or.inl z))
    have h3 : d < N := by
      apply Classical.byContradiction
      intro z
      exact hh (Or.inr (by rw [ed, e]; exact nI_le (by omega) hd))
    refine cI_zu h ?_ ?_ (cMk_le (tLaws_le _ _ _ _ (cNum_le (tN_le hq))))
    · rw [ed, nI_clamp hd]; omega
    · rw [ed, nI_clamp hd]; omega
theorem cDep_I {s : zS} {b : Nat → Int32} {n q : Nat} {v : Int32} {N : Nat} (h : cI s b n q) (e : s 33 4 = nI N) (h6 : N ≤ 6) : cI (cDep s b n q v N).2.1 b n (cDep s b n q v N).2.2.1 := by
  have hq := h.2.1
  unfold cDep
  split
  · next g =>
    have hN : N < 6 := by rw [e] at g; exact (nI_ltI (b := 6) (by omega) (by decide)).mp g
    split
    · split
      · exact ⟨h.1, cNum_le (cNum_le (tN_le hq)), h.2.2⟩
      · split
        · exact ⟨h.1, cMk_le (cNum_le (cNum_le (tN_le hq))), h.2.2⟩
        · refine ⟨?_, cMk_le (cNum_le (cNum_le (tN_le hq))), N + 1, by omega, ?_⟩
          · exact (wAddD33_row _ _ _ _ _ _ (by decide) hN).trans h.1
          · dsimp only; rw [wAddD33_c]
    · exact ⟨h.1, cNum_le (tN_le hq), h.2.2⟩
  · exact h
theorem cIt1_I {s : zS} {b : Nat → Int32} {n q : Nat} {v : Int32} (h : cI s b n q) : cI (cIt1 s b n q v).2.1 b n (cIt1 s b n q v).2.2.1 := by
  unfold cIt1
  split
  · exact cDay_I h
  · exact h
theorem cIt0_I {s : zS} {b : Nat → Int32} {n q : Nat} {v : Int32} (h : cI s b n q) : cI (cIt0 s b n q v).2.1 b n (cIt0 s b n q v).2.2.1 := by
  unfold cIt0
  split
  · exact h
  · split
    · obtain ⟨N, h6, e⟩ := h.2.2
      exact cDep_I h (by rw [e, nI_clamp (by omega)]) (by rw [e, nI_clamp (by omega)]; exact h6)
    · split
      · exact cLea_I h
      · split
        · exact cLea_I h
        · split
          · exact cFor_I h
          · exact h
abbrev mX1_takeItem : zM := (yX1_takeItem, cX1_takeItem, 3, (some .boolean), { frames := 6, cells := 0, slots := 0, locals := 128 })
set_option maxRecDepth 100000 in
set_option maxHeartbeats 4000000 in
theorem c_X1_takeItem1 (l : Launch) (B : zB) (s : zS) (t : zL) (b : Nat → Int32) (n : Nat) (h150 : n ≤ 150) (q : Nat) (v : Int32) (hI : cI s b n q) : zD l B mX1_takeItem (cT s b n q v) t [.ref (B.1 + 33), .ref (B.1 + 111), .int 1] (some (.int (zi (cIt1 s b n q v).1))) (cT (cIt1 s b n q v).2.1 b n (cIt1 s b n q v).2.2.1 (cIt1 s b n q v).2.2.2) t := by
  obtain ⟨hb, hq, N, h6, hN⟩ := hI
  refine z_met (by decide) (Nat.le_of_ble_eq_true rfl) ?_
  intro X hl C E hnm
  show Zf X B mX1_takeItem (cT s b n q v) t 0 [(0, .ref (B.1 + 33)), (1, .ref (B.1 + 111)), (2, .int 1)] []
  refine z_aload_n C dX1_takeItem_0 1 rfl rfl ?_
  refine f_ldcS C (i := 0) (by decide) rfl dX1_takeItem_1 ?_
  refine f_callVr C hl (As := [.ref (B.2.2.2.1 0)]) (rest := []) (c_X9_isWord l B s t b hb n h150 q hq v 0 (by decide)) zb_111 (zg_9 zk_111) rfl (zCB (nA := 1) C rfl rfl tw_348 tw_12 tw_345 (by decide +kernel) ⟨Nat.le_of_ble_eq_true rfl, Nat.le_of_ble_eq_true rfl⟩) tw_346 tw_347 rfl rfl (Nat.le_of_ble_eq_true rfl) dX1_takeItem_3 (Nat.zero_le _) ?_
  refine z_iload_n C dX1_takeItem_6 2 rfl rfl ?_
  refine z_icmp_eq C 12 dX1_takeItem_7 (by decide) (fun h7 => ?_) (fun h7 => ?_)
  · refine z_iload_n C dX1_takeItem_12 2 rfl rfl ?_
    refine z_if_eq C 22 dX1_takeItem_13 (by decide) (fun hbr => absurd hbr (by decide)) (fun _ => ?_)
    refine z_aload_n C dX1_takeItem_16 0 rfl rfl ?_
    refine z_aload_n C dX1_takeItem_17 1 rfl rfl ?_
    refine f_callVr C hl (As := [.ref (B.1 + 111)]) (rest := []) (c_X1_takeDay l B s t b hb n h150 q hq v) zb_33 (zg_1 zk_33) rfl (zCB (nA := 1) C rfl rfl tw_400 tw_8 tw_397 (by decide +kernel) ⟨Nat.le_of_ble_eq_true rfl, Nat.le_of_ble_eq_true rfl⟩) tw_399 tp_5 rfl rfl (Nat.le_of_ble_eq_true rfl) dX1_takeItem_18 (Nat.zero_le _) ?_
    refine z_zret C E rfl dX1_takeItem_21 (zi_nar _) rfl (Nat.le_refl _) ⟨by rw [cIt1, if_pos (ziT.mp h7)], by rw [cIt1, if_pos (ziT.mp h7)]⟩
  · refine z_iconst C dX1_takeItem_10 ki_0 ?_
    refine z_zret C E rfl dX1_takeItem_11 rfl rfl (Nat.le_refl _) ⟨by rw [cIt1, if_neg (fun z => h7 (ziT.mpr z))]; rfl, by rw [cIt1, if_neg (fun z => h7 (ziT.mpr z))]⟩
set_option maxRecDepth 100000 in
set_option maxHeartbeats 4000000 in
theorem c_X1_takeItem0 (l : Launch) (B : zB) (s : zS) (t : zL) (b : Nat → Int32) (n : Nat) (h150 : n ≤ 150) (q : Nat) (v : Int32) (hI : cI s b n q) : zD l B mX1_takeItem (cT s b n q v) t [.ref (B.1 + 33), .ref (B.1 + 111), .int 0] (some (.int (zi (cIt0 s b n q v).1))) (cT (cIt0 s b n q v).2.1 b n (cIt0 s b n q v).2.2.1 (cIt0 s b n q v).2.2.2) t := by
  obtain ⟨hb, hq, N, h6, hN⟩ := hI
  refine z_met (by decide) (Nat.le_of_ble_eq_true rfl) ?_
  intro X hl C E hnm
  show Zf X B mX1_takeItem (cT s b n q v) t 0 [(0, .ref (B.1 + 33)), (1, .ref (B.1 + 111)), (2, .int 0)] []
  refine z_aload_n C dX1_takeItem_0 1 rfl rfl ?_
  refine f_ldcS C (i := 0) (by decide) rfl dX1_takeItem_1 ?_
  refine f_callVr C hl (As := [.ref (B.2.2.2.1 0)]) (rest := []) (c_X9_isWord l B s t b hb n h150 q hq v 0 (by decide)) zb_111 (zg_9 zk_111) rfl (zCB (nA := 1) C rfl rfl tw_348 tw_12 tw_345 (by decide +kernel) ⟨Nat.le_of_ble_eq_true rfl, Nat.le_of_ble_eq_true rfl⟩) tw_346 tw_347 rfl rfl (Nat.le_of_ble_eq_true rfl) dX1_takeItem_3 (Nat.zero_le _) ?_
  refine z_iload_n C dX1_takeItem_6 2 rfl rfl ?_
  refine z_icmp_eq C 12 dX1_takeItem_7 (by decide) (fun h7 => ?_) (fun h7 => ?_)
  · refine z_iload_n C dX1_takeItem_12 2 rfl rfl ?_
    refine z_if_eq C 22 dX1_takeItem_13 (by decide) (fun _ => ?_) (fun hbr => absurd (by decide) hbr)
    refine z_aload_n C dX1_takeItem_22 1 rfl rfl ?_
    refine f_ldcS C (i := 1) (by decide) rfl dX1_takeItem_23 ?_
    refine f_callVr C hl (As := [.ref (B.2.2.2.1 1)]) (rest := []) (c_X9_isWord l B s t b hb n h150 q hq v 1 (by decide)) zb_111 (zg_9 zk_111) rfl (zCB (nA := 1) C rfl rfl tw_348 tw_12 tw_345 (by decide +kernel) ⟨Nat.le_of_ble_eq_true rfl, Nat.le_of_ble_eq_true rfl⟩) tw_346 tw_347 rfl rfl (Nat.le_of_ble_eq_true rfl) dX1_takeItem_25 (Nat.zero_le _) ?_
    refine z_ifb_eq C 37 dX1_takeItem_28 (by decide) (fun h28 => ?_) (fun h28 => ?_)
    · refine z_aload_n C dX1_takeItem_37 1 rfl rfl ?_
      refine f_ldcS C (i := 2) (by decide) rfl dX1_takeItem_38 ?_
      refine f_callVr C hl (As := [.ref (B.2.2.2.1 2)]) (rest := []) (c_X9_isWord l B s t b hb n h150 q hq v 2 (by decide)) zb_111 (zg_9 zk_111) rfl (zCB (nA := 1) C rfl rfl tw_348 tw_12 tw_345 (by decide +kernel) ⟨Nat.le_of_ble_eq_true rfl, Nat.le_of_ble_eq_true rfl⟩) tw_346 tw_347 rfl rfl (Nat.le_of_ble_eq_true rfl) dX1_takeItem_40 (Nat.zero_le _) ?_
      refine z_ifb_eq C 53 dX1_takeItem_43 (by decide) (fun h43 => ?_) (fun h43 => ?_)
      · refine z_aload_n C dX1_takeItem_53 1 rfl rfl ?_
        refine f_ldcS C (i := 3) (by decide) rfl dX1_takeItem_54 ?_
        refine f_callVr C hl (As := [.ref (B.2.2.2.1 3)]) (rest := []) (c_X9_isWord l B s t b hb n h150 q hq v 3 (by decide)) zb_111 (zg_9 zk_111) rfl (zCB (nA := 1) C rfl rfl tw_348 tw_12 tw_345 (by decide +kernel) ⟨Nat.le_of_ble_eq_true rfl, Nat.le_of_ble_eq_true rfl⟩) tw_346 tw_347 rfl rfl (Nat.le_of_ble_eq_true rfl) dX1_takeItem_56 (Nat.zero_le _) ?_
        refine z_ifb_eq C 69 dX1_takeItem_59 (by decide) (fun h59 => ?_) (fun h59 => ?_)
        · refine z_aload_n C dX1_takeItem_69 1 rfl rfl ?_
          refine f_ldcS C (i := 4) (by decide) rfl dX1_takeItem_70 ?_
          refine f_callVr C hl (As := [.ref (B.2.2.2.1 4)]) (rest := []) (c_X9_isWord l B s t b hb n h150 q hq v 4 (by decide)) zb_111 (zg_9 zk_111) rfl (zCB (nA := 1) C rfl rfl tw_348 tw_12 tw_345 (by decide +kernel) ⟨Nat.le_of_ble_eq_true rfl, Nat.le_of_ble_eq_true rfl⟩) tw_346 tw_347 rfl rfl (Nat.le_of_ble_eq_true rfl) dX1_takeItem_72 (Nat.zero_le _) ?_
          refine z_ifb_eq C 90 dX1_takeItem_75 (by decide) (fun h75 => ?_) (fun h75 => ?_)
          · refine z_iconst C dX1_takeItem_90 ki_0 ?_
            refine z_zret C E rfl dX1_takeItem_91 rfl rfl (Nat.le_refl _) ⟨by rw [cIt0, if_neg (by rw [ziF.mp h7]; decide), if_neg (by rw [h28]; decide), if_neg (by rw [h43]; decide), if_neg (by rw [h59]; decide), if_neg (by rw [h75]; decide)]; rfl, by rw [cIt0, if_neg (by rw [ziF.mp h7]; decide), if_neg (by rw [h28]; decide), if_neg (by rw [h43]; decide), if_neg (by rw [h59]; decide), if_neg (by rw [h75]; decide)]⟩
          · refine z_aload_n C dX1_takeItem_78 0 rfl rfl ?_
            refine z_aload_n C dX1_takeItem_79 1 rfl rfl ?_
            refine f_callVr C hl (As := [.ref (B.1 + 111)]) (rest := []) (c_X1_takeForce l B s t b hb n h150 q hq v) zb_33 (zg_1 zk_33) rfl (zCB (nA := 1) C rfl rfl tw_437 tw_8 tw_434 (by decide +kernel) ⟨Nat.le_of_ble_eq_true rfl, Nat.le_of_ble_eq_true rfl⟩) tw_436 tp_8 rfl rfl (Nat.le_of_ble_eq_true rfl) dX1_takeItem_80 (Nat.zero_le _) ?_
            refine z_ifb_eq C 90 dX1_takeItem_83 (by decide) (fun h83 => ?_) (fun h83 => ?_)
            · refine z_iconst C dX1_takeItem_90 ki_0 ?_
              refine z_zret C E rfl dX1_takeItem_91 rfl rfl (Nat.le_refl _) ⟨by rw [cIt0, if_neg (by rw [ziF.mp h7]; decide), if_neg (by rw [h28]; decide), if_neg (by rw [h43]; decide), if_neg (by rw [h59]; decide), if_pos h75]; show some (Value.int 0) = some (Value.int (zi (cFor s b n q v).1)); rw [h83]; rfl, by rw [cIt0, if_neg (by rw [ziF.mp h7]; decide), if_neg (by rw [h28]; decide), if_neg (by rw [h43]; decide), if_neg (by rw [h59]; decide), if_pos h75]⟩
            · refine z_iconst C dX1_takeItem_86 ki_1 ?_
              refine z_goto C 91 dX1_takeItem_87 (by decide) ?_
              refine z_zret C E rfl dX1_takeItem_91 rfl rfl (Nat.le_refl _) ⟨by rw [cIt0, if_neg (by rw [ziF.mp h7]; decide), if_neg (by rw [h28]; decide), if_neg (by rw [h43]; decide), if_neg (by rw [h59]; decide), if_pos h75]; show some (Value.int 1) = some (Value.int (zi (cFor s b n q v).1)); rw [h83]; rfl, by rw [cIt0, if_neg (by rw [ziF.mp h7]; decide), if_neg (by rw [h28]; decide), if_neg (by rw [h43]; decide), if_neg (by rw [h59]; decide), if_pos h75]⟩
        · refine z_aload_n C dX1_takeItem_62 0 rfl rfl ?_
          refine z_aload_n C dX1_takeItem_63 1 rfl rfl ?_
          refine z_iconst C dX1_takeItem_64 ki_0 ?_
          refine f_callVr C hl (As := [.ref (B.1 + 111), .int 0]) (rest := []) (c_X1_takeLeaning0 l B s t b hb n h150 q hq v N hN h6) zb_33 (zg_1 zk_33) rfl (zCB (nA := 2) C rfl rfl tw_420 tw_8 tw_417 (by decide +kernel) ⟨Nat.le_of_ble_eq_true rfl, Nat.le_of_ble_eq_true rfl⟩) tw_419 tp_7 rfl rfl (Nat.le_of_ble_eq_true rfl) dX1_takeItem_65 (Nat.zero_le _) ?_
          refine z_zret C E rfl dX1_takeItem_68 (zi_nar _) rfl (Nat.le_refl _) ⟨by rw [cIt0, if_neg (by rw [ziF.mp h7]; decide), if_neg (by rw [h28]; decide), if_neg (by rw [h43]; decide), if_pos h59], by rw [cIt0, if_neg (by rw [ziF.mp h7]; decide), if_neg (by rw [h28]; decide), if_neg (by rw [h43]; decide), if_pos h59]⟩
      · refine z_aload_n C dX1_takeItem_46 0 rfl rfl ?_
        refine z_aload_n C dX1_takeItem_47 1 rfl rfl ?_
        refine z_iconst C dX1_takeItem_48 ki_1 ?_
        refine f_callVr C hl (As := [.ref (B.1 + 111), .int 1]) (rest := []) (c_X1_takeLeaning1 l B s t b hb n h150 q hq v N hN h6) zb_33 (zg_1 zk_33) rfl (zCB (nA := 2) C rfl rfl tw_420 tw_8 tw_417 (by decide +kernel) ⟨Nat.le_of_ble_eq_true rfl, Nat.le_of_ble_eq_true rfl⟩) tw_419 tp_7 rfl rfl (Nat.le_of_ble_eq_true rfl) dX1_takeItem_49 (Nat.zero_le _) ?_
        refine z_zret C E rfl dX1_takeItem_52 (zi_nar _) rfl (Nat.le_refl _) ⟨by rw [cIt0, if_neg (by rw [ziF.mp h7]; decide), if_neg (by rw [h28]; decide), if_pos h43], by rw [cIt0, if_neg (by rw [ziF.mp h7]; decide), if_neg (by rw [h28]; decide), if_pos h43]⟩
    · refine z_aload_n C dX1_takeItem_31 0 rfl rfl ?_
      refine z_aload_n C dX1_takeItem_32 1 rfl rfl ?_
      refine f_callVr C hl (As := [.ref (B.1 + 111)]) (rest := []) (c_X1_takeDeputy l B s t b hb n h150 q hq v N hN h6) zb_33 (zg_1 zk_33) rfl (zCB (nA := 1) C rfl rfl tw_414 tw_8 tw_411 (by decide +kernel) ⟨Nat.le_of_ble_eq_true rfl, Nat.le_of_ble_eq_true rfl⟩) tw_413 tp_6 rfl rfl (Nat.le_of_ble_eq_true rfl) dX1_takeItem_33 (Nat.zero_le _) ?_
      refine z_zret C E rfl dX1_takeItem_36 (zi_nar _) rfl (Nat.le_refl _) ⟨by rw [cIt0, if_neg (by rw [ziF.mp h7]; decide), if_pos h28, show (s 33 4).toNatClampNeg = N by rw [hN, nI_clamp (by omega)]], by rw [cIt0, if_neg (by rw [ziF.mp h7]; decide), if_pos h28, show (s 33 4).toNatClampNeg = N by rw [hN, nI_clamp (by omega)]]⟩
  · refine z_iconst C dX1_takeItem_10 ki_0 ?_
    refine z_zret C E rfl dX1_takeItem_11 rfl rfl (Nat.le_refl _) ⟨by rw [cIt0, if_pos (Classical.byContradiction fun z => h7 (ziF.mpr (Bool.eq_false_iff.mpr z)))]; rfl, by rw [cIt0, if_pos (Classical.byContradiction fun z => h7 (ziF.mpr (Bool.eq_false_iff.mpr z)))]⟩
def cLp (b : Nat → Int32) (n : Nat) : Nat → Nat → zS → Nat → Int32 → Int32 × zS × Nat × Int32
  | 0, i, s, q, v => (nI i, s, q, v)
  | f + 1, i, s, q, v => if tK b n q = 0 then (nI i, s, q, v) else if (cIt0 s b n q v).1 = false then (-10 - nI (cIt0 s b n q v).2.2.1, (cIt0 s b n q v).2) else cLp b n f (i + 1) (cIt0 s b n q v).2.1 (cIt0 s b n q v).2.2.1 (cIt0 s b n q v).2.2.2
abbrev mX1_readFrom : zM := (yX1_readFrom, cX1_readFrom, 3, (some .int), { frames := 7, cells := 0, slots := 0, locals := 150 })
set_option maxRecDepth 100000 in
set_option maxHeartbeats 4000000 in
theorem l_X1_readFrom {l : Launch} {B : zB} {t : zL} {X : zX} (hl : X.2.1 = l) (C : zC X B mX1_readFrom) (b : Nat → Int32) (n : Nat) (h150 : n ≤ 150) (r : Int32 × zS × Nat × Int32) (E : zE X B mX1_readFrom 124 0 0 (zR B (some (.int r.1)) (cT r.2.1 b n r.2.2.1 r.2.2.2) t)) : ∀ (m : Nat) (i : Nat) (s : zS) (q : Nat) (v : Int32), i + m = 151 → 1 ≤ i → cI s b n q → cLp b n m i s q v = r → Zf X B mX1_readFrom (cT s b n q v) t 11 [(2, .int (nI i)), (0, .ref (B.1 + 33)), (1, .ref (B.1 + 111))] [] := by
  intro m
  induction m with
  | zero =>
    intro i s q v hi h1 hI hr
    obtain rfl : i = 151 := by omega
    refine z_iload_n C dX1_readFrom_11 0 rfl rfl ?_
    refine z_sipush C dX1_readFrom_12 ks_150 ?_
    refine z_icmp_gt C 60 dX1_readFrom_15 (by decide) (fun _ => ?_) (fun hbr => absurd (by decide) hbr)
    refine z_iload_n C dX1_readFrom_60 0 rfl rfl ?_
    refine z_iret C E rfl dX1_readFrom_61 rfl (Nat.le_refl _) ⟨by rw [← hr]; rfl, by rw [← hr]; rfl⟩
  | succ m ih =>
    intro i s q v hi h1 hI hr
    refine z_iload_n C dX1_readFrom_11 0 rfl rfl ?_
    refine z_sipush C dX1_readFrom_12 ks_150 ?_
    refine z_icmp_gt C 60 dX1_readFrom_15 (by decide) (fun hbr => absurd hbr (show ¬ nI 150 < nI i from nI_nlt (by omega) (by decide))) (fun _ => ?_)
    refine z_iload_n C dX1_readFrom_18 0 rfl rfl ?_
    refine z_if_eq C 29 dX1_readFrom_19 (by decide) (fun hbr => absurd hbr (fun z => absurd ((nI_eq (b := 0) (by omega) (by decide)).mp z) (by omega))) (fun _ => ?_)
    refine z_aload_n C dX1_readFrom_22 2 rfl rfl ?_
    refine f_callVr C hl (As := []) (rest := []) (c_X9_isAtEnd l B s t b hI.1 n h150 q hI.2.1 v) zb_111 (zg_9 zk_111) rfl (zCB (nA := 0) C rfl rfl tw_339 tw_12 tw_336 (by decide +kernel) ⟨Nat.le_of_ble_eq_true rfl, Nat.le_of_ble_eq_true rfl⟩) tw_337 tw_338 rfl rfl (Nat.le_of_ble_eq_true rfl) dX1_readFrom_23 (Nat.zero_le _) ?_
    refine z_ifb_ne C 60 dX1_readFrom_26 (by decide) (fun h26 => ?_) (fun h26 => ?_)
    · refine z_iload_n C dX1_readFrom_60 0 rfl rfl ?_
      refine z_iret C E rfl dX1_readFrom_61 rfl (Nat.le_refl _) ⟨by rw [← hr, cLp, if_pos (of_decide_eq_true h26)], by rw [← hr, cLp, if_pos (of_decide_eq_true h26)]⟩
    · refine z_aload_n C dX1_readFrom_29 1 rfl rfl ?_
      refine z_aload_n C dX1_readFrom_30 2 rfl rfl ?_
      refine z_iload_n C dX1_readFrom_31 0 rfl rfl ?_
      refine z_if_ne C 39 dX1_readFrom_32 (by decide) (fun _ => ?_) (fun hbr => absurd hbr (fun z => absurd ((nI_eq (b := 0) (by omega) (by decide)).mp z) (by omega)))
      refine z_iconst C dX1_readFrom_39 ki_0 ?_
      refine f_callVr C hl (As := [.ref (B.1 + 111), .int 0]) (rest := []) (c_X1_takeItem0 l B s t b n h150 q v hI) zb_33 (zg_1 zk_33) rfl (zCB (nA := 2) C rfl rfl tw_343 tw_8 tw_340 (by decide +kernel) ⟨Nat.le_of_ble_eq_true rfl, Nat.le_of_ble_eq_true rfl⟩) tw_342 tp_4 rfl rfl (Nat.le_of_ble_eq_true rfl) dX1_readFrom_40 (Nat.zero_le _) ?_
      refine z_ifb_ne C 54 dX1_readFrom_43 (by decide) (fun h43 => ?_) (fun h43 => ?_)
      · refine z_iinc C [(2, .int (nI (i + 1))), (0, .ref (B.1 + 33)), (1, .ref (B.1 + 111))] dX1_readFrom_54 0 rfl (nI_inc i) (by decide) rfl ?_
        refine z_goto C 11 dX1_readFrom_57 (by decide) ?_
        exact z_lv [0, 1, 2] rfl (ih (i + 1) _ _ _ (by omega) (by omega) (cIt0_I hI) (by rw [← hr, cLp, if_neg (of_decide_eq_false h26), if_neg (by rw [h43]; decide)]))
      · refine z_bipush C dX1_readFrom_46 kb_m10 ?_
        refine z_aload_n C dX1_readFrom_48 2 rfl rfl ?_
        refine f_get9 C 2 (v := .int ((cT (cIt0 s b n q v).2.1 b n (cIt0 s b n q v).2.2.1 (cIt0 s b n q v).2.2.2) 111 2)) (by decide) tw_206 rfl zk_111 zb_111 rfl dX1_readFrom_49 ?_
        refine f_topi (y := nI (cIt0 s b n q v).2.2.1) (cT_2 _ _ _ _ _) ?_
        refine z_isub C dX1_readFrom_52 ?_
        refine z_iret C E rfl dX1_readFrom_53 rfl (Nat.le_refl _) ⟨by rw [← hr, cLp, if_neg (of_decide_eq_false h26), if_pos h43], by rw [← hr, cLp, if_neg (of_decide_eq_false h26), if_pos h43]⟩
def cRF (s : zS) (b : Nat → Int32) (n : Nat) : Int32 × zS × Nat × Int32 :=
  if (cIt1 (wStart33 s 0) b n (tA b n 0) (tV b n (tA b n 0) (s 111 5))).1 = false then (-10 - nI (cIt1 (wStart33 s 0) b n (tA b n 0) (tV b n (tA b n 0) (s 111 5))).2.2.1, (cIt1 (wStart33 s 0) b n (tA b n 0) (tV b n (tA b n 0) (s 111 5))).2)
  else cLp b n 150 1 (cIt1 (wStart33 s 0) b n (tA b n 0) (tV b n (tA b n 0) (s 111 5))).2.1 (cIt1 (wStart33 s 0) b n (tA b n 0) (tV b n (tA b n 0) (s 111 5))).2.2.1 (cIt1 (wStart33 s 0) b n (tA b n 0) (tV b n (tA b n 0) (s 111 5))).2.2.2
theorem wStart33_row (s : zS) (a : Int32) {k : Nat} (h : k ≠ 34) (h2 : k ≠ 33) : wStart33 s a k = s k := by
  rw [wStart33, zu_row _ _ h2, zu_row _ _ h2, zu_row _ _ h2, zu_row _ _ h, zu_row _ _ h, zu_row _ _ h, zu_row _ _ h, zu_row _ _ h, zu_row _ _ h]
theorem wStart33_I (s : zS) {b : Nat → Int32} (hb : s 112 = b) (n : Nat) : cI (wStart33 s 0) b n (tA b n 0) := ⟨by rw [wStart33_row _ _ (by decide) (by decide)]; exact hb, tA_le (Nat.zero_le _), 0, by decide, by rw [wStart33, zu_ne _ _ (by omega), zu_ne _ _ (by omega), zu_same]; rfl⟩
set_option maxRecDepth 100000 in
set_option maxHeartbeats 4000000 in
theorem c_X1_readFrom (l : Launch) (B : zB) (s : zS) (t : zL) (b : Nat → Int32) (hb : s 112 = b) (n : Nat) (hn : s 111 1 = nI n) (h150 : n ≤ 150) : zD l B mX1_readFrom s t [.ref (B.1 + 33), .ref (B.1 + 111)] (some (.int ((cRF s b n).1))) (cT (cRF s b n).2.1 b n (cRF s b n).2.2.1 (cRF s b n).2.2.2) t := by
  refine z_met (by decide) (Nat.le_of_ble_eq_true rfl) ?_
  intro X hl C E hnm
  show Zf X B mX1_readFrom s t 0 [(0, .ref (B.1 + 33)), (1, .ref (B.1 + 111))] []
  refine z_aload_n C dX1_readFrom_0 0 rfl rfl ?_
  refine z_iconst C dX1_readFrom_1 ki_0 ?_
  refine f_callVv C hl (As := [.int 0]) (rest := []) (c_X1_startOn33 l B s t 0) zb_33 (zg_1 zk_33) rfl (zCB (nA := 1) C rfl rfl tw_276 tw_8 tw_312 (by decide +kernel) ⟨Nat.le_of_ble_eq_true rfl, Nat.le_of_ble_eq_true rfl⟩) tw_274 tw_275 rfl rfl (Nat.le_of_ble_eq_true rfl) dX1_readFrom_2 (Nat.zero_le _) ?_
  refine z_aload_n C dX1_readFrom_5 1 rfl rfl ?_
  have hw5 : wStart33 s 0 111 = s 111 := wStart33_row _ _ (by decide) (by decide)
  refine f_callVv C hl (As := []) (rest := []) (show zD l B mX9_rewind (wStart33 s 0) t [.ref (B.1 + 111)] none (cT (wStart33 s 0) b n (tA b n 0) (tV b n (tA b n 0) (s 111 5))) t from hw5 ▸ c_X9_rewind l B (wStart33 s 0) t b (by rw [wStart33_row _ _ (by decide) (by decide)]; exact hb) n (by rw [hw5]; exact hn) h150) zb_111 (zg_9 zk_111) rfl (zCB (nA := 0) C rfl rfl tw_316 tw_12 tw_313 (by decide +kernel) ⟨Nat.le_of_ble_eq_true rfl, Nat.le_of_ble_eq_true rfl⟩) tw_314 tw_315 rfl rfl (Nat.le_of_ble_eq_true rfl) dX1_readFrom_6 (Nat.zero_le _) ?_
  refine z_iconst C dX1_readFrom_9 ki_0 ?_
  refine z_istore_n C [(2, .int 0), (0, .ref (B.1 + 33)), (1, .ref (B.1 + 111))] dX1_readFrom_10 rfl (by decide) rfl ?_
  refine z_iload_n C dX1_readFrom_11 0 rfl rfl ?_
  refine z_sipush C dX1_readFrom_12 ks_150 ?_
  refine z_icmp_gt C 60 dX1_readFrom_15 (by decide) (fun hbr => absurd hbr (by decide)) (fun _ => ?_)
  refine z_iload_n C dX1_readFrom_18 0 rfl rfl ?_
  refine z_if_eq C 29 dX1_readFrom_19 (by decide) (fun _ => ?_) (fun hbr => absurd (by decide) hbr)
  refine z_aload_n C dX1_readFrom_29 1 rfl rfl ?_
  refine z_aload_n C dX1_readFrom_30 2 rfl rfl ?_
  refine z_iload_n C dX1_readFrom_31 0 rfl rfl ?_
  refine z_if_ne C 39 dX1_readFrom_32 (by decide) (fun hbr => absurd (by decide) hbr) (fun _ => ?_)
  refine z_iconst C dX1_readFrom_35 ki_1 ?_
  refine z_goto C 40 dX1_readFrom_36 (by decide) ?_
  refine f_callVr C hl (As := [.ref (B.1 + 111), .int 1]) (rest := []) (c_X1_takeItem1 l B (wStart33 s 0) t b n h150 (tA b n 0) (tV b n (tA b n 0) (s 111 5)) (wStart33_I s hb n)) zb_33 (zg_1 zk_33) rfl (zCB (nA := 2) C rfl rfl tw_343 tw_8 tw_340 (by decide +kernel) ⟨Nat.le_of_ble_eq_true rfl, Nat.le_of_ble_eq_true rfl⟩) tw_342 tp_4 rfl rfl (Nat.le_of_ble_eq_true rfl) dX1_readFrom_40 (Nat.zero_le _) ?_
  refine z_ifb_ne C 54 dX1_readFrom_43 (by decide) (fun h43 => ?_) (fun h43 => ?_)
  · refine z_iinc C [(2, .int (nI 1)), (0, .ref (B.1 + 33)), (1, .ref (B.1 + 111))] dX1_readFrom_54 0 rfl (by decide) (by decide) rfl ?_
    refine z_goto C 11 dX1_readFrom_57 (by decide) ?_
    exact z_lv [0, 1, 2] rfl (l_X1_readFrom hl C b n h150 (cRF s b n) E 150 1 _ _ _ (by omega) (by omega) (cIt1_I (wStart33_I s hb n)) (by rw [cRF, if_neg (by rw [h43]; decide)]))
  · refine z_bipush C dX1_readFrom_46 kb_m10 ?_
    refine z_aload_n C dX1_readFrom_48 2 rfl rfl ?_
    refine f_get9 C 2 (v := .int ((cT (cIt1 (wStart33 s 0) b n (tA b n 0) (tV b n (tA b n 0) (s 111 5))).2.1 b n (cIt1 (wStart33 s 0) b n (tA b n 0) (tV b n (tA b n 0) (s 111 5))).2.2.1 (cIt1 (wStart33 s 0) b n (tA b n 0) (tV b n (tA b n 0) (s 111 5))).2.2.2) 111 2)) (by decide) tw_206 rfl zk_111 zb_111 rfl dX1_readFrom_49 ?_
    refine f_topi (y := nI (cIt1 (wStart33 s 0) b n (tA b n 0) (tV b n (tA b n 0) (s 111 5))).2.2.1) (cT_2 _ _ _ _ _) ?_
    refine z_isub C dX1_readFrom_52 ?_
    refine z_iret C E rfl dX1_readFrom_53 rfl (Nat.le_refl _) ⟨by rw [cRF, if_pos h43], by rw [cRF, if_pos h43]⟩
abbrev mX11_read : zM := (yX11_read, cX11_read, 2, (some .int), { frames := 8, cells := 0, slots := 0, locals := 172 })
set_option maxRecDepth 100000 in
set_option maxHeartbeats 4000000 in
theorem c_X11_read_no (l : Launch) (B : zB) (s : zS) (t : zL) (b : Nat → Int32) (hb : s 112 = b) (n : Nat) (hn : s 111 1 = nI n) (h150 : n ≤ 150) (g : (cRF s b n).1 ≤ 0) : zD l B mX11_read s t [.ref (B.1 + 0)] (some (.int ((cRF s b n).1))) (cT (cRF s b n).2.1 b n (cRF s b n).2.2.1 (cRF s b n).2.2.2) t := by
  refine z_met (by decide) (Nat.le_of_ble_eq_true rfl) ?_
  intro X hl C E hnm
  show Zf X B mX11_read s t 0 [(0, .ref (B.1 + 0))] []
  refine z_aload_n C dX11_read_0 0 rfl rfl ?_
  refine f_get11 C 2 (v := .ref (B.1 + 33)) (by decide) tw_227 rfl zk_0 zb_0 rfl dX11_read_1 ?_
  refine z_aload_n C dX11_read_4 0 rfl rfl ?_
  refine f_get11 C 6 (v := .ref (B.1 + 111)) (by decide) tw_231 rfl zk_0 zb_0 rfl dX11_read_5 ?_
  refine f_callVr C hl (As := [.ref (B.1 + 111)]) (rest := []) (c_X1_readFrom l B s t b hb n hn h150) zb_33 (zg_1 zk_33) rfl (zCB (nA := 1) C rfl rfl tw_311 tw_8 tw_308 (by decide +kernel) ⟨Nat.le_of_ble_eq_true rfl, Nat.le_of_ble_eq_true rfl⟩) tw_309 tw_310 rfl rfl (Nat.le_of_ble_eq_true rfl) dX11_read_8 (Nat.zero_le _) ?_
  refine z_istore_n C [(1, .int ((cRF s b n).1)), (0, .ref (B.1 + 0))] dX11_read_11 rfl (by decide) rfl ?_
  refine z_iload_n C dX11_read_12 0 rfl rfl ?_
  refine z_if_le C 27 dX11_read_13 (by decide) (fun _ => ?_) (fun hbr => absurd g hbr)
  refine z_iload_n C dX11_read_27 0 rfl rfl ?_
  refine z_iret C E rfl dX11_read_28 rfl (Nat.le_refl _) ⟨rfl, rfl⟩
set_option maxRecDepth 100000 in
set_option maxHeartbeats 4000000 in
theorem c_X11_read_ok (l : Launch) (B : zB) (s : zS) (t : zL) (b : Nat → Int32) (hb : s 112 = b) (n : Nat) (hn : s 111 1 = nI n) (h150 : n ≤ 150) (g : ¬ (cRF s b n).1 ≤ 0) : zD l B mX11_read s t [.ref (B.1 + 0)] (some (.int ((cRF s b n).1))) (wCopy8_33 (cT (cRF s b n).2.1 b n (cRF s b n).2.2.1 (cRF s b n).2.2.2)) t := by
  refine z_met (by decide) (Nat.le_of_ble_eq_true rfl) ?_
  intro X hl C E hnm
  show Zf X B mX11_read s t 0 [(0, .ref (B.1 + 0))] []
  refine z_aload_n C dX11_read_0 0 rfl rfl ?_
  refine f_get11 C 2 (v := .ref (B.1 + 33)) (by decide) tw_227 rfl zk_0 zb_0 rfl dX11_read_1 ?_
  refine z_aload_n C dX11_read_4 0 rfl rfl ?_
  refine f_get11 C 6 (v := .ref (B.1 + 111)) (by decide) tw_231 rfl zk_0 zb_0 rfl dX11_read_5 ?_
  refine f_callVr C hl (As := [.ref (B.1 + 111)]) (rest := []) (c_X1_readFrom l B s t b hb n hn h150) zb_33 (zg_1 zk_33) rfl (zCB (nA := 1) C rfl rfl tw_311 tw_8 tw_308 (by decide +kernel) ⟨Nat.le_of_ble_eq_true rfl, Nat.le_of_ble_eq_true rfl⟩) tw_309 tw_310 rfl rfl (Nat.le_of_ble_eq_true rfl) dX11_read_8 (Nat.zero_le _) ?_
  refine z_istore_n C [(1, .int ((cRF s b n).1)), (0, .ref (B.1 + 0))] dX11_read_11 rfl (by decide) rfl ?_
  refine z_iload_n C dX11_read_12 0 rfl rfl ?_
  refine z_if_le C 27 dX11_read_13 (by decide) (fun hbr => absurd hbr g) (fun _ => ?_)
  refine z_aload_n C dX11_read_16 1 rfl rfl ?_
  refine f_get11 C 1 (v := .ref (B.1 + 8)) (by decide) tw_226 rfl zk_0 zb_0 rfl dX11_read_17 ?_
  refine z_aload_n C dX11_read_20 1 rfl rfl ?_
  refine f_get11 C 2 (v := .ref (B.1 + 33)) (by decide) tw_227 rfl zk_0 zb_0 rfl dX11_read_21 ?_
  refine f_callVv C hl (As := [.ref (B.1 + 33)]) (rest := []) (c_X1_copyFrom8_33 l B (cT (cRF s b n).2.1 b n (cRF s b n).2.2.1 (cRF s b n).2.2.2) t) zb_8 (zg_1 zk_8) rfl (zCB (nA := 1) C rfl rfl tw_441 tw_8 tw_438 (by decide +kernel) ⟨Nat.le_of_ble_eq_true rfl, Nat.le_of_ble_eq_true rfl⟩) tw_439 tw_440 rfl rfl (Nat.le_of_ble_eq_true rfl) dX11_read_24 (Nat.zero_le _) ?_
  refine z_iload_n C dX11_read_27 0 rfl rfl ?_
  refine z_iret C E rfl dX11_read_28 rfl (Nat.le_refl _) ⟨rfl, rfl⟩
