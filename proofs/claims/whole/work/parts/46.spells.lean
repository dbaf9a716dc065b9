theorem wAll_mono {p : Nat → Bool} {n N : Nat} (h : n ≤ N) (e : wAll p n = false) : wAll p N = false := by
  induction N with
  | zero => rw [show n = 0 by omega] at e; exact e
  | succ N ih =>
    by_cases q : n = N + 1
    · rw [← q]; exact e
    · rw [wAll, ih (by omega)]; rfl
abbrev mX12_spells : zM := (yX12_spells, cX12_spells, 10, (some .boolean), { frames := 0, cells := 0, slots := 0, locals := 0 })
set_option maxRecDepth 100000 in
set_option maxHeartbeats 4000000 in
theorem l_X12_spells0_5 {l : Launch} {B : zB} {s : zS} {t : zL} {X : zX} (hl : X.2.1 = l) (C : zC X B mX12_spells) (b : Nat → Int32) (hb : s 121 = b) (n : Nat) (hn : s 113 12 = nI n) (h150 : n ≤ 150) (q : Nat) (hq : q ≤ n) (r : Bool) (hr : r = ((decide (tK b n q = 1) && decide (tE b n q - q = 5)) && wAll (fun k => decide (b (q + k) = zsC 0 k)) 5)) (E : zE X B mX12_spells 124 0 0 (zR B (some (.int (zi (tIs b n q 0)))) (mT s b n q) t)) : Zf X B mX12_spells (mT s b n q) t 26 [(9, .int 5), (8, .int (zi r)), (0, .ref (B.1 + 113)), (1, .int 5), (2, .int 104), (3, .int 111), (4, .int 117), (5, .int 115), (6, .int 101), (7, .int 0)] [] := by
  refine z_iload C dX12_spells_26 0 rfl ?_
  refine z_iload_n C dX12_spells_28 3 rfl rfl ?_
  refine z_icmp_ge C 119 dX12_spells_29 (by decide) (fun _ => ?_) (fun hbr => absurd (by decide) hbr)
  refine z_iload C dX12_spells_119 1 rfl ?_
  refine z_zret C E rfl dX12_spells_121 (zi_nar _) rfl (Nat.le_refl _) ⟨by rw [hr, tIs, Bool.and_assoc]; rfl, rfl⟩
set_option maxRecDepth 100000 in
set_option maxHeartbeats 4000000 in
theorem l_X12_spells0_4 {l : Launch} {B : zB} {s : zS} {t : zL} {X : zX} (hl : X.2.1 = l) (C : zC X B mX12_spells) (b : Nat → Int32) (hb : s 121 = b) (n : Nat) (hn : s 113 12 = nI n) (h150 : n ≤ 150) (q : Nat) (hq : q ≤ n) (r : Bool) (hr : r = ((decide (tK b n q = 1) && decide (tE b n q - q = 5)) && wAll (fun k => decide (b (q + k) = zsC 0 k)) 4)) (E : zE X B mX12_spells 124 0 0 (zR B (some (.int (zi (tIs b n q 0)))) (mT s b n q) t)) : Zf X B mX12_spells (mT s b n q) t 26 [(9, .int 4), (8, .int (zi r)), (0, .ref (B.1 + 113)), (1, .int 5), (2, .int 104), (3, .int 111), (4, .int 117), (5, .int 115), (6, .int 101), (7, .int 0)] [] := by
  refine z_iload C dX12_spells_26 0 rfl ?_
  refine z_iload_n C dX12_spells_28 3 rfl rfl ?_
  refine z_icmp_ge C 119 dX12_spells_29 (by decide) (fun hbr => absurd hbr (by decide)) (fun _ => ?_)
  refine z_iload C dX12_spells_32 1 rfl ?_
  refine z_ifb_eq C 119 dX12_spells_34 (by decide) (fun h34 => ?_) (fun h34 => ?_)
  · refine z_iload C dX12_spells_119 1 rfl ?_
    refine z_zret C E rfl dX12_spells_121 (zi_nar _) rfl (Nat.le_refl _) ⟨congrArg (fun z => some (Value.int (zi z))) (by rw [h34] at hr ⊢; rw [tIs]; cases h7 : decide (tK b n q = 1) <;> cases h8 : decide (tE b n q - q = zsL.getD 0 0) <;> first | rfl | (rw [show (true && (true && wAll (fun k => decide (b (q + k) = zsC 0 k)) (zsL.getD 0 0))) = wAll (fun k => decide (b (q + k) = zsC 0 k)) 5 from rfl]; rw [h7, show decide (tE b n q - q = 5) = true from h8] at hr; exact (wAll_mono (n := 4) (by decide) (by simpa using hr.symm)).symm)), rfl⟩
  · have hx := hr.symm.trans h34
    simp only [Bool.and_eq_true, decide_eq_true_eq] at hx
    have hEn : tE b n q ≤ n := tE_le hq
    have hqk : q + 4 < n := by omega
    refine z_aload_n C dX12_spells_37 2 rfl rfl ?_
    refine f_get12 C 11 (v := .ref (B.1 + 121)) (by decide) tw_755 rfl zk_113 zb_113 rfl dX12_spells_38 ?_
    refine z_aload_n C dX12_spells_41 2 rfl rfl ?_
    refine f_get12 C 13 (v := .int ((mT s b n q) 113 13)) (by decide) tw_757 rfl zk_113 zb_113 rfl dX12_spells_42 ?_
    refine f_topi (y := nI q) (mT_13 _ _ _ _) ?_
    refine z_iload C dX12_spells_45 0 rfl ?_
    refine z_iadd C dX12_spells_47 ?_
    refine f_topi (y := nI (q + 4)) (nA rfl (b := 4) rfl rfl) ?_
    refine f_ialdL C zk_121 zb_121 (ixN (n := 150) rfl (by omega) (by decide)).1 (j := (q + 4)) (ixN (n := 150) rfl (by omega) (by decide)).2 dX12_spells_48 ?_
    refine f_topi (y := b (q + 4)) (by rw [mT_row _ _ _ _ (by decide), hb]) ?_
    refine z_iload C dX12_spells_49 0 rfl ?_
    refine z_if_ne C 58 dX12_spells_51 (by decide) (fun _ => ?_) (fun hbr => absurd hbr (by decide))
    refine z_iload C dX12_spells_58 0 rfl ?_
    refine z_iconst C dX12_spells_60 ki_1 ?_
    refine z_icmp_ne C 68 dX12_spells_61 (by decide) (fun _ => ?_) (fun hbr => absurd hbr (by decide))
    refine z_iload C dX12_spells_68 0 rfl ?_
    refine z_iconst C dX12_spells_70 ki_2 ?_
    refine z_icmp_ne C 79 dX12_spells_71 (by decide) (fun _ => ?_) (fun hbr => absurd hbr (by decide))
    refine z_iload C dX12_spells_79 0 rfl ?_
    refine z_iconst C dX12_spells_81 ki_3 ?_
    refine z_icmp_ne C 90 dX12_spells_82 (by decide) (fun _ => ?_) (fun hbr => absurd hbr (by decide))
    refine z_iload C dX12_spells_90 0 rfl ?_
    refine z_iconst C dX12_spells_92 ki_4 ?_
    refine z_icmp_ne C 101 dX12_spells_93 (by decide) (fun hbr => absurd (by decide) hbr) (fun _ => ?_)
    refine z_iload C dX12_spells_96 8 rfl ?_
    refine z_goto C 103 dX12_spells_98 (by decide) ?_
    refine z_icmp_ne C 110 dX12_spells_103 (by decide) (fun h103 => ?_) (fun h103 => ?_)
    · refine z_iconst C dX12_spells_110 ki_0 ?_
      refine z_istore C [(8, .int 0), (9, .int 4), (0, .ref (B.1 + 113)), (1, .int 5), (2, .int 104), (3, .int 111), (4, .int 117), (5, .int 115), (6, .int 101), (7, .int 0)] dX12_spells_111 (by decide) rfl ?_
      refine z_iinc C [(9, .int 5), (8, .int 0), (0, .ref (B.1 + 113)), (1, .int 5), (2, .int 104), (3, .int 111), (4, .int 117), (5, .int 115), (6, .int 101), (7, .int 0)] dX12_spells_113 1 rfl (by decide) (by decide) rfl ?_
      refine z_goto C 26 dX12_spells_116 (by decide) ?_
      exact z_lv (lv2 := [(9, .int 5), (8, .int (zi false)), (0, .ref (B.1 + 113)), (1, .int 5), (2, .int 104), (3, .int 111), (4, .int 117), (5, .int 115), (6, .int 101), (7, .int 0)]) [0, 1, 2, 3, 4, 5, 6, 7, 8, 9] rfl (l_X12_spells0_5 hl C b hb n hn h150 q hq false (by rw [wAll, ← Bool.and_assoc, ← hr, h34, show decide (b (q + 4) = zsC 0 4) = false from decide_eq_false h103]; rfl) E)
    · refine z_iconst C dX12_spells_106 ki_1 ?_
      refine z_goto C 111 dX12_spells_107 (by decide) ?_
      refine z_istore C [(8, .int 1), (9, .int 4), (0, .ref (B.1 + 113)), (1, .int 5), (2, .int 104), (3, .int 111), (4, .int 117), (5, .int 115), (6, .int 101), (7, .int 0)] dX12_spells_111 (by decide) rfl ?_
      refine z_iinc C [(9, .int 5), (8, .int 1), (0, .ref (B.1 + 113)), (1, .int 5), (2, .int 104), (3, .int 111), (4, .int 117), (5, .int 115), (6, .int 101), (7, .int 0)] dX12_spells_113 1 rfl (by decide) (by decide) rfl ?_
      refine z_goto C 26 dX12_spells_116 (by decide) ?_
      exact z_lv (lv2 := [(9, .int 5), (8, .int (zi true)), (0, .ref (B.1 + 113)), (1, .int 5), (2, .int 104), (3, .int 111), (4, .int 117), (5, .int 115), (6, .int 101), (7, .int 0)]) [0, 1, 2, 3, 4, 5, 6, 7, 8, 9] rfl (l_X12_spells0_5 hl C b hb n hn h150 q hq true (by rw [wAll, ← Bool.and_assoc, ← hr, h34, show decide (b (q + 4) = zsC 0 4) = true from decide_eq_true h103]; rfl) E)
set_option maxRecDepth 100000 in
set_option maxHeartbeats 4000000 in
theorem l_X12_spells0_3 {l : Launch} {B : zB} {s : zS} {t : zL} {X : zX} (hl : X.2.1 = l) (C : zC X B mX12_spells) (b : Nat → Int32) (hb : s 121 = b) (n : Nat) (hn : s 113 12 = nI n) (h150 : n ≤ 150) (q : Nat) (hq : q ≤ n) (r : Bool) (hr : r = ((decide (tK b n q = 1) && decide (tE b n q - q = 5)) && wAll (fun k => decide (b (q + k) = zsC 0 k)) 3)) (E : zE X B mX12_spells 124 0 0 (zR B (some (.int (zi (tIs b n q 0)))) (mT s b n q) t)) : Zf X B mX12_spells (mT s b n q) t 26 [(9, .int 3), (8, .int (zi r)), (0, .ref (B.1 + 113)), (1, .int 5), (2, .int 104), (3, .int 111), (4, .int 117), (5, .int 115), (6, .int 101), (7, .int 0)] [] := by
  refine z_iload C dX12_spells_26 0 rfl ?_
  refine z_iload_n C dX12_spells_28 3 rfl rfl ?_
  refine z_icmp_ge C 119 dX12_spells_29 (by decide) (fun hbr => absurd hbr (by decide)) (fun _ => ?_)
  refine z_iload C dX12_spells_32 1 rfl ?_
  refine z_ifb_eq C 119 dX12_spells_34 (by decide) (fun h34 => ?_) (fun h34 => ?_)
  · refine z_iload C dX12_spells_119 1 rfl ?_
    refine z_zret C E rfl dX12_spells_121 (zi_nar _) rfl (Nat.le_refl _) ⟨congrArg (fun z => some (Value.int (zi z))) (by rw [h34] at hr ⊢; rw [tIs]; cases h7 : decide (tK b n q = 1) <;> cases h8 : decide (tE b n q - q = zsL.getD 0 0) <;> first | rfl | (rw [show (true && (true && wAll (fun k => decide (b (q + k) = zsC 0 k)) (zsL.getD 0 0))) = wAll (fun k => decide (b (q + k) = zsC 0 k)) 5 from rfl]; rw [h7, show decide (tE b n q - q = 5) = true from h8] at hr; exact (wAll_mono (n := 3) (by decide) (by simpa using hr.symm)).symm)), rfl⟩
  · have hx := hr.symm.trans h34
    simp only [Bool.and_eq_true, decide_eq_true_eq] at hx
    have hEn : tE b n q ≤ n := tE_le hq
    have hqk : q + 3 < n := by omega
    refine z_aload_n C dX12_spells_37 2 rfl rfl ?_
    refine f_get12 C 11 (v := .ref (B.1 + 121)) (by decide) tw_755 rfl zk_113 zb_113 rfl dX12_spells_38 ?_
    refine z_aload_n C dX12_spells_41 2 rfl rfl ?_
    refine f_get12 C 13 (v := .int ((mT s b n q) 113 13)) (by decide) tw_757 rfl zk_113 zb_113 rfl dX12_spells_42 ?_
    refine f_topi (y := nI q) (mT_13 _ _ _ _) ?_
    refine z_iload C dX12_spells_45 0 rfl ?_
    refine z_iadd C dX12_spells_47 ?_
    refine f_topi (y := nI (q + 3)) (nA rfl (b := 3) rfl rfl) ?_
    refine f_ialdL C zk_121 zb_121 (ixN (n := 150) rfl (by omega) (by decide)).1 (j := (q + 3)) (ixN (n := 150) rfl (by omega) (by decide)).2 dX12_spells_48 ?_
    refine f_topi (y := b (q + 3)) (by rw [mT_row _ _ _ _ (by decide), hb]) ?_
    refine z_iload C dX12_spells_49 0 rfl ?_
    refine z_if_ne C 58 dX12_spells_51 (by decide) (fun _ => ?_) (fun hbr => absurd hbr (by decide))
    refine z_iload C dX12_spells_58 0 rfl ?_
    refine z_iconst C dX12_spells_60 ki_1 ?_
    refine z_icmp_ne C 68 dX12_spells_61 (by decide) (fun _ => ?_) (fun hbr => absurd hbr (by decide))
    refine z_iload C dX12_spells_68 0 rfl ?_
    refine z_iconst C dX12_spells_70 ki_2 ?_
    refine z_icmp_ne C 79 dX12_spells_71 (by decide) (fun _ => ?_) (fun hbr => absurd hbr (by decide))
    refine z_iload C dX12_spells_79 0 rfl ?_
    refine z_iconst C dX12_spells_81 ki_3 ?_
    refine z_icmp_ne C 90 dX12_spells_82 (by decide) (fun hbr => absurd (by decide) hbr) (fun _ => ?_)
    refine z_iload C dX12_spells_85 7 rfl ?_
    refine z_goto C 103 dX12_spells_87 (by decide) ?_
    refine z_icmp_ne C 110 dX12_spells_103 (by decide) (fun h103 => ?_) (fun h103 => ?_)
    · refine z_iconst C dX12_spells_110 ki_0 ?_
      refine z_istore C [(8, .int 0), (9, .int 3), (0, .ref (B.1 + 113)), (1, .int 5), (2, .int 104), (3, .int 111), (4, .int 117), (5, .int 115), (6, .int 101), (7, .int 0)] dX12_spells_111 (by decide) rfl ?_
      refine z_iinc C [(9, .int 4), (8, .int 0), (0, .ref (B.1 + 113)), (1, .int 5), (2, .int 104), (3, .int 111), (4, .int 117), (5, .int 115), (6, .int 101), (7, .int 0)] dX12_spells_113 1 rfl (by decide) (by decide) rfl ?_
      refine z_goto C 26 dX12_spells_116 (by decide) ?_
      exact z_lv (lv2 := [(9, .int 4), (8, .int (zi false)), (0, .ref (B.1 + 113)), (1, .int 5), (2, .int 104), (3, .int 111), (4, .int 117), (5, .int 115), (6, .int 101), (7, .int 0)]) [0, 1, 2, 3, 4, 5, 6, 7, 8, 9] rfl (l_X12_spells0_4 hl C b hb n hn h150 q hq false (by rw [wAll, ← Bool.and_assoc, ← hr, h34, show decide (b (q + 3) = zsC 0 3) = false from decide_eq_false h103]; rfl) E)
    · refine z_iconst C dX12_spells_106 ki_1 ?_
      refine z_goto C 111 dX12_spells_107 (by decide) ?_
      refine z_istore C [(8, .int 1), (9, .int 3), (0, .ref (B.1 + 113)), (1, .int 5), (2, .int 104), (3, .int 111), (4, .int 117), (5, .int 115), (6, .int 101), (7, .int 0)] dX12_spells_111 (by decide) rfl ?_
      refine z_iinc C [(9, .int 4), (8, .int 1), (0, .ref (B.1 + 113)), (1, .int 5), (2, .int 104), (3, .int 111), (4, .int 117), (5, .int 115), (6, .int 101), (7, .int 0)] dX12_spells_113 1 rfl (by decide) (by decide) rfl ?_
      refine z_goto C 26 dX12_spells_116 (by decide) ?_
      exact z_lv (lv2 := [(9, .int 4), (8, .int (zi true)), (0, .ref (B.1 + 113)), (1, .int 5), (2, .int 104), (3, .int 111), (4, .int 117), (5, .int 115), (6, .int 101), (7, .int 0)]) [0, 1, 2, 3, 4, 5, 6, 7, 8, 9] rfl (l_X12_spells0_4 hl C b hb n hn h150 q hq true (by rw [wAll, ← Bool.and_assoc, ← hr, h34, show decide (b (q + 3) = zsC 0 3) = true from decide_eq_true h103]; rfl) E)
set_option maxRecDepth 100000 in
set_option maxHeartbeats 4000000 in
theorem l_X12_spells0_2 {l : Launch} {B : zB} {s : zS} {t : zL} {X : zX} (hl : X.2.1 = l) (C : zC X B mX12_spells) (b : Nat → Int32) (hb : s 121 = b) (n : Nat) (hn : s 113 12 = nI n) (h150 : n ≤ 150) (q : Nat) (hq : q ≤ n) (r : Bool) (hr : r = ((decide (tK b n q = 1) && decide (tE b n q - q = 5)) && wAll (fun k => decide (b (q + k) = zsC 0 k)) 2)) (E : zE X B mX12_spells 124 0 0 (zR B (some (.int (zi (tIs b n q 0)))) (mT s b n q) t)) : Zf X B mX12_spells (mT s b n q) t 26 [(9, .int 2), (8, .int (zi r)), (0, .ref (B.1 + 113)), (1, .int 5), (2, .int 104), (3, .int 111), (4, .int 117), (5, .int 115), (6, .int 101), (7, .int 0)] [] := by
  refine z_iload C dX12_spells_26 0 rfl ?_
  refine z_iload_n C dX12_spells_28 3 rfl rfl ?_
  refine z_icmp_ge C 119 dX12_spells_29 (by decide) (fun hbr => absurd hbr (by decide)) (fun _ => ?_)
  refine z_iload C dX12_spells_32 1 rfl ?_
  refine z_ifb_eq C 119 dX12_spells_34 (by decide) (fun h34 => ?_) (fun h34 => ?_)
  · refine z_iload C dX12_spells_119 1 rfl ?_
    refine z_zret C E rfl dX12_spells_121 (zi_nar _) rfl (Nat.le_refl _) ⟨congrArg (fun z => some (Value.int (zi z))) (by rw [h34] at hr ⊢; rw [tIs]; cases h7 : decide (tK b n q = 1) <;> cases h8 : decide (tE b n q - q = zsL.getD 0 0) <;> first | rfl | (rw [show (true && (true && wAll (fun k => decide (b (q + k) = zsC 0 k)) (zsL.getD 0 0))) = wAll (fun k => decide (b (q + k) = zsC 0 k)) 5 from rfl]; rw [h7, show decide (tE b n q - q = 5) = true from h8] at hr; exact (wAll_mono (n := 2) (by decide) (by simpa using hr.symm)).symm)), rfl⟩
  · have hx := hr.symm.trans h34
    simp only [Bool.and_eq_true, decide_eq_true_eq] at hx
    have hEn : tE b n q ≤ n := tE_le hq
    have hqk : q + 2 < n := by omega
    refine z_aload_n C dX12_spells_37 2 rfl rfl ?_
    refine f_get12 C 11 (v := .ref (B.1 + 121)) (by decide) tw_755 rfl zk_113 zb_113 rfl dX12_spells_38 ?_
    refine z_aload_n C dX12_spells_41 2 rfl rfl ?_
    refine f_get12 C 13 (v := .int ((mT s b n q) 113 13)) (by decide) tw_757 rfl zk_113 zb_113 rfl dX12_spells_42 ?_
    refine f_topi (y := nI q) (mT_13 _ _ _ _) ?_
    refine z_iload C dX12_spells_45 0 rfl ?_
    refine z_iadd C dX12_spells_47 ?_
    refine f_topi (y := nI (q + 2)) (nA rfl (b := 2) rfl rfl) ?_
    refine f_ialdL C zk_121 zb_121 (ixN (n := 150) rfl (by omega) (by decide)).1 (j := (q + 2)) (ixN (n := 150) rfl (by omega) (by decide)).2 dX12_spells_48 ?_
    refine f_topi (y := b (q + 2)) (by rw [mT_row _ _ _ _ (by decide), hb]) ?_
    refine z_iload C dX12_spells_49 0 rfl ?_
    refine z_if_ne C 58 dX12_spells_51 (by decide) (fun _ => ?_) (fun hbr => absurd hbr (by decide))
    refine z_iload C dX12_spells_58 0 rfl ?_
    refine z_iconst C dX12_spells_60 ki_1 ?_
    refine z_icmp_ne C 68 dX12_spells_61 (by decide) (fun _ => ?_) (fun hbr => absurd hbr (by decide))
    refine z_iload C dX12_spells_68 0 rfl ?_
    refine z_iconst C dX12_spells_70 ki_2 ?_
    refine z_icmp_ne C 79 dX12_spells_71 (by decide) (fun hbr => absurd (by decide) hbr) (fun _ => ?_)
    refine z_iload C dX12_spells_74 6 rfl ?_
    refine z_goto C 103 dX12_spells_76 (by decide) ?_
    refine z_icmp_ne C 110 dX12_spells_103 (by decide) (fun h103 => ?_) (fun h103 => ?_)
    · refine z_iconst C dX12_spells_110 ki_0 ?_
      refine z_istore C [(8, .int 0), (9, .int 2), (0, .ref (B.1 + 113)), (1, .int 5), (2, .int 104), (3, .int 111), (4, .int 117), (5, .int 115), (6, .int 101), (7, .int 0)] dX12_spells_111 (by decide) rfl ?_
      refine z_iinc C [(9, .int 3), (8, .int 0), (0, .ref (B.1 + 113)), (1, .int 5), (2, .int 104), (3, .int 111), (4, .int 117), (5, .int 115), (6, .int 101), (7, .int 0)] dX12_spells_113 1 rfl (by decide) (by decide) rfl ?_
      refine z_goto C 26 dX12_spells_116 (by decide) ?_
      exact z_lv (lv2 := [(9, .int 3), (8, .int (zi false)), (0, .ref (B.1 + 113)), (1, .int 5), (2, .int 104), (3, .int 111), (4, .int 117), (5, .int 115), (6, .int 101), (7, .int 0)]) [0, 1, 2, 3, 4, 5, 6, 7, 8, 9] rfl (l_X12_spells0_3 hl C b hb n hn h150 q hq false (by rw [wAll, ← Bool.and_assoc, ← hr, h34, show decide (b (q + 2) = zsC 0 2) = false from decide_eq_false h103]; rfl) E)
    · refine z_iconst C dX12_spells_106 ki_1 ?_
      refine z_goto C 111 dX12_spells_107 (by decide) ?_
      refine z_istore C [(8, .int 1), (9, .int 2), (0, .ref (B.1 + 113)), (1, .int 5), (2, .int 104), (3, .int 111), (4, .int 117), (5, .int 115), (6, .int 101), (7, .int 0)] dX12_spells_111 (by decide) rfl ?_
      refine z_iinc C [(9, .int 3), (8, .int 1), (0, .ref (B.1 + 113)), (1, .int 5), (2, .int 104), (3, .int 111), (4, .int 117), (5, .int 115), (6, .int 101), (7, .int 0)] dX12_spells_113 1 rfl (by decide) (by decide) rfl ?_
      refine z_goto C 26 dX12_spells_116 (by decide) ?_
      exact z_lv (lv2 := [(9, .int 3), (8, .int (zi true)), (0, .ref (B.1 + 113)), (1, .int 5), (2, .int 104), (3, .int 111), (4, .int 117), (5, .int 115), (6, .int 101), (7, .int 0)]) [0, 1, 2, 3, 4, 5, 6, 7, 8, 9] rfl (l_X12_spells0_3 hl C b hb n hn h150 q hq true (by rw [wAll, ← Bool.and_assoc, ← hr, h34, show decide (b (q + 2) = zsC 0 2) = true from decide_eq_true h103]; rfl) E)
set_option maxRecDepth 100000 in
set_option maxHeartbeats 4000000 in
theorem l_X12_spells0_1 {l : Launch} {B : zB} {s : zS} {t : zL} {X : zX} (hl : X.2.1 = l) (C : zC X B mX12_spells) (b : Nat → Int32) (hb : s 121 = b) (n : Nat) (hn : s 113 12 = nI n) (h150 : n ≤ 150) (q : Nat) (hq : q ≤ n) (r : Bool) (hr : r = ((decide (tK b n q = 1) && decide (tE b n q - q = 5)) && wAll (fun k => decide (b (q + k) = zsC 0 k)) 1)) (E : zE X B mX12_spells 124 0 0 (zR B (some (.int (zi (tIs b n q 0)))) (mT s b n q) t)) : Zf X B mX12_spells (mT s b n q) t 26 [(9, .int 1), (8, .int (zi r)), (0, .ref (B.1 + 113)), (1, .int 5), (2, .int 104), (3, .int 111), (4, .int 117), (5, .int 115), (6, .int 101), (7, .int 0)] [] := by
  refine z_iload C dX12_spells_26 0 rfl ?_
  refine z_iload_n C dX12_spells_28 3 rfl rfl ?_
  refine z_icmp_ge C 119 dX12_spells_29 (by decide) (fun hbr => absurd hbr (by decide)) (fun _ => ?_)
  refine z_iload C dX12_spells_32 1 rfl ?_
  refine z_ifb_eq C 119 dX12_spells_34 (by decide) (fun h34 => ?_) (fun h34 => ?_)
  · refine z_iload C dX12_spells_119 1 rfl ?_
    refine z_zret C E rfl dX12_spells_121 (zi_nar _) rfl (Nat.le_refl _) ⟨congrArg (fun z => some (Value.int (zi z))) (by rw [h34] at hr ⊢; rw [tIs]; cases h7 : decide (tK b n q = 1) <;> cases h8 : decide (tE b n q - q = zsL.getD 0 0) <;> first | rfl | (rw [show (true && (true && wAll (fun k => decide (b (q + k) = zsC 0 k)) (zsL.getD 0 0))) = wAll (fun k => decide (b (q + k) = zsC 0 k)) 5 from rfl]; rw [h7, show decide (tE b n q - q = 5) = true from h8] at hr; exact (wAll_mono (n := 1) (by decide) (by simpa using hr.symm)).symm)), rfl⟩
  · have hx := hr.symm.trans h34
    simp only [Bool.and_eq_true, decide_eq_true_eq] at hx
    have hEn : tE b n q ≤ n := tE_le hq
    have hqk : q + 1 < n := by omega
    refine z_aload_n C dX12_spells_37 2 rfl rfl ?_
    refine f_get12 C 11 (v := .ref (B.1 + 121)) (by decide) tw_755 rfl zk_113 zb_113 rfl dX12_spells_38 ?_
    refine z_aload_n C dX12_spells_41 2 rfl rfl ?_
    refine f_get12 C 13 (v := .int ((mT s b n q) 113 13)) (by decide) tw_757 rfl zk_113 zb_113 rfl dX12_spells_42 ?_
    refine f_topi (y := nI q) (mT_13 _ _ _ _) ?_
    refine z_iload C dX12_spells_45 0 rfl ?_
    refine z_iadd C dX12_spells_47 ?_
    refine f_topi (y := nI (q + 1)) (nA rfl (b := 1) rfl rfl) ?_
    refine f_ialdL C zk_121 zb_121 (ixN (n := 150) rfl (by omega) (by decide)).1 (j := (q + 1)) (ixN (n := 150) rfl (by omega) (by decide)).2 dX12_spells_48 ?_
    refine f_topi (y := b (q + 1)) (by rw [mT_row _ _ _ _ (by decide), hb]) ?_
    refine z_iload C dX12_spells_49 0 rfl ?_
    refine z_if_ne C 58 dX12_spells_51 (by decide) (fun _ => ?_) (fun hbr => absurd hbr (by decide))
    refine z_iload C dX12_spells_58 0 rfl ?_
    refine z_iconst C dX12_spells_60 ki_1 ?_
    refine z_icmp_ne C 68 dX12_spells_61 (by decide) (fun hbr => absurd (by decide) hbr) (fun _ => ?_)
    refine z_iload_n C dX12_spells_64 5 rfl rfl ?_
    refine z_goto C 103 dX12_spells_65 (by decide) ?_
    refine z_icmp_ne C 110 dX12_spells_103 (by decide) (fun h103 => ?_) (fun h103 => ?_)
    · refine z_iconst C dX12_spells_110 ki_0 ?_
      refine z_istore C [(8, .int 0), (9, .int 1), (0, .ref (B.1 + 113)), (1, .int 5), (2, .int 104), (3, .int 111), (4, .int 117), (5, .int 115), (6, .int 101), (7, .int 0)] dX12_spells_111 (by decide) rfl ?_
      refine z_iinc C [(9, .int 2), (8, .int 0), (0, .ref (B.1 + 113)), (1, .int 5), (2, .int 104), (3, .int 111), (4, .int 117), (5, .int 115), (6, .int 101), (7, .int 0)] dX12_spells_113 1 rfl (by decide) (by decide) rfl ?_
      refine z_goto C 26 dX12_spells_116 (by decide) ?_
      exact z_lv (lv2 := [(9, .int 2), (8, .int (zi false)), (0, .ref (B.1 + 113)), (1, .int 5), (2, .int 104), (3, .int 111), (4, .int 117), (5, .int 115), (6, .int 101), (7, .int 0)]) [0, 1, 2, 3, 4, 5, 6, 7, 8, 9] rfl (l_X12_spells0_2 hl C b hb n hn h150 q hq false (by rw [wAll, ← Bool.and_assoc, ← hr, h34, show decide (b (q + 1) = zsC 0 1) = false from decide_eq_false h103]; rfl) E)
    · refine z_iconst C dX12_spells_106 ki_1 ?_
      refine z_goto C 111 dX12_spells_107 (by decide) ?_
      refine z_istore C [(8, .int 1), (9, .int 1), (0, .ref (B.1 + 113)), (1, .int 5), (2, .int 104), (3, .int 111), (4, .int 117), (5, .int 115), (6, .int 101), (7, .int 0)] dX12_spells_111 (by decide) rfl ?_
      refine z_iinc C [(9, .int 2), (8, .int 1), (0, .ref (B.1 + 113)), (1, .int 5), (2, .int 104), (3, .int 111), (4, .int 117), (5, .int 115), (6, .int 101), (7, .int 0)] dX12_spells_113 1 rfl (by decide) (by decide) rfl ?_
      refine z_goto C 26 dX12_spells_116 (by decide) ?_
      exact z_lv (lv2 := [(9, .int 2), (8, .int (zi true)), (0, .ref (B.1 + 113)), (1, .int 5), (2, .int 104), (3, .int 111), (4, .int 117), (5, .int 115), (6, .int 101), (7, .int 0)]) [0, 1, 2, 3, 4, 5, 6, 7, 8, 9] rfl (l_X12_spells0_2 hl C b hb n hn h150 q hq true (by rw [wAll, ← Bool.and_assoc, ← hr, h34, show decide (b (q + 1) = zsC 0 1) = true from decide_eq_true h103]; rfl) E)
set_option maxRecDepth 100000 in
set_option maxHeartbeats 4000000 in
theorem l_X12_spells0_0 {l : Launch} {B : zB} {s : zS} {t : zL} {X : zX} (hl : X.2.1 = l) (C : zC X B mX12_spells) (b : Nat → Int32) (hb : s 121 = b) (n : Nat) (hn : s 113 12 = nI n) (h150 : n ≤ 150) (q : Nat) (hq : q ≤ n) (r : Bool) (hr : r = ((decide (tK b n q = 1) && decide (tE b n q - q = 5)) && wAll (fun k => decide (b (q + k) = zsC 0 k)) 0)) (E : zE X B mX12_spells 124 0 0 (zR B (some (.int (zi (tIs b n q 0)))) (mT s b n q) t)) : Zf X B mX12_spells (mT s b n q) t 26 [(9, .int 0), (8, .int (zi r)), (0, .ref (B.1 + 113)), (1, .int 5), (2, .int 104), (3, .int 111), (4, .int 117), (5, .int 115), (6, .int 101), (7, .int 0)] [] := by
  refine z_iload C dX12_spells_26 0 rfl ?_
  refine z_iload_n C dX12_spells_28 3 rfl rfl ?_
  refine z_icmp_ge C 119 dX12_spells_29 (by decide) (fun hbr => absurd hbr (by decide)) (fun _ => ?_)
  refine z_iload C dX12_spells_32 1 rfl ?_
  refine z_ifb_eq C 119 dX12_spells_34 (by decide) (fun h34 => ?_) (fun h34 => ?_)
  · refine z_iload C dX12_spells_119 1 rfl ?_
    refine z_zret C E rfl dX12_spells_121 (zi_nar _) rfl (Nat.le_refl _) ⟨congrArg (fun z => some (Value.int (zi z))) (by rw [h34] at hr ⊢; rw [tIs]; cases h7 : decide (tK b n q = 1) <;> cases h8 : decide (tE b n q - q = zsL.getD 0 0) <;> first | rfl | (rw [show (true && (true && wAll (fun k => decide (b (q + k) = zsC 0 k)) (zsL.getD 0 0))) = wAll (fun k => decide (b (q + k) = zsC 0 k)) 5 from rfl]; rw [h7, show decide (tE b n q - q = 5) = true from h8] at hr; exact (wAll_mono (n := 0) (by decide) (by simpa using hr.symm)).symm)), rfl⟩
  · have hx := hr.symm.trans h34
    simp only [Bool.and_eq_true, decide_eq_true_eq] at hx
    have hEn : tE b n q ≤ n := tE_le hq
    have hqk : q + 0 < n := by omega
    refine z_aload_n C dX12_spells_37 2 rfl rfl ?_
    refine f_get12 C 11 (v := .ref (B.1 + 121)) (by decide) tw_755 rfl zk_113 zb_113 rfl dX12_spells_38 ?_
    refine z_aload_n C dX12_spells_41 2 rfl rfl ?_
    refine f_get12 C 13 (v := .int ((mT s b n q) 113 13)) (by decide) tw_757 rfl zk_113 zb_113 rfl dX12_spells_42 ?_
    refine f_topi (y := nI q) (mT_13 _ _ _ _) ?_
    refine z_iload C dX12_spells_45 0 rfl ?_
    refine z_iadd C dX12_spells_47 ?_
    refine f_topi (y := nI (q + 0)) (nA rfl (b := 0) rfl rfl) ?_
    refine f_ialdL C zk_121 zb_121 (ixN (n := 150) rfl (by omega) (by decide)).1 (j := (q + 0)) (ixN (n := 150) rfl (by omega) (by decide)).2 dX12_spells_48 ?_
    refine f_topi (y := b (q + 0)) (by rw [mT_row _ _ _ _ (by decide), hb]) ?_
    refine z_iload C dX12_spells_49 0 rfl ?_
    refine z_if_ne C 58 dX12_spells_51 (by decide) (fun hbr => absurd (by decide) hbr) (fun _ => ?_)
    refine z_iload_n C dX12_spells_54 4 rfl rfl ?_
    refine z_goto C 103 dX12_spells_55 (by decide) ?_
    refine z_icmp_ne C 110 dX12_spells_103 (by decide) (fun h103 => ?_) (fun h103 => ?_)
    · refine z_iconst C dX12_spells_110 ki_0 ?_
      refine z_istore C [(8, .int 0), (9, .int 0), (0, .ref (B.1 + 113)), (1, .int 5), (2, .int 104), (3, .int 111), (4, .int 117), (5, .int 115), (6, .int 101), (7, .int 0)] dX12_spells_111 (by decide) rfl ?_
      refine z_iinc C [(9, .int 1), (8, .int 0), (0, .ref (B.1 + 113)), (1, .int 5), (2, .int 104), (3, .int 111), (4, .int 117), (5, .int 115), (6, .int 101), (7, .int 0)] dX12_spells_113 1 rfl (by decide) (by decide) rfl ?_
      refine z_goto C 26 dX12_spells_116 (by decide) ?_
      exact z_lv (lv2 := [(9, .int 1), (8, .int (zi false)), (0, .ref (B.1 + 113)), (1, .int 5), (2, .int 104), (3, .int 111), (4, .int 117), (5, .int 115), (6, .int 101), (7, .int 0)]) [0, 1, 2, 3, 4, 5, 6, 7, 8, 9] rfl (l_X12_spells0_1 hl C b hb n hn h150 q hq false (by rw [wAll, ← Bool.and_assoc, ← hr, h34, show decide (b (q + 0) = zsC 0 0) = false from decide_eq_false h103]; rfl) E)
    · refine z_iconst C dX12_spells_106 ki_1 ?_
      refine z_goto C 111 dX12_spells_107 (by decide) ?_
      refine z_istore C [(8, .int 1), (9, .int 0), (0, .ref (B.1 + 113)), (1, .int 5), (2, .int 104), (3, .int 111), (4, .int 117), (5, .int 115), (6, .int 101), (7, .int 0)] dX12_spells_111 (by decide) rfl ?_
      refine z_iinc C [(9, .int 1), (8, .int 1), (0, .ref (B.1 + 113)), (1, .int 5), (2, .int 104), (3, .int 111), (4, .int 117), (5, .int 115), (6, .int 101), (7, .int 0)] dX12_spells_113 1 rfl (by decide) (by decide) rfl ?_
      refine z_goto C 26 dX12_spells_116 (by decide) ?_
      exact z_lv (lv2 := [(9, .int 1), (8, .int (zi true)), (0, .ref (B.1 + 113)), (1, .int 5), (2, .int 104), (3, .int 111), (4, .int 117), (5, .int 115), (6, .int 101), (7, .int 0)]) [0, 1, 2, 3, 4, 5, 6, 7, 8, 9] rfl (l_X12_spells0_1 hl C b hb n hn h150 q hq true (by rw [wAll, ← Bool.and_assoc, ← hr, h34, show decide (b (q + 0) = zsC 0 0) = true from decide_eq_true h103]; rfl) E)
set_option maxRecDepth 100000 in
set_option maxHeartbeats 4000000 in
theorem c_X12_spells0 (l : Launch) (B : zB) (s : zS) (t : zL) (b : Nat → Int32) (hb : s 121 = b) (n : Nat) (hn : s 113 12 = nI n) (h150 : n ≤ 150) (q : Nat) (hq : q ≤ n) : zD l B mX12_spells (mT s b n q) t [.ref (B.1 + 113), .int 5, .int 104, .int 111, .int 117, .int 115, .int 101, .int 0] (some (.int (zi (tIs b n q 0)))) (mT s b n q) t := by
  have hEn : tE b n q ≤ n := tE_le hq
  refine z_met (by decide) (Nat.le_of_ble_eq_true rfl) ?_
  intro X hl C E hnm
  show Zf X B mX12_spells (mT s b n q) t 0 [(0, .ref (B.1 + 113)), (1, .int 5), (2, .int 104), (3, .int 111), (4, .int 117), (5, .int 115), (6, .int 101), (7, .int 0)] []
  refine z_aload_n C dX12_spells_0 0 rfl rfl ?_
  refine f_get12 C 15 (v := .int ((mT s b n q) 113 15)) (by decide) tw_759 rfl zk_113 zb_113 rfl dX12_spells_1 ?_
  refine f_topi (y := tK b n q) (mT_15 _ _ _ _) ?_
  refine z_iconst C dX12_spells_4 ki_1 ?_
  refine z_icmp_ne C 20 dX12_spells_5 (by decide) (fun h5 => ?_) (fun h5 => ?_)
  · refine z_iconst C dX12_spells_20 ki_0 ?_
    refine z_istore C [(8, .int 0), (0, .ref (B.1 + 113)), (1, .int 5), (2, .int 104), (3, .int 111), (4, .int 117), (5, .int 115), (6, .int 101), (7, .int 0)] dX12_spells_21 (by decide) rfl ?_
    refine z_iconst C dX12_spells_23 ki_0 ?_
    refine z_istore C [(9, .int 0), (8, .int 0), (0, .ref (B.1 + 113)), (1, .int 5), (2, .int 104), (3, .int 111), (4, .int 117), (5, .int 115), (6, .int 101), (7, .int 0)] dX12_spells_24 (by decide) rfl ?_
    exact z_lv (lv2 := [(9, .int 0), (8, .int (zi false)), (0, .ref (B.1 + 113)), (1, .int 5), (2, .int 104), (3, .int 111), (4, .int 117), (5, .int 115), (6, .int 101), (7, .int 0)]) [0, 1, 2, 3, 4, 5, 6, 7, 8, 9] rfl (l_X12_spells0_0 hl C b hb n hn h150 q hq false (by rw [decide_eq_false h5]; rfl) E)
  · refine z_aload_n C dX12_spells_8 0 rfl rfl ?_
    refine f_get12 C 14 (v := .int ((mT s b n q) 113 14)) (by decide) tw_758 rfl zk_113 zb_113 rfl dX12_spells_9 ?_
    refine f_topi (y := nI (tE b n q - q)) (mT_14 _ _ _ _) ?_
    refine z_iload_n C dX12_spells_12 1 rfl rfl ?_
    refine z_icmp_ne C 20 dX12_spells_13 (by decide) (fun h13 => ?_) (fun h13 => ?_)
    · refine z_iconst C dX12_spells_20 ki_0 ?_
      refine z_istore C [(8, .int 0), (0, .ref (B.1 + 113)), (1, .int 5), (2, .int 104), (3, .int 111), (4, .int 117), (5, .int 115), (6, .int 101), (7, .int 0)] dX12_spells_21 (by decide) rfl ?_
      refine z_iconst C dX12_spells_23 ki_0 ?_
      refine z_istore C [(9, .int 0), (8, .int 0), (0, .ref (B.1 + 113)), (1, .int 5), (2, .int 104), (3, .int 111), (4, .int 117), (5, .int 115), (6, .int 101), (7, .int 0)] dX12_spells_24 (by decide) rfl ?_
      exact z_lv (lv2 := [(9, .int 0), (8, .int (zi false)), (0, .ref (B.1 + 113)), (1, .int 5), (2, .int 104), (3, .int 111), (4, .int 117), (5, .int 115), (6, .int 101), (7, .int 0)]) [0, 1, 2, 3, 4, 5, 6, 7, 8, 9] rfl (l_X12_spells0_0 hl C b hb n hn h150 q hq false (by rw [decide_eq_true h5, decide_eq_false (fun y => h13 (by rw [y]; rfl))]; rfl) E)
    · refine z_iconst C dX12_spells_16 ki_1 ?_
      refine z_goto C 21 dX12_spells_17 (by decide) ?_
      refine z_istore C [(8, .int 1), (0, .ref (B.1 + 113)), (1, .int 5), (2, .int 104), (3, .int 111), (4, .int 117), (5, .int 115), (6, .int 101), (7, .int 0)] dX12_spells_21 (by decide) rfl ?_
      refine z_iconst C dX12_spells_23 ki_0 ?_
      refine z_istore C [(9, .int 0), (8, .int 1), (0, .ref (B.1 + 113)), (1, .int 5), (2, .int 104), (3, .int 111), (4, .int 117), (5, .int 115), (6, .int 101), (7, .int 0)] dX12_spells_24 (by decide) rfl ?_
      exact z_lv (lv2 := [(9, .int 0), (8, .int (zi true)), (0, .ref (B.1 + 113)), (1, .int 5), (2, .int 104), (3, .int 111), (4, .int 117), (5, .int 115), (6, .int 101), (7, .int 0)]) [0, 1, 2, 3, 4, 5, 6, 7, 8, 9] rfl (l_X12_spells0_0 hl C b hb n hn h150 q hq true (by rw [decide_eq_true h5, decide_eq_true ((nI_eq (b := 5) (by omega) (by decide)).mp h13)]; rfl) E)
set_option maxRecDepth 100000 in
set_option maxHeartbeats 4000000 in
theorem l_X12_spells1_6 {l : Launch} {B : zB} {s : zS} {t : zL} {X : zX} (hl : X.2.1 = l) (C : zC X B mX12_spells) (b : Nat → Int32) (hb : s 121 = b) (n : Nat) (hn : s 113 12 = nI n) (h150 : n ≤ 150) (q : Nat) (hq : q ≤ n) (r : Bool) (hr : r = ((decide (tK b n q = 1) && decide (tE b n q - q = 6)) && wAll (fun k => decide (b (q + k) = zsC 1 k)) 6)) (E : zE X B mX12_spells 124 0 0 (zR B (some (.int (zi (tIs b n q 1)))) (mT s b n q) t)) : Zf X B mX12_spells (mT s b n q) t 26 [(9, .int 6), (8, .int (zi r)), (0, .ref (B.1 + 113)), (1, .int 6), (2, .int 100), (3, .int 101), (4, .int 112), (5, .int 117), (6, .int 116), (7, .int 121)] [] := by
  refine z_iload C dX12_spells_26 0 rfl ?_
  refine z_iload_n C dX12_spells_28 3 rfl rfl ?_
  refine z_icmp_ge C 119 dX12_spells_29 (by decide) (fun _ => ?_) (fun hbr => absurd (by decide) hbr)
  refine z_iload C dX12_spells_119 1 rfl ?_
  refine z_zret C E rfl dX12_spells_121 (zi_nar _) rfl (Nat.le_refl _) ⟨by rw [hr, tIs, Bool.and_assoc]; rfl, rfl⟩
set_option maxRecDepth 100000 in
set_option maxHeartbeats 4000000 in
theorem l_X12_spells1_5 {l : Launch} {B : zB} {s : zS} {t : zL} {X : zX} (hl : X.2.1 = l) (C : zC X B mX12_spells) (b : Nat → Int32) (hb : s 121 = b) (n : Nat) (hn : s 113 12 = nI n) (h150 : n ≤ 150) (q : Nat) (hq : q ≤ n) (r : Bool) (hr : r = ((decide (tK b n q = 1) && decide (tE b n q - q = 6)) && wAll (fun k => decide (b (q + k) = zsC 1 k)) 5)) (E : zE X B mX12_spells 124 0 0 (zR B (some (.int (zi (tIs b n q 1)))) (mT s b n q) t)) : Zf X B mX12_spells (mT s b n q) t 26 [(9, .int 5), (8, .int (zi r)), (0, .ref (B.1 + 113)), (1, .int 6), (2, .int 100), (3, .int 101), (4, .int 112), (5, .int 117), (6, .int 116), (7, .int 121)] [] := by
  refine z_iload C dX12_spells_26 0 rfl ?_
  refine z_iload_n C dX12_spells_28 3 rfl rfl ?_
  refine z_icmp_ge C 119 dX12_spells_29 (by decide) (fun hbr => absurd hbr (by decide)) (fun _ => ?_)
  refine z_iload C dX12_spells_32 1 rfl ?_
  refine z_ifb_eq C 119 dX12_spells_34 (by decide) (fun h34 => ?_) (fun h34 => ?_)
  · refine z_iload C dX12_spells_119 1 rfl ?_
    refine z_zret C E rfl dX12_spells_121 (zi_nar _) rfl (Nat.le_refl _) ⟨congrArg (fun z => some (Value.int (zi z))) (by rw [h34] at hr ⊢; rw [tIs]; cases h7 : decide (tK b n q = 1) <;> cases h8 : decide (tE b n q - q = zsL.getD 1 0) <;> first | rfl | (rw [show (true && (true && wAll (fun k => decide (b (q + k) = zsC 1 k)) (zsL.getD 1 0))) = wAll (fun k => decide (b (q + k) = zsC 1 k)) 6 from rfl]; rw [h7, show decide (tE b n q - q = 6) = true from h8] at hr; exact (wAll_mono (n := 5) (by decide) (by simpa using hr.symm)).symm)), rfl⟩
  · have hx := hr.symm.trans h34
    simp only [Bool.and_eq_true, decide_eq_true_eq] at hx
    have hEn : tE b n q ≤ n := tE_le hq
    have hqk : q + 5 < n := by omega
    refine z_aload_n C dX12_spells_37 2 rfl rfl ?_
    refine f_get12 C 11 (v := .ref (B.1 + 121)) (by decide) tw_755 rfl zk_113 zb_113 rfl dX12_spells_38 ?_
    refine z_aload_n C dX12_spells_41 2 rfl rfl ?_
    refine f_get12 C 13 (v := .int ((mT s b n q) 113 13)) (by decide) tw_757 rfl zk_113 zb_113 rfl dX12_spells_42 ?_
    refine f_topi (y := nI q) (mT_13 _ _ _ _) ?_
    refine z_iload C dX12_spells_45 0 rfl ?_
    refine z_iadd C dX12_spells_47 ?_
    refine f_topi (y := nI (q + 5)) (nA rfl (b := 5) rfl rfl) ?_
    refine f_ialdL C zk_121 zb_121 (ixN (n := 150) rfl (by omega) (by decide)).1 (j := (q + 5)) (ixN (n := 150) rfl (by omega) (by decide)).2 dX12_spells_48 ?_
    refine f_topi (y := b (q + 5)) (by rw [mT_row _ _ _ _ (by decide), hb]) ?_
    refine z_iload C dX12_spells_49 0 rfl ?_
    refine z_if_ne C 58 dX12_spells_51 (by decide) (fun _ => ?_) (fun hbr => absurd hbr (by decide))
    refine z_iload C dX12_spells_58 0 rfl ?_
    refine z_iconst C dX12_spells_60 ki_1 ?_
    refine z_icmp_ne C 68 dX12_spells_61 (by decide) (fun _ => ?_) (fun hbr => absurd hbr (by decide))
    refine z_iload C dX12_spells_68 0 rfl ?_
    refine z_iconst C dX12_spells_70 ki_2 ?_
    refine z_icmp_ne C 79 dX12_spells_71 (by decide) (fun _ => ?_) (fun hbr => absurd hbr (by decide))
    refine z_iload C dX12_spells_79 0 rfl ?_
    refine z_iconst C dX12_spells_81 ki_3 ?_
    refine z_icmp_ne C 90 dX12_spells_82 (by decide) (fun _ => ?_) (fun hbr => absurd hbr (by decide))
    refine z_iload C dX12_spells_90 0 rfl ?_
    refine z_iconst C dX12_spells_92 ki_4 ?_
    refine z_icmp_ne C 101 dX12_spells_93 (by decide) (fun _ => ?_) (fun hbr => absurd hbr (by decide))
    refine z_iload C dX12_spells_101 9 rfl ?_
    refine z_icmp_ne C 110 dX12_spells_103 (by decide) (fun h103 => ?_) (fun h103 => ?_)
    · refine z_iconst C dX12_spells_110 ki_0 ?_
      refine z_istore C [(8, .int 0), (9, .int 5), (0, .ref (B.1 + 113)), (1, .int 6), (2, .int 100), (3, .int 101), (4, .int 112), (5, .int 117), (6, .int 116), (7, .int 121)] dX12_spells_111 (by decide) rfl ?_
      refine z_iinc C [(9, .int 6), (8, .int 0), (0, .ref (B.1 + 113)), (1, .int 6), (2, .int 100), (3, .int 101), (4, .int 112), (5, .int 117), (6, .int 116), (7, .int 121)] dX12_spells_113 1 rfl (by decide) (by decide) rfl ?_
      refine z_goto C 26 dX12_spells_116 (by decide) ?_
      exact z_lv (lv2 := [(9, .int 6), (8, .int (zi false)), (0, .ref (B.1 + 113)), (1, .int 6), (2, .int 100), (3, .int 101), (4, .int 112), (5, .int 117), (6, .int 116), (7, .int 121)]) [0, 1, 2, 3, 4, 5, 6, 7, 8, 9] rfl (l_X12_spells1_6 hl C b hb n hn h150 q hq false (by rw [wAll, ← Bool.and_assoc, ← hr, h34, show decide (b (q + 5) = zsC 1 5) = false from decide_eq_false h103]; rfl) E)
    · refine z_iconst C dX12_spells_106 ki_1 ?_
      refine z_goto C 111 dX12_spells_107 (by decide) ?_
      refine z_istore C [(8, .int 1), (9, .int 5), (0, .ref (B.1 + 113)), (1, .int 6), (2, .int 100), (3, .int 101), (4, .int 112), (5, .int 117), (6, .int 116), (7, .int 121)] dX12_spells_111 (by decide) rfl ?_
      refine z_iinc C [(9, .int 6), (8, .int 1), (0, .ref (B.1 + 113)), (1, .int 6), (2, .int 100), (3, .int 101), (4, .int 112), (5, .int 117), (6, .int 116), (7, .int 121)] dX12_spells_113 1 rfl (by decide) (by decide) rfl ?_
      refine z_goto C 26 dX12_spells_116 (by decide) ?_
      exact z_lv (lv2 := [(9, .int 6), (8, .int (zi true)), (0, .ref (B.1 + 113)), (1, .int 6), (2, .int 100), (3, .int 101), (4, .int 112), (5, .int 117), (6, .int 116), (7, .int 121)]) [0, 1, 2, 3, 4, 5, 6, 7, 8, 9] rfl (l_X12_spells1_6 hl C b hb n hn h150 q hq true (by rw [wAll, ← Bool.and_assoc, ← hr, h34, show decide (b (q + 5) = zsC 1 5) = true from decide_eq_true h103]; rfl) E)
set_option maxRecDepth 100000 in
set_option maxHeartbeats 4000000 in
theorem l_X12_spells1_4 {l : Launch} {B : zB} {s : zS} {t : zL} {X : zX} (hl : X.2.1 = l) (C : zC X B mX12_spells) (b : Nat → Int32) (hb : s 121 = b) (n : Nat) (hn : s 113 12 = nI n) (h150 : n ≤ 150) (q : Nat) (hq : q ≤ n) (r : Bool) (hr : r = ((decide (tK b n q = 1) && decide (tE b n q - q = 6)) && wAll (fun k => decide (b (q + k) = zsC 1 k)) 4)) (E : zE X B mX12_spells 124 0 0 (zR B (some (.int (zi (tIs b n q 1)))) (mT s b n q) t)) : Zf X B mX12_spells (mT s b n q) t 26 [(9, .int 4), (8, .int (zi r)), (0, .ref (B.1 + 113)), (1, .int 6), (2, .int 100), (3, .int 101), (4, .int 112), (5, .int 117), (6, .int 116), (7, .int 121)] [] := by
  refine z_iload C dX12_spells_26 0 rfl ?_
  refine z_iload_n C dX12_spells_28 3 rfl rfl ?_
  refine z_icmp_ge C 119 dX12_spells_29 (by decide) (fun hbr => absurd hbr (by decide)) (fun _ => ?_)
  refine z_iload C dX12_spells_32 1 rfl ?_
  refine z_ifb_eq C 119 dX12_spells_34 (by decide) (fun h34 => ?_) (fun h34 => ?_)
  · refine z_iload C dX12_spells_119 1 rfl ?_
    refine z_zret C E rfl dX12_spells_121 (zi_nar _) rfl (Nat.le_refl _) ⟨congrArg (fun z => some (Value.int (zi z))) (by rw [h34] at hr ⊢; rw [tIs]; cases h7 : decide (tK b n q = 1) <;> cases h8 : decide (tE b n q - q = zsL.getD 1 0) <;> first | rfl | (rw [show (true && (true && wAll (fun k => decide (b (q + k) = zsC 1 k)) (zsL.getD 1 0))) = wAll (fun k => decide (b (q + k) = zsC 1 k)) 6 from rfl]; rw [h7, show decide (tE b n q - q = 6) = true from h8] at hr; exact (wAll_mono (n := 4) (by decide) (by simpa using hr.symm)).symm)), rfl⟩
  · have hx := hr.symm.trans h34
    simp only [Bool.and_eq_true, decide_eq_true_eq] at hx
    have hEn : tE b n q ≤ n := tE_le hq
    have hqk : q + 4 < n := by omega
    refine z_aload_n C dX12_spells_37 2 rfl rfl ?_
    refine f_get12 C 11 (v := .ref (B.1 + 121)) (by decide) tw_755 rfl zk_113 zb_113 rfl dX12_spells_38 ?_
    refine z_aload_n C dX12_spells_41 2 rfl rfl ?_
    refine f_get12 C 13 (v := .int ((mT s b n q) 113 13)) (by decide) tw_757 rfl zk_113 zb_113 rfl dX12_spells_42 ?_
    refine f_topi (y := nI q) (mT_13 _ _ _ _) ?_
    refine z_iload C dX12_spells_45 0 rfl ?_
    refine z_iadd C dX12_spells_47 ?_
    refine f_topi (y := nI (q + 4)) (nA rfl (b := 4) rfl rfl) ?_
    refine f_ialdL C zk_121 zb_121 (ixN (n := 150) rfl (by omega) (by decide)).1 (j := (q + 4)) (ixN (n := 150) rfl (by omega) (by decide)).2 dX12_spells_48 ?_
    refine f_topi (y := b (q + 4)) (by rw [mT_row _ _ _ _ (by decide), hb]) ?_
    refine z_iload C dX12_spells_49 0 rfl ?_
    refine z_if_ne C 58 dX12_spells_51 (by decide) (fun _ => ?_) (fun hbr => absurd hbr (by decide))
    refine z_iload C dX12_spells_58 0 rfl ?_
    refine z_iconst C dX12_spells_60 ki_1 ?_
    refine z_icmp_ne C 68 dX12_spells_61 (by decide) (fun _ => ?_) (fun hbr => absurd hbr (by decide))
    refine z_iload C dX12_spells_68 0 rfl ?_
    refine z_iconst C dX12_spells_70 ki_2 ?_
    refine z_icmp_ne C 79 dX12_spells_71 (by decide) (fun _ => ?_) (fun hbr => absurd hbr (by decide))
    refine z_iload C dX12_spells_79 0 rfl ?_
    refine z_iconst C dX12_spells_81 ki_3 ?_
    refine z_icmp_ne C 90 dX12_spells_82 (by decide) (fun _ => ?_) (fun hbr => absurd hbr (by decide))
    refine z_iload C dX12_spells_90 0 rfl ?_
    refine z_iconst C dX12_spells_92 ki_4 ?_
    refine z_icmp_ne C 101 dX12_spells_93 (by decide) (fun hbr => absurd (by decide) hbr) (fun _ => ?_)
    refine z_iload C dX12_spells_96 8 rfl ?_
    refine z_goto C 103 dX12_spells_98 (by decide) ?_
    refine z_icmp_ne C 110 dX12_spells_103 (by decide) (fun h103 => ?_) (fun h103 => ?_)
    · refine z_iconst C dX12_spells_110 ki_0 ?_
      refine z_istore C [(8, .int 0), (9, .int 4), (0, .ref (B.1 + 113)), (1, .int 6), (2, .int 100), (3, .int 101), (4, .int 112), (5, .int 117), (6, .int 116), (7, .int 121)] dX12_spells_111 (by decide) rfl ?_
      refine z_iinc C [(9, .int 5), (8, .int 0), (0, .ref (B.1 + 113)), (1, .int 6), (2, .int 100), (3, .int 101), (4, .int 112), (5, .int 117), (6, .int 116), (7, .int 121)] dX12_spells_113 1 rfl (by decide) (by decide) rfl ?_
      refine z_goto C 26 dX12_spells_116 (by decide) ?_
      exact z_lv (lv2 := [(9, .int 5), (8, .int (zi false)), (0, .ref (B.1 + 113)), (1, .int 6), (2, .int 100), (3, .int 101), (4, .int 112), (5, .int 117), (6, .int 116), (7, .int 121)]) [0, 1, 2, 3, 4, 5, 6, 7, 8, 9] rfl (l_X12_spells1_5 hl C b hb n hn h150 q hq false (by rw [wAll, ← Bool.and_assoc, ← hr, h34, show decide (b (q + 4) = zsC 1 4) = false from decide_eq_false h103]; rfl) E)
    · refine z_iconst C dX12_spells_106 ki_1 ?_
      refine z_goto C 111 dX12_spells_107 (by decide) ?_
      refine z_istore C [(8, .int 1), (9, .int 4), (0, .ref (B.1 + 113)), (1, .int 6), (2, .int 100), (3, .int 101), (4, .int 112), (5, .int 117), (6, .int 116), (7, .int 121)] dX12_spells_111 (by decide) rfl ?_
      refine z_iinc C [(9, .int 5), (8, .int 1), (0, .ref (B.1 + 113)), (1, .int 6), (2, .int 100), (3, .int 101), (4, .int 112), (5, .int 117), (6, .int 116), (7, .int 121)] dX12_spells_113 1 rfl (by decide) (by decide) rfl ?_
      refine z_goto C 26 dX12_spells_116 (by decide) ?_
      exact z_lv (lv2 := [(9, .int 5), (8, .int (zi true)), (0, .ref (B.1 + 113)), (1, .int 6), (2, .int 100), (3, .int 101), (4, .int 112), (5, .int 117), (6, .int 116), (7, .int 121)]) [0, 1, 2, 3, 4, 5, 6, 7, 8, 9] rfl (l_X12_spells1_5 hl C b hb n hn h150 q hq true (by rw [wAll, ← Bool.and_assoc, ← hr, h34, show decide (b (q + 4) = zsC 1 4) = true from decide_eq_true h103]; rfl) E)
set_option maxRecDepth 100000 in
set_option maxHeartbeats 4000000 in
theorem l_X12_spells1_3 {l : Launch} {B : zB} {s : zS} {t : zL} {X : zX} (hl : X.2.1 = l) (C : zC X B mX12_spells) (b : Nat → Int32) (hb : s 121 = b) (n : Nat) (hn : s 113 12 = nI n) (h150 : n ≤ 150) (q : Nat) (hq : q ≤ n) (r : Bool) (hr : r = ((decide (tK b n q = 1) && decide (tE b n q - q = 6)) && wAll (fun k => decide (b (q + k) = zsC 1 k)) 3)) (E : zE X B mX12_spells 124 0 0 (zR B (some (.int (zi (tIs b n q 1)))) (mT s b n q) t)) : Zf X B mX12_spells (mT s b n q) t 26 [(9, .int 3), (8, .int (zi r)), (0, .ref (B.1 + 113)), (1, .int 6), (2, .int 100), (3, .int 101), (4, .int 112), (5, .int 117), (6, .int 116), (7, .int 121)] [] := by
  refine z_iload C dX12_spells_26 0 rfl ?_
  refine z_iload_n C dX12_spells_28 3 rfl rfl ?_
  refine z_icmp_ge C 119 dX12_spells_29 (by decide) (fun hbr => absurd hbr (by decide)) (fun _ => ?_)
  refine z_iload C dX12_spells_32 1 rfl ?_
  refine z_ifb_eq C 119 dX12_spells_34 (by decide) (fun h34 => ?_) (fun h34 => ?_)
  · refine z_iload C dX12_spells_119 1 rfl ?_
    refine z_zret C E rfl dX12_spells_121 (zi_nar _) rfl (Nat.le_refl _) ⟨congrArg (fun z => some (Value.int (zi z))) (by rw [h34] at hr ⊢; rw [tIs]; cases h7 : decide (tK b n q = 1) <;> cases h8 : decide (tE b n q - q = zsL.getD 1 0) <;> first | rfl | (rw [show (true && (true && wAll (fun k => decide (b (q + k) = zsC 1 k)) (zsL.getD 1 0))) = wAll (fun k => decide (b (q + k) = zsC 1 k)) 6 from rfl]; rw [h7, show decide (tE b n q - q = 6) = true from h8] at hr; exact (wAll_mono (n := 3) (by decide) (by simpa using hr.symm)).symm)), rfl⟩
  · have hx := hr.symm.trans h34
    simp only [Bool.and_eq_true, decide_eq_true_eq] at hx
    have hEn : tE b n q ≤ n := tE_le hq
    have hqk : q + 3 < n := by omega
    refine z_aload_n C dX12_spells_37 2 rfl rfl ?_
    refine f_get12 C 11 (v := .ref (B.1 + 121)) (by decide) tw_755 rfl zk_113 zb_113 rfl dX12_spells_38 ?_
    refine z_aload_n C dX12_spells_41 2 rfl rfl ?_
    refine f_get12 C 13 (v := .int ((mT s b n q) 113 13)) (by decide) tw_757 rfl zk_113 zb_113 rfl dX12_spells_42 ?_
    refine f_topi (y := nI q) (mT_13 _ _ _ _) ?_
    refine z_iload C dX12_spells_45 0 rfl ?_
    refine z_iadd C dX12_spells_47 ?_
    refine f_topi (y := nI (q + 3)) (nA rfl (b := 3) rfl rfl) ?_
    refine f_ialdL C zk_121 zb_121 (ixN (n := 150) rfl (by omega) (by decide)).1 (j := (q + 3)) (ixN (n := 150) rfl (by omega) (by decide)).2 dX12_spells_48 ?_
    refine f_topi (y := b (q + 3)) (by rw [mT_row _ _ _ _ (by decide), hb]) ?_
    refine z_iload C dX12_spells_49 0 rfl ?_
    refine z_if_ne C 58 dX12_spells_51 (by decide) (fun _ => ?_) (fun hbr => absurd hbr (by decide))
    refine z_iload C dX12_spells_58 0 rfl ?_
    refine z_iconst C dX12_spells_60 ki_1 ?_
    refine z_icmp_ne C 68 dX12_spells_61 (by decide) (fun _ => ?_) (fun hbr => absurd hbr (by decide))
    refine z_iload C dX12_spells_68 0 rfl ?_
    refine z_iconst C dX12_spells_70 ki_2 ?_
    refine z_icmp_ne C 79 dX12_spells_71 (by decide) (fun _ => ?_) (fun hbr => absurd hbr (by decide))
    refine z_iload C dX12_spells_79 0 rfl ?_
    refine z_iconst C dX12_spells_81 ki_3 ?_
    refine z_icmp_ne C 90 dX12_spells_82 (by decide) (fun hbr => absurd (by decide) hbr) (fun _ => ?_)
    refine z_iload C dX12_spells_85 7 rfl ?_
    refine z_goto C 103 dX12_spells_87 (by decide) ?_
    refine z_icmp_ne C 110 dX12_spells_103 (by decide) (fun h103 => ?_) (fun h103 => ?_)
    · refine z_iconst C dX12_spells_110 ki_0 ?_
      refine z_istore C [(8, .int 0), (9, .int 3), (0, .ref (B.1 + 113)), (1, .int 6), (2, .int 100), (3, .int 101), (4, .int 112), (5, .int 117), (6, .int 116), (7, .int 121)] dX12_spells_111 (by decide) rfl ?_
      refine z_iinc C [(9, .int 4), (8, .int 0), (0, .ref (B.1 + 113)), (1, .int 6), (2, .int 100), (3, .int 101), (4, .int 112), (5, .int 117), (6, .int 116), (7, .int 121)] dX12_spells_113 1 rfl (by decide) (by decide) rfl ?_
      refine z_goto C 26 dX12_spells_116 (by decide) ?_
      exact z_lv (lv2 := [(9, .int 4), (8, .int (zi false)), (0, .ref (B.1 + 113)), (1, .int 6), (2, .int 100), (3, .int 101), (4, .int 112), (5, .int 117), (6, .int 116), (7, .int 121)]) [0, 1, 2, 3, 4, 5, 6, 7, 8, 9] rfl (l_X12_spells1_4 hl C b hb n hn h150 q hq false (by rw [wAll, ← Bool.and_assoc, ← hr, h34, show decide (b (q + 3) = zsC 1 3) = false from decide_eq_false h103]; rfl) E)
    · refine z_iconst C dX12_spells_106 ki_1 ?_
      refine z_goto C 111 dX12_spells_107 (by decide) ?_
      refine z_istore C [(8, .int 1), (9, .int 3), (0, .ref (B.1 + 113)), (1, .int 6), (2, .int 100), (3, .int 101), (4, .int 112), (5, .int 117), (6, .int 116), (7, .int 121)] dX12_spells_111 (by decide) rfl ?_
      refine z_iinc C [(9, .int 4), (8, .int 1), (0, .ref (B.1 + 113)), (1, .int 6), (2, .int 100), (3, .int 101), (4, .int 112), (5, .int 117), (6, .int 116), (7, .int 121)] dX12_spells_113 1 rfl (by decide) (by decide) rfl ?_
      refine z_goto C 26 dX12_spells_116 (by decide) ?_
      exact z_lv (lv2 := [(9, .int 4), (8, .int (zi true)), (0, .ref (B.1 + 113)), (1, .int 6), (2, .int 100), (3, .int 101), (4, .int 112), (5, .int 117), (6, .int 116), (7, .int 121)]) [0, 1, 2, 3, 4, 5, 6, 7, 8, 9] rfl (l_X12_spells1_4 hl C b hb n hn h150 q hq true (by rw [wAll, ← Bool.and_assoc, ← hr, h34, show decide (b (q + 3) = zsC 1 3) = true from decide_eq_true h103]; rfl) E)
set_option maxRecDepth 100000 in
set_option maxHeartbeats 4000000 in
theorem l_X12_spells1_2 {l : Launch} {B : zB} {s : zS} {t : zL} {X : zX} (hl : X.2.1 = l) (C : zC X B mX12_spells) (b : Nat → Int32) (hb : s 121 = b) (n : Nat) (hn : s 113 12 = nI n) (h150 : n ≤ 150) (q : Nat) (hq : q ≤ n) (r : Bool) (hr : r = ((decide (tK b n q = 1) && decide (tE b n q - q = 6)) && wAll (fun k => decide (b (q + k) = zsC 1 k)) 2)) (E : zE X B mX12_spells 124 0 0 (zR B (some (.int (zi (tIs b n q 1)))) (mT s b n q) t)) : Zf X B mX12_spells (mT s b n q) t 26 [(9, .int 2), (8, .int (zi r)), (0, .ref (B.1 + 113)), (1, .int 6), (2, .int 100), (3, .int 101), (4, .int 112), (5, .int 117), (6, .int 116), (7, .int 121)] [] := by
  refine z_iload C dX12_spells_26 0 rfl ?_
  refine z_iload_n C dX12_spells_28 3 rfl rfl ?_
  refine z_icmp_ge C 119 dX12_spells_29 (by decide) (fun hbr => absurd hbr (by decide)) (fun _ => ?_)
  refine z_iload C dX12_spells_32 1 rfl ?_
  refine z_ifb_eq C 119 dX12_spells_34 (by decide) (fun h34 => ?_) (fun h34 => ?_)
  · refine z_iload C dX12_spells_119 1 rfl ?_
    refine z_zret C E rfl dX12_spells_121 (zi_nar _) rfl (Nat.le_refl _) ⟨congrArg (fun z => some (Value.int (zi z))) (by rw [h34] at hr ⊢; rw [tIs]; cases h7 : decide (tK b n q = 1) <;> cases h8 : decide (tE b n q - q = zsL.getD 1 0) <;> first | rfl | (rw [show (true && (true && wAll (fun k => decide (b (q + k) = zsC 1 k)) (zsL.getD 1 0))) = wAll (fun k => decide (b (q + k) = zsC 1 k)) 6 from rfl]; rw [h7, show decide (tE b n q - q = 6) = true from h8] at hr; exact (wAll_mono (n := 2) (by decide) (by simpa using hr.symm)).symm)), rfl⟩
  · have hx := hr.symm.trans h34
    simp only [Bool.and_eq_true, decide_eq_true_eq] at hx
    have hEn : tE b n q ≤ n := tE_le hq
    have hqk : q + 2 < n := by omega
    refine z_aload_n C dX12_spells_37 2 rfl rfl ?_
    refine f_get12 C 11 (v := .ref (B.1 + 121)) (by decide) tw_755 rfl zk_113 zb_113 rfl dX12_spells_38 ?_
    refine z_aload_n C dX12_spells_41 2 rfl rfl ?_
    refine f_get12 C 13 (v := .int ((mT s b n q) 113 13)) (by decide) tw_757 rfl zk_113 zb_113 rfl dX12_spells_42 ?_
    refine f_topi (y := nI q) (mT_13 _ _ _ _) ?_
    refine z_iload C dX12_spells_45 0 rfl ?_
    refine z_iadd C dX12_spells_47 ?_
    refine f_topi (y := nI (q + 2)) (nA rfl (b := 2) rfl rfl) ?_
    refine f_ialdL C zk_121 zb_121 (ixN (n := 150) rfl (by omega) (by decide)).1 (j := (q + 2)) (ixN (n := 150) rfl (by omega) (by decide)).2 dX12_spells_48 ?_
    refine f_topi (y := b (q + 2)) (by rw [mT_row _ _ _ _ (by decide), hb]) ?_
    refine z_iload C dX12_spells_49 0 rfl ?_
    refine z_if_ne C 58 dX12_spells_51 (by decide) (fun _ => ?_) (fun hbr => absurd hbr (by decide))
    refine z_iload C dX12_spells_58 0 rfl ?_
    refine z_iconst C dX12_spells_60 ki_1 ?_
    refine z_icmp_ne C 68 dX12_spells_61 (by decide) (fun _ => ?_) (fun hbr => absurd hbr (by decide))
    refine z_iload C dX12_spells_68 0 rfl ?_
    refine z_iconst C dX12_spells_70 ki_2 ?_
    refine z_icmp_ne C 79 dX12_spells_71 (by decide) (fun hbr => absurd (by decide) hbr) (fun _ => ?_)
    refine z_iload C dX12_spells_74 6 rfl ?_
    refine z_goto C 103 dX12_spells_76 (by decide) ?_
    refine z_icmp_ne C 110 dX12_spells_103 (by decide) (fun h103 => ?_) (fun h103 => ?_)
    · refine z_iconst C dX12_spells_110 ki_0 ?_
      refine z_istore C [(8, .int 0), (9, .int 2), (0, .ref (B.1 + 113)), (1, .int 6), (2, .int 100), (3, .int 101), (4, .int 112), (5, .int 117), (6, .int 116), (7, .int 121)] dX12_spells_111 (by decide) rfl ?_
      refine z_iinc C [(9, .int 3), (8, .int 0), (0, .ref (B.1 + 113)), (1, .int 6), (2, .int 100), (3, .int 101), (4, .int 112), (5, .int 117), (6, .int 116), (7, .int 121)] dX12_spells_113 1 rfl (by decide) (by decide) rfl ?_
      refine z_goto C 26 dX12_spells_116 (by decide) ?_
      exact z_lv (lv2 := [(9, .int 3), (8, .int (zi false)), (0, .ref (B.1 + 113)), (1, .int 6), (2, .int 100), (3, .int 101), (4, .int 112), (5, .int 117), (6, .int 116), (7, .int 121)]) [0, 1, 2, 3, 4, 5, 6, 7, 8, 9] rfl (l_X12_spells1_3 hl C b hb n hn h150 q hq false (by rw [wAll, ← Bool.and_assoc, ← hr, h34, show decide (b (q + 2) = zsC 1 2) = false from decide_eq_false h103]; rfl) E)
    · refine z_iconst C dX12_spells_106 ki_1 ?_
      refine z_goto C 111 dX12_spells_107 (by decide) ?_
      refine z_istore C [(8, .int 1), (9, .int 2), (0, .ref (B.1 + 113)), (1, .int 6), (2, .int 100), (3, .int 101), (4, .int 112), (5, .int 117), (6, .int 116), (7, .int 121)] dX12_spells_111 (by decide) rfl ?_
      refine z_iinc C [(9, .int 3), (8, .int 1), (0, .ref (B.1 + 113)), (1, .int 6), (2, .int 100), (3, .int 101), (4, .int 112), (5, .int 117), (6, .int 116), (7, .int 121)] dX12_spells_113 1 rfl (by decide) (by decide) rfl ?_
      refine z_goto C 26 dX12_spells_116 (by decide) ?_
      exact z_lv (lv2 := [(9, .int 3), (8, .int (zi true)), (0, .ref (B.1 + 113)), (1, .int 6), (2, .int 100), (3, .int 101), (4, .int 112), (5, .int 117), (6, .int 116), (7, .int 121)]) [0, 1, 2, 3, 4, 5, 6, 7, 8, 9] rfl (l_X12_spells1_3 hl C b hb n hn h150 q hq true (by rw [wAll, ← Bool.and_assoc, ← hr, h34, show decide (b (q + 2) = zsC 1 2) = true from decide_eq_true h103]; rfl) E)
set_option maxRecDepth 100000 in
set_option maxHeartbeats 4000000 in
theorem l_X12_spells1_1 {l : Launch} {B : zB} {s : zS} {t : zL} {X : zX} (hl : X.2.1 = l) (C : zC X B mX12_spells) (b : Nat → Int32) (hb : s 121 = b) (n : Nat) (hn : s 113 12 = nI n) (h150 : n ≤ 150) (q : Nat) (hq : q ≤ n) (r : Bool) (hr : r = ((decide (tK b n q = 1) && decide (tE b n q - q = 6)) && wAll (fun k => decide (b (q + k) = zsC 1 k)) 1)) (E : zE X B mX12_spells 124 0 0 (zR B (some (.int (zi (tIs b n q 1)))) (mT s b n q) t)) : Zf X B mX12_spells (mT s b n q) t 26 [(9, .int 1), (8, .int (zi r)), (0, .ref (B.1 + 113)), (1, .int 6), (2, .int 100), (3, .int 101), (4, .int 112), (5, .int 117), (6, .int 116), (7, .int 121)] [] := by
  refine z_iload C dX12_spells_26 0 rfl ?_
  refine z_iload_n C dX12_spells_28 3 rfl rfl ?_
  refine z_icmp_ge C 119 dX12_spells_29 (by decide) (fun hbr => absurd hbr (by decide)) (fun _ => ?_)
  refine z_iload C dX12_spells_32 1 rfl ?_
  refine z_ifb_eq C 119 dX12_spells_34 (by decide) (fun h34 => ?_) (fun h34 => ?_)
  · refine z_iload C dX12_spells_119 1 rfl ?_
    refine z_zret C E rfl dX12_spells_121 (zi_nar _) rfl (Nat.le_refl _) ⟨congrArg (fun z => some (Value.int (zi z))) (by rw [h34] at hr ⊢; rw [tIs]; cases h7 : decide (tK b n q = 1) <;> cases h8 : decide (tE b n q - q = zsL.getD 1 0) <;> first | rfl | (rw [show (true && (true && wAll (fun k => decide (b (q + k) = zsC 1 k)) (zsL.getD 1 0))) = wAll (fun k => decide (b (q + k) = zsC 1 k)) 6 from rfl]; rw [h7, show decide (tE b n q - q = 6) = true from h8] at hr; exact (wAll_mono (n := 1) (by decide) (by simpa using hr.symm)).symm)), rfl⟩
  · have hx := hr.symm.trans h34
    simp only [Bool.and_eq_true, decide_eq_true_eq] at hx
    have hEn : tE b n q ≤ n := tE_le hq
    have hqk : q + 1 < n := by omega
    refine z_aload_n C dX12_spells_37 2 rfl rfl ?_
    refine f_get12 C 11 (v := .ref (B.1 + 121)) (by decide) tw_755 rfl zk_113 zb_113 rfl dX12_spells_38 ?_
    refine z_aload_n C dX12_spells_41 2 rfl rfl ?_
    refine f_get12 C 13 (v := .int ((mT s b n q) 113 13)) (by decide) tw_757 rfl zk_113 zb_113 rfl dX12_spells_42 ?_
    refine f_topi (y := nI q) (mT_13 _ _ _ _) ?_
    refine z_iload C dX12_spells_45 0 rfl ?_
    refine z_iadd C dX12_spells_47 ?_
    refine f_topi (y := nI (q + 1)) (nA rfl (b := 1) rfl rfl) ?_
    refine f_ialdL C zk_121 zb_121 (ixN (n := 150) rfl (by omega) (by decide)).1 (j := (q + 1)) (ixN (n := 150) rfl (by omega) (by decide)).2 dX12_spells_48 ?_
    refine f_topi (y := b (q + 1)) (by rw [mT_row _ _ _ _ (by decide), hb]) ?_
    refine z_iload C dX12_spells_49 0 rfl ?_
    refine z_if_ne C 58 dX12_spells_51 (by decide) (fun _ => ?_) (fun hbr => absurd hbr (by decide))
    refine z_iload C dX12_spells_58 0 rfl ?_
    refine z_iconst C dX12_spells_60 ki_1 ?_
    refine z_icmp_ne C 68 dX12_spells_61 (by decide) (fun hbr => absurd (by decide) hbr) (fun _ => ?_)
    refine z_iload_n C dX12_spells_64 5 rfl rfl ?_
    refine z_goto C 103 dX12_spells_65 (by decide) ?_
    refine z_icmp_ne C 110 dX12_spells_103 (by decide) (fun h103 => ?_) (fun h103 => ?_)
    · refine z_iconst C dX12_spells_110 ki_0 ?_
      refine z_istore C [(8, .int 0), (9, .int 1), (0, .ref (B.1 + 113)), (1, .int 6), (2, .int 100), (3, .int 101), (4, .int 112), (5, .int 117), (6, .int 116), (7, .int 121)] dX12_spells_111 (by decide) rfl ?_
      refine z_iinc C [(9, .int 2), (8, .int 0), (0, .ref (B.1 + 113)), (1, .int 6), (2, .int 100), (3, .int 101), (4, .int 112), (5, .int 117), (6, .int 116), (7, .int 121)] dX12_spells_113 1 rfl (by decide) (by decide) rfl ?_
      refine z_goto C 26 dX12_spells_116 (by decide) ?_
      exact z_lv (lv2 := [(9, .int 2), (8, .int (zi false)), (0, .ref (B.1 + 113)), (1, .int 6), (2, .int 100), (3, .int 101), (4, .int 112), (5, .int 117), (6, .int 116), (7, .int 121)]) [0, 1, 2, 3, 4, 5, 6, 7, 8, 9] rfl (l_X12_spells1_2 hl C b hb n hn h150 q hq false (by rw [wAll, ← Bool.and_assoc, ← hr, h34, show decide (b (q + 1) = zsC 1 1) = false from decide_eq_false h103]; rfl) E)
    · refine z_iconst C dX12_spells_106 ki_1 ?_
      refine z_goto C 111 dX12_spells_107 (by decide) ?_
      refine z_istore C [(8, .int 1), (9, .int 1), (0, .ref (B.1 + 113)), (1, .int 6), (2, .int 100), (3, .int 101), (4, .int 112), (5, .int 117), (6, .int 116), (7, .int 121)] dX12_spells_111 (by decide) rfl ?_
      refine z_iinc C [(9, .int 2), (8, .int 1), (0, .ref (B.1 + 113)), (1, .int 6), (2, .int 100), (3, .int 101), (4, .int 112), (5, .int 117), (6, .int 116), (7, .int 121)] dX12_spells_113 1 rfl (by decide) (by decide) rfl ?_
      refine z_goto C 26 dX12_spells_116 (by decide) ?_
      exact z_lv (lv2 := [(9, .int 2), (8, .int (zi true)), (0, .ref (B.1 + 113)), (1, .int 6), (2, .int 100), (3, .int 101), (4, .int 112), (5, .int 117), (6, .int 116), (7, .int 121)]) [0, 1, 2, 3, 4, 5, 6, 7, 8, 9] rfl (l_X12_spells1_2 hl C b hb n hn h150 q hq true (by rw [wAll, ← Bool.and_assoc, ← hr, h34, show decide (b (q + 1) = zsC 1 1) = true from decide_eq_true h103]; rfl) E)
set_option maxRecDepth 100000 in
set_option maxHeartbeats 4000000 in
theorem l_X12_spells1_0 {l : Launch} {B : zB} {s : zS} {t : zL} {X : zX} (hl : X.2.1 = l) (C : zC X B mX12_spells) (b : Nat → Int32) (hb : s 121 = b) (n : Nat) (hn : s 113 12 = nI n) (h150 : n ≤ 150) (q : Nat) (hq : q ≤ n) (r : Bool) (hr : r = ((decide (tK b n q = 1) && decide (tE b n q - q = 6)) && wAll (fun k => decide (b (q + k) = zsC 1 k)) 0)) (E : zE X B mX12_spells 124 0 0 (zR B (some (.int (zi (tIs b n q 1)))) (mT s b n q) t)) : Zf X B mX12_spells (mT s b n q) t 26 [(9, .int 0), (8, .int (zi r)), (0, .ref (B.1 + 113)), (1, .int 6), (2, .int 100), (3, .int 101), (4, .int 112), (5, .int 117), (6, .int 116), (7, .int 121)] [] := by
  refine z_iload C dX12_spells_26 0 rfl ?_
  refine z_iload_n C dX12_spells_28 3 rfl rfl ?_
  refine z_icmp_ge C 119 dX12_spells_29 (by decide) (fun hbr => absurd hbr (by decide)) (fun _ => ?_)
  refine z_iload C dX12_spells_32 1 rfl ?_
  refine z_ifb_eq C 119 dX12_spells_34 (by decide) (fun h34 => ?_) (fun h34 => ?_)
  · refine z_iload C dX12_spells_119 1 rfl ?_
    refine z_zret C E rfl dX12_spells_121 (zi_nar _) rfl (Nat.le_refl _) ⟨congrArg (fun z => some (Value.int (zi z))) (by rw [h34] at hr ⊢; rw [tIs]; cases h7 : decide (tK b n q = 1) <;> cases h8 : decide (tE b n q - q = zsL.getD 1 0) <;> first | rfl | (rw [show (true && (true && wAll (fun k => decide (b (q + k) = zsC 1 k)) (zsL.getD 1 0))) = wAll (fun k => decide (b (q + k) = zsC 1 k)) 6 from rfl]; rw [h7, show decide (tE b n q - q = 6) = true from h8] at hr; exact (wAll_mono (n := 0) (by decide) (by simpa using hr.symm)).symm)), rfl⟩
  · have hx := hr.symm.trans h34
    simp only [Bool.and_eq_true, decide_eq_true_eq] at hx
    have hEn : tE b n q ≤ n := tE_le hq
    have hqk : q + 0 < n := by omega
    refine z_aload_n C dX12_spells_37 2 rfl rfl ?_
    refine f_get12 C 11 (v := .ref (B.1 + 121)) (by decide) tw_755 rfl zk_113 zb_113 rfl dX12_spells_38 ?_
    refine z_aload_n C dX12_spells_41 2 rfl rfl ?_
    refine f_get12 C 13 (v := .int ((mT s b n q) 113 13)) (by decide) tw_757 rfl zk_113 zb_113 rfl dX12_spells_42 ?_
    refine f_topi (y := nI q) (mT_13 _ _ _ _) ?_
    refine z_iload C dX12_spells_45 0 rfl ?_
    refine z_iadd C dX12_spells_47 ?_
    refine f_topi (y := nI (q + 0)) (nA rfl (b := 0) rfl rfl) ?_
    refine f_ialdL C zk_121 zb_121 (ixN (n := 150) rfl (by omega) (by decide)).1 (j := (q + 0)) (ixN (n := 150) rfl (by omega) (by decide)).2 dX12_spells_48 ?_
    refine f_topi (y := b (q + 0)) (by rw [mT_row _ _ _ _ (by decide), hb]) ?_
    refine z_iload C dX12_spells_49 0 rfl ?_
    refine z_if_ne C 58 dX12_spells_51 (by decide) (fun hbr => absurd (by decide) hbr) (fun _ => ?_)
    refine z_iload_n C dX12_spells_54 4 rfl rfl ?_
    refine z_goto C 103 dX12_spells_55 (by decide) ?_
    refine z_icmp_ne C 110 dX12_spells_103 (by decide) (fun h103 => ?_) (fun h103 => ?_)
    · refine z_iconst C dX12_spells_110 ki_0 ?_
      refine z_istore C [(8, .int 0), (9, .int 0), (0, .ref (B.1 + 113)), (1, .int 6), (2, .int 100), (3, .int 101), (4, .int 112), (5, .int 117), (6, .int 116), (7, .int 121)] dX12_spells_111 (by decide) rfl ?_
      refine z_iinc C [(9, .int 1), (8, .int 0), (0, .ref (B.1 + 113)), (1, .int 6), (2, .int 100), (3, .int 101), (4, .int 112), (5, .int 117), (6, .int 116), (7, .int 121)] dX12_spells_113 1 rfl (by decide) (by decide) rfl ?_
      refine z_goto C 26 dX12_spells_116 (by decide) ?_
      exact z_lv (lv2 := [(9, .int 1), (8, .int (zi false)), (0, .ref (B.1 + 113)), (1, .int 6), (2, .int 100), (3, .int 101), (4, .int 112), (5, .int 117), (6, .int 116), (7, .int 121)]) [0, 1, 2, 3, 4, 5, 6, 7, 8, 9] rfl (l_X12_spells1_1 hl C b hb n hn h150 q hq false (by rw [wAll, ← Bool.and_assoc, ← hr, h34, show decide (b (q + 0) = zsC 1 0) = false from decide_eq_false h103]; rfl) E)
    · refine z_iconst C dX12_spells_106 ki_1 ?_
      refine z_goto C 111 dX12_spells_107 (by decide) ?_
      refine z_istore C [(8, .int 1), (9, .int 0), (0, .ref (B.1 + 113)), (1, .int 6), (2, .int 100), (3, .int 101), (4, .int 112), (5, .int 117), (6, .int 116), (7, .int 121)] dX12_spells_111 (by decide) rfl ?_
      refine z_iinc C [(9, .int 1), (8, .int 1), (0, .ref (B.1 + 113)), (1, .int 6), (2, .int 100), (3, .int 101), (4, .int 112), (5, .int 117), (6, .int 116), (7, .int 121)] dX12_spells_113 1 rfl (by decide) (by decide) rfl ?_
      refine z_goto C 26 dX12_spells_116 (by decide) ?_
      exact z_lv (lv2 := [(9, .int 1), (8, .int (zi true)), (0, .ref (B.1 + 113)), (1, .int 6), (2, .int 100), (3, .int 101), (4, .int 112), (5, .int 117), (6, .int 116), (7, .int 121)]) [0, 1, 2, 3, 4, 5, 6, 7, 8, 9] rfl (l_X12_spells1_1 hl C b hb n hn h150 q hq true (by rw [wAll, ← Bool.and_assoc, ← hr, h34, show decide (b (q + 0) = zsC 1 0) = true from decide_eq_true h103]; rfl) E)
set_option maxRecDepth 100000 in
set_option maxHeartbeats 4000000 in
theorem c_X12_spells1 (l : Launch) (B : zB) (s : zS) (t : zL) (b : Nat → Int32) (hb : s 121 = b) (n : Nat) (hn : s 113 12 = nI n) (h150 : n ≤ 150) (q : Nat) (hq : q ≤ n) : zD l B mX12_spells (mT s b n q) t [.ref (B.1 + 113), .int 6, .int 100, .int 101, .int 112, .int 117, .int 116, .int 121] (some (.int (zi (tIs b n q 1)))) (mT s b n q) t := by
  have hEn : tE b n q ≤ n := tE_le hq
  refine z_met (by decide) (Nat.le_of_ble_eq_true rfl) ?_
  intro X hl C E hnm
  show Zf X B mX12_spells (mT s b n q) t 0 [(0, .ref (B.1 + 113)), (1, .int 6), (2, .int 100), (3, .int 101), (4, .int 112), (5, .int 117), (6, .int 116), (7, .int 121)] []
  refine z_aload_n C dX12_spells_0 0 rfl rfl ?_
  refine f_get12 C 15 (v := .int ((mT s b n q) 113 15)) (by decide) tw_759 rfl zk_113 zb_113 rfl dX12_spells_1 ?_
  refine f_topi (y := tK b n q) (mT_15 _ _ _ _) ?_
  refine z_iconst C dX12_spells_4 ki_1 ?_
  refine z_icmp_ne C 20 dX12_spells_5 (by decide) (fun h5 => ?_) (fun h5 => ?_)
  · refine z_iconst C dX12_spells_20 ki_0 ?_
    refine z_istore C [(8, .int 0), (0, .ref (B.1 + 113)), (1, .int 6), (2, .int 100), (3, .int 101), (4, .int 112), (5, .int 117), (6, .int 116), (7, .int 121)] dX12_spells_21 (by decide) rfl ?_
    refine z_iconst C dX12_spells_23 ki_0 ?_
    refine z_istore C [(9, .int 0), (8, .int 0), (0, .ref (B.1 + 113)), (1, .int 6), (2, .int 100), (3, .int 101), (4, .int 112), (5, .int 117), (6, .int 116), (7, .int 121)] dX12_spells_24 (by decide) rfl ?_
    exact z_lv (lv2 := [(9, .int 0), (8, .int (zi false)), (0, .ref (B.1 + 113)), (1, .int 6), (2, .int 100), (3, .int 101), (4, .int 112), (5, .int 117), (6, .int 116), (7, .int 121)]) [0, 1, 2, 3, 4, 5, 6, 7, 8, 9] rfl (l_X12_spells1_0 hl C b hb n hn h150 q hq false (by rw [decide_eq_false h5]; rfl) E)
  · refine z_aload_n C dX12_spells_8 0 rfl rfl ?_
    refine f_get12 C 14 (v := .int ((mT s b n q) 113 14)) (by decide) tw_758 rfl zk_113 zb_113 rfl dX12_spells_9 ?_
    refine f_topi (y := nI (tE b n q - q)) (mT_14 _ _ _ _) ?_
    refine z_iload_n C dX12_spells_12 1 rfl rfl ?_
    refine z_icmp_ne C 20 dX12_spells_13 (by decide) (fun h13 => ?_) (fun h13 => ?_)
    · refine z_iconst C dX12_spells_20 ki_0 ?_
      refine z_istore C [(8, .int 0), (0, .ref (B.1 + 113)), (1, .int 6), (2, .int 100), (3, .int 101), (4, .int 112), (5, .int 117), (6, .int 116), (7, .int 121)] dX12_spells_21 (by decide) rfl ?_
      refine z_iconst C dX12_spells_23 ki_0 ?_
      refine z_istore C [(9, .int 0), (8, .int 0), (0, .ref (B.1 + 113)), (1, .int 6), (2, .int 100), (3, .int 101), (4, .int 112), (5, .int 117), (6, .int 116), (7, .int 121)] dX12_spells_24 (by decide) rfl ?_
      exact z_lv (lv2 := [(9, .int 0), (8, .int (zi false)), (0, .ref (B.1 + 113)), (1, .int 6), (2, .int 100), (3, .int 101), (4, .int 112), (5, .int 117), (6, .int 116), (7, .int 121)]) [0, 1, 2, 3, 4, 5, 6, 7, 8, 9] rfl (l_X12_spells1_0 hl C b hb n hn h150 q hq false (by rw [decide_eq_true h5, decide_eq_false (fun y => h13 (by rw [y]; rfl))]; rfl) E)
    · refine z_iconst C dX12_spells_16 ki_1 ?_
      refine z_goto C 21 dX12_spells_17 (by decide) ?_
      refine z_istore C [(8, .int 1), (0, .ref (B.1 + 113)), (1, .int 6), (2, .int 100), (3, .int 101), (4, .int 112), (5, .int 117), (6, .int 116), (7, .int 121)] dX12_spells_21 (by decide) rfl ?_
      refine z_iconst C dX12_spells_23 ki_0 ?_
      refine z_istore C [(9, .int 0), (8, .int 1), (0, .ref (B.1 + 113)), (1, .int 6), (2, .int 100), (3, .int 101), (4, .int 112), (5, .int 117), (6, .int 116), (7, .int 121)] dX12_spells_24 (by decide) rfl ?_
      exact z_lv (lv2 := [(9, .int 0), (8, .int (zi true)), (0, .ref (B.1 + 113)), (1, .int 6), (2, .int 100), (3, .int 101), (4, .int 112), (5, .int 117), (6, .int 116), (7, .int 121)]) [0, 1, 2, 3, 4, 5, 6, 7, 8, 9] rfl (l_X12_spells1_0 hl C b hb n hn h150 q hq true (by rw [decide_eq_true h5, decide_eq_true ((nI_eq (b := 6) (by omega) (by decide)).mp h13)]; rfl) E)
set_option maxRecDepth 100000 in
set_option maxHeartbeats 4000000 in
theorem l_X12_spells2_4 {l : Launch} {B : zB} {s : zS} {t : zL} {X : zX} (hl : X.2.1 = l) (C : zC X B mX12_spells) (b : Nat → Int32) (hb : s 121 = b) (n : Nat) (hn : s 113 12 = nI n) (h150 : n ≤ 150) (q : Nat) (hq : q ≤ n) (r : Bool) (hr : r = ((decide (tK b n q = 1) && decide (tE b n q - q = 4)) && wAll (fun k => decide (b (q + k) = zsC 2 k)) 4)) (E : zE X B mX12_spells 124 0 0 (zR B (some (.int (zi (tIs b n q 2)))) (mT s b n q) t)) : Zf X B mX12_spells (mT s b n q) t 26 [(9, .int 4), (8, .int (zi r)), (0, .ref (B.1 + 113)), (1, .int 4), (2, .int 108), (3, .int 111), (4, .int 118), (5, .int 101), (6, .int 0), (7, .int 0)] [] := by
  refine z_iload C dX12_spells_26 0 rfl ?_
  refine z_iload_n C dX12_spells_28 3 rfl rfl ?_
  refine z_icmp_ge C 119 dX12_spells_29 (by decide) (fun _ => ?_) (fun hbr => absurd (by decide) hbr)
  refine z_iload C dX12_spells_119 1 rfl ?_
  refine z_zret C E rfl dX12_spells_121 (zi_nar _) rfl (Nat.le_refl _) ⟨by rw [hr, tIs, Bool.and_assoc]; rfl, rfl⟩
set_option maxRecDepth 100000 in
set_option maxHeartbeats 4000000 in
theorem l_X12_spells2_3 {l : Launch} {B : zB} {s : zS} {t : zL} {X : zX} (hl : X.2.1 = l) (C : zC X B mX12_spells) (b : Nat → Int32) (hb : s 121 = b) (n : Nat) (hn : s 113 12 = nI n) (h150 : n ≤ 150) (q : Nat) (hq : q ≤ n) (r : Bool) (hr : r = ((decide (tK b n q = 1) && decide (tE b n q - q = 4)) && wAll (fun k => decide (b (q + k) = zsC 2 k)) 3)) (E : zE X B mX12_spells 124 0 0 (zR B (some (.int (zi (tIs b n q 2)))) (mT s b n q) t)) : Zf X B mX12_spells (mT s b n q) t 26 [(9, .int 3), (8, .int (zi r)), (0, .ref (B.1 + 113)), (1, .int 4), (2, .int 108), (3, .int 111), (4, .int 118), (5, .int 101), (6, .int 0), (7, .int 0)] [] := by
  refine z_iload C dX12_spells_26 0 rfl ?_
  refine z_iload_n C dX12_spells_28 3 rfl rfl ?_
  refine z_icmp_ge C 119 dX12_spells_29 (by decide) (fun hbr => absurd hbr (by decide)) (fun _ => ?_)
  refine z_iload C dX12_spells_32 1 rfl ?_
  refine z_ifb_eq C 119 dX12_spells_34 (by decide) (fun h34 => ?_) (fun h34 => ?_)
  · refine z_iload C dX12_spells_119 1 rfl ?_
    refine z_zret C E rfl dX12_spells_121 (zi_nar _) rfl (Nat.le_refl _) ⟨congrArg (fun z => some (Value.int (zi z))) (by rw [h34] at hr ⊢; rw [tIs]; cases h7 : decide (tK b n q = 1) <;> cases h8 : decide (tE b n q - q = zsL.getD 2 0) <;> first | rfl | (rw [show (true && (true && wAll (fun k => decide (b (q + k) = zsC 2 k)) (zsL.getD 2 0))) = wAll (fun k => decide (b (q + k) = zsC 2 k)) 4 from rfl]; rw [h7, show decide (tE b n q - q = 4) = true from h8] at hr; exact (wAll_mono (n := 3) (by decide) (by simpa using hr.symm)).symm)), rfl⟩
  · have hx := hr.symm.trans h34
    simp only [Bool.and_eq_true, decide_eq_true_eq] at hx
    have hEn : tE b n q ≤ n := tE_le hq
    have hqk : q + 3 < n := by omega
    refine z_aload_n C dX12_spells_37 2 rfl rfl ?_
    refine f_get12 C 11 (v := .ref (B.1 + 121)) (by decide) tw_755 rfl zk_113 zb_113 rfl dX12_spells_38 ?_
    refine z_aload_n C dX12_spells_41 2 rfl rfl ?_
    refine f_get12 C 13 (v := .int ((mT s b n q) 113 13)) (by decide) tw_757 rfl zk_113 zb_113 rfl dX12_spells_42 ?_
    refine f_topi (y := nI q) (mT_13 _ _ _ _) ?_
    refine z_iload C dX12_spells_45 0 rfl ?_
    refine z_iadd C dX12_spells_47 ?_
    refine f_topi (y := nI (q + 3)) (nA rfl (b := 3) rfl rfl) ?_
    refine f_ialdL C zk_121 zb_121 (ixN (n := 150) rfl (by omega) (by decide)).1 (j := (q + 3)) (ixN (n := 150) rfl (by omega) (by decide)).2 dX12_spells_48 ?_
    refine f_topi (y := b (q + 3)) (by rw [mT_row _ _ _ _ (by decide), hb]) ?_
    refine z_iload C dX12_spells_49 0 rfl ?_
    refine z_if_ne C 58 dX12_spells_51 (by decide) (fun _ => ?_) (fun hbr => absurd hbr (by decide))
    refine z_iload C dX12_spells_58 0 rfl ?_
    refine z_iconst C dX12_spells_60 ki_1 ?_
    refine z_icmp_ne C 68 dX12_spells_61 (by decide) (fun _ => ?_) (fun hbr => absurd hbr (by decide))
    refine z_iload C dX12_spells_68 0 rfl ?_
    refine z_iconst C dX12_spells_70 ki_2 ?_
    refine z_icmp_ne C 79 dX12_spells_71 (by decide) (fun _ => ?_) (fun hbr => absurd hbr (by decide))
    refine z_iload C dX12_spells_79 0 rfl ?_
    refine z_iconst C dX12_spells_81 ki_3 ?_
    refine z_icmp_ne C 90 dX12_spells_82 (by decide) (fun hbr => absurd (by decide) hbr) (fun _ => ?_)
    refine z_iload C dX12_spells_85 7 rfl ?_
    refine z_goto C 103 dX12_spells_87 (by decide) ?_
    refine z_icmp_ne C 110 dX12_spells_103 (by decide) (fun h103 => ?_) (fun h103 => ?_)
    · refine z_iconst C dX12_spells_110 ki_0 ?_
      refine z_istore C [(8, .int 0), (9, .int 3), (0, .ref (B.1 + 113)), (1, .int 4), (2, .int 108), (3, .int 111), (4, .int 118), (5, .int 101), (6, .int 0), (7, .int 0)] dX12_spells_111 (by decide) rfl ?_
      refine z_iinc C [(9, .int 4), (8, .int 0), (0, .ref (B.1 + 113)), (1, .int 4), (2, .int 108), (3, .int 111), (4, .int 118), (5, .int 101), (6, .int 0), (7, .int 0)] dX12_spells_113 1 rfl (by decide) (by decide) rfl ?_
      refine z_goto C 26 dX12_spells_116 (by decide) ?_
      exact z_lv (lv2 := [(9, .int 4), (8, .int (zi false)), (0, .ref (B.1 + 113)), (1, .int 4), (2, .int 108), (3, .int 111), (4, .int 118), (5, .int 101), (6, .int 0), (7, .int 0)]) [0, 1, 2, 3, 4, 5, 6, 7, 8, 9] rfl (l_X12_spells2_4 hl C b hb n hn h150 q hq false (by rw [wAll, ← Bool.and_assoc, ← hr, h34, show decide (b (q + 3) = zsC 2 3) = false from decide_eq_false h103]; rfl) E)
    · refine z_iconst C dX12_spells_106 ki_1 ?_
      refine z_goto C 111 dX12_spells_107 (by decide) ?_
      refine z_istore C [(8, .int 1), (9, .int 3), (0, .ref (B.1 + 113)), (1, .int 4), (2, .int 108), (3, .int 111), (4, .int 118), (5, .int 101), (6, .int 0), (7, .int 0)] dX12_spells_111 (by decide) rfl ?_
      refine z_iinc C [(9, .int 4), (8, .int 1), (0, .ref (B.1 + 113)), (1, .int 4), (2, .int 108), (3, .int 111), (4, .int 118), (5, .int 101), (6, .int 0), (7, .int 0)] dX12_spells_113 1 rfl (by decide) (by decide) rfl ?_
      refine z_goto C 26 dX12_spells_116 (by decide) ?_
      exact z_lv (lv2 := [(9, .int 4), (8, .int (zi true)), (0, .ref (B.1 + 113)), (1, .int 4), (2, .int 108), (3, .int 111), (4, .int 118), (5, .int 101), (6, .int 0), (7, .int 0)]) [0, 1, 2, 3, 4, 5, 6, 7, 8, 9] rfl (l_X12_spells2_4 hl C b hb n hn h150 q hq true (by rw [wAll, ← Bool.and_assoc, ← hr, h34, show decide (b (q + 3) = zsC 2 3) = true from decide_eq_true h103]; rfl) E)
set_option maxRecDepth 100000 in
set_option maxHeartbeats 4000000 in
theorem l_X12_spells2_2 {l : Launch} {B : zB} {s : zS} {t : zL} {X : zX} (hl : X.2.1 = l) (C : zC X B mX12_spells) (b : Nat → Int32) (hb : s 121 = b) (n : Nat) (hn : s 113 12 = nI n) (h150 : n ≤ 150) (q : Nat) (hq : q ≤ n) (r : Bool) (hr : r = ((decide (tK b n q = 1) && decide (tE b n q - q = 4)) && wAll (fun k => decide (b (q + k) = zsC 2 k)) 2)) (E : zE X B mX12_spells 124 0 0 (zR B (some (.int (zi (tIs b n q 2)))) (mT s b n q) t)) : Zf X B mX12_spells (mT s b n q) t 26 [(9, .int 2), (8, .int (zi r)), (0, .ref (B.1 + 113)), (1, .int 4), (2, .int 108), (3, .int 111), (4, .int 118), (5, .int 101), (6, .int 0), (7, .int 0)] [] := by
  refine z_iload C dX12_spells_26 0 rfl ?_
  refine z_iload_n C dX12_spells_28 3 rfl rfl ?_
  refine z_icmp_ge C 119 dX12_spells_29 (by decide) (fun hbr => absurd hbr (by decide)) (fun _ => ?_)
  refine z_iload C dX12_spells_32 1 rfl ?_
  refine z_ifb_eq C 119 dX12_spells_34 (by decide) (fun h34 => ?_) (fun h34 => ?_)
  · refine z_iload C dX12_spells_119 1 rfl ?_
    refine z_zret C E rfl dX12_spells_121 (zi_nar _) rfl (Nat.le_refl _) ⟨congrArg (fun z => some (Value.int (zi z))) (by rw [h34] at hr ⊢; rw [tIs]; cases h7 : decide (tK b n q = 1) <;> cases h8 : decide (tE b n q - q = zsL.getD 2 0) <;> first | rfl | (rw [show (true && (true && wAll (fun k => decide (b (q + k) = zsC 2 k)) (zsL.getD 2 0))) = wAll (fun k => decide (b (q + k) = zsC 2 k)) 4 from rfl]; rw [h7, show decide (tE b n q - q = 4) = true from h8] at hr; exact (wAll_mono (n := 2) (by decide) (by simpa using hr.symm)).symm)), rfl⟩
  · have hx := hr.symm.trans h34
    simp only [Bool.and_eq_true, decide_eq_true_eq] at hx
    have hEn : tE b n q ≤ n := tE_le hq
    have hqk : q + 2 < n := by omega
    refine z_aload_n C dX12_spells_37 2 rfl rfl ?_
    refine f_get12 C 11 (v := .ref (B.1 + 121)) (by decide) tw_755 rfl zk_113 zb_113 rfl dX12_spells_38 ?_
    refine z_aload_n C dX12_spells_41 2 rfl rfl ?_
    refine f_get12 C 13 (v := .int ((mT s b n q) 113 13)) (by decide) tw_757 rfl zk_113 zb_113 rfl dX12_spells_42 ?_
    refine f_topi (y := nI q) (mT_13 _ _ _ _) ?_
    refine z_iload C dX12_spells_45 0 rfl ?_
    refine z_iadd C dX12_spells_47 ?_
    refine f_topi (y := nI (q + 2)) (nA rfl (b := 2) rfl rfl) ?_
    refine f_ialdL C zk_121 zb_121 (ixN (n := 150) rfl (by omega) (by decide)).1 (j := (q + 2)) (ixN (n := 150) rfl (by omega) (by decide)).2 dX12_spells_48 ?_
    refine f_topi (y := b (q + 2)) (by rw [mT_row _ _ _ _ (by decide), hb]) ?_
    refine z_iload C dX12_spells_49 0 rfl ?_
    refine z_if_ne C 58 dX12_spells_51 (by decide) (fun _ => ?_) (fun hbr => absurd hbr (by decide))
    refine z_iload C dX12_spells_58 0 rfl ?_
    refine z_iconst C dX12_spells_60 ki_1 ?_
    refine z_icmp_ne C 68 dX12_spells_61 (by decide) (fun _ => ?_) (fun hbr => absurd hbr (by decide))
    refine z_iload C dX12_spells_68 0 rfl ?_
    refine z_iconst C dX12_spells_70 ki_2 ?_
    refine z_icmp_ne C 79 dX12_spells_71 (by decide) (fun hbr => absurd (by decide) hbr) (fun _ => ?_)
    refine z_iload C dX12_spells_74 6 rfl ?_
    refine z_goto C 103 dX12_spells_76 (by decide) ?_
    refine z_icmp_ne C 110 dX12_spells_103 (by decide) (fun h103 => ?_) (fun h103 => ?_)
    · refine z_iconst C dX12_spells_110 ki_0 ?_
      refine z_istore C [(8, .int 0), (9, .int 2), (0, .ref (B.1 + 113)), (1, .int 4), (2, .int 108), (3, .int 111), (4, .int 118), (5, .int 101), (6, .int 0), (7, .int 0)] dX12_spells_111 (by decide) rfl ?_
      refine z_iinc C [(9, .int 3), (8, .int 0), (0, .ref (B.1 + 113)), (1, .int 4), (2, .int 108), (3, .int 111), (4, .int 118), (5, .int 101), (6, .int 0), (7, .int 0)] dX12_spells_113 1 rfl (by decide) (by decide) rfl ?_
      refine z_goto C 26 dX12_spells_116 (by decide) ?_
      exact z_lv (lv2 := [(9, .int 3), (8, .int (zi false)), (0, .ref (B.1 + 113)), (1, .int 4), (2, .int 108), (3, .int 111), (4, .int 118), (5, .int 101), (6, .int 0), (7, .int 0)]) [0, 1, 2, 3, 4, 5, 6, 7, 8, 9] rfl (l_X12_spells2_3 hl C b hb n hn h150 q hq false (by rw [wAll, ← Bool.and_assoc, ← hr, h34, show decide (b (q + 2) = zsC 2 2) = false from decide_eq_false h103]; rfl) E)
    · refine z_iconst C dX12_spells_106 ki_1 ?_
      refine z_goto C 111 dX12_spells_107 (by decide) ?_
      refine z_istore C [(8, .int 1), (9, .int 2), (0, .ref (B.1 + 113)), (1, .int 4), (2, .int 108), (3, .int 111), (4, .int 118), (5, .int 101), (6, .int 0), (7, .int 0)] dX12_spells_111 (by decide) rfl ?_
      refine z_iinc C [(9, .int 3), (8, .int 1), (0, .ref (B.1 + 113)), (1, .int 4), (2, .int 108), (3, .int 111), (4, .int 118), (5, .int 101), (6, .int 0), (7, .int 0)] dX12_spells_113 1 rfl (by decide) (by decide) rfl ?_
      refine z_goto C 26 dX12_spells_116 (by decide) ?_
      exact z_lv (lv2 := [(9, .int 3), (8, .int (zi true)), (0, .ref (B.1 + 113)), (1, .int 4), (2, .int 108), (3, .int 111), (4, .int 118), (5, .int 101), (6, .int 0), (7, .int 0)]) [0, 1, 2, 3, 4, 5, 6, 7, 8, 9] rfl (l_X12_spells2_3 hl C b hb n hn h150 q hq true (by rw [wAll, ← Bool.and_assoc, ← hr, h34, show decide (b (q + 2) = zsC 2 2) = true from decide_eq_true h103]; rfl) E)
set_option maxRecDepth 100000 in
set_option maxHeartbeats 4000000 in
theorem l_X12_spells2_1 {l : Launch} {B : zB} {s : zS} {t : zL} {X : zX} (hl : X.2.1 = l) (C : zC X B mX12_spells) (b : Nat → Int32) (hb : s 121 = b) (n : Nat) (hn : s 113 12 = nI n) (h150 : n ≤ 150) (q : Nat) (hq : q ≤ n) (r : Bool) (hr : r = ((decide (tK b n q = 1) && decide (tE b n q - q = 4)) && wAll (fun k => decide (b (q + k) = zsC 2 k)) 1)) (E : zE X B mX12_spells 124 0 0 (zR B (some (.int (zi (tIs b n q 2)))) (mT s b n q) t)) : Zf X B mX12_spells (mT s b n q) t 26 [(9, .int 1), (8, .int (zi r)), (0, .ref (B.1 + 113)), (1, .int 4), (2, .int 108), (3, .int 111), (4, .int 118), (5, .int 101), (6, .int 0), (7, .int 0)] [] := by
  refine z_iload C dX12_spells_26 0 rfl ?_
  refine z_iload_n C dX12_spells_28 3 rfl rfl ?_
  refine z_icmp_ge C 119 dX12_spells_29 (by decide) (fun hbr => absurd hbr (by decide)) (fun _ => ?_)
  refine z_iload C dX12_spells_32 1 rfl ?_
  refine z_ifb_eq C 119 dX12_spells_34 (by decide) (fun h34 => ?_) (fun h34 => ?_)
  · refine z_iload C dX12_spells_119 1 rfl ?_
    refine z_zret C E rfl dX12_spells_121 (zi_nar _) rfl (Nat.le_refl _) ⟨congrArg (fun z => some (Value.int (zi z))) (by rw [h34] at hr ⊢; rw [tIs]; cases h7 : decide (tK b n q = 1) <;> cases h8 : decide (tE b n q - q = zsL.getD 2 0) <;> first | rfl | (rw [show (true && (true && wAll (fun k => decide (b (q + k) = zsC 2 k)) (zsL.getD 2 0))) = wAll (fun k => decide (b (q + k) = zsC 2 k)) 4 from rfl]; rw [h7, show decide (tE b n q - q = 4) = true from h8] at hr; exact (wAll_mono (n := 1) (by decide) (by simpa using hr.symm)).symm)), rfl⟩
  · have hx := hr.symm.trans h34
    simp only [Bool.and_eq_true, decide_eq_true_eq] at hx
    have hEn : tE b n q ≤ n := tE_le hq
    have hqk : q + 1 < n := by omega
    refine z_aload_n C dX12_spells_37 2 rfl rfl ?_
    refine f_get12 C 11 (v := .ref (B.1 + 121)) (by decide) tw_755 rfl zk_113 zb_113 rfl dX12_spells_38 ?_
    refine z_aload_n C dX12_spells_41 2 rfl rfl ?_
    refine f_get12 C 13 (v := .int ((mT s b n q) 113 13)) (by decide) tw_757 rfl zk_113 zb_113 rfl dX12_spells_42 ?_
    refine f_topi (y := nI q) (mT_13 _ _ _ _) ?_
    refine z_iload C dX12_spells_45 0 rfl ?_
    refine z_iadd C dX12_spells_47 ?_
    refine f_topi (y := nI (q + 1)) (nA rfl (b := 1) rfl rfl) ?_
    refine f_ialdL C zk_121 zb_121 (ixN (n := 150) rfl (by omega) (by decide)).1 (j := (q + 1)) (ixN (n := 150) rfl (by omega) (by decide)).2 dX12_spells_48 ?_
    refine f_topi (y := b (q + 1)) (by rw [mT_row _ _ _ _ (by decide), hb]) ?_
    refine z_iload C dX12_spells_49 0 rfl ?_
    refine z_if_ne C 58 dX12_spells_51 (by decide) (fun _ => ?_) (fun hbr => absurd hbr (by decide))
    refine z_iload C dX12_spells_58 0 rfl ?_
    refine z_iconst C dX12_spells_60 ki_1 ?_
    refine z_icmp_ne C 68 dX12_spells_61 (by decide) (fun hbr => absurd (by decide) hbr) (fun _ => ?_)
    refine z_iload_n C dX12_spells_64 5 rfl rfl ?_
    refine z_goto C 103 dX12_spells_65 (by decide) ?_
    refine z_icmp_ne C 110 dX12_spells_103 (by decide) (fun h103 => ?_) (fun h103 => ?_)
    · refine z_iconst C dX12_spells_110 ki_0 ?_
      refine z_istore C [(8, .int 0), (9, .int 1), (0, .ref (B.1 + 113)), (1, .int 4), (2, .int 108), (3, .int 111), (4, .int 118), (5, .int 101), (6, .int 0), (7, .int 0)] dX12_spells_111 (by decide) rfl ?_
      refine z_iinc C [(9, .int 2), (8, .int 0), (0, .ref (B.1 + 113)), (1, .int 4), (2, .int 108), (3, .int 111), (4, .int 118), (5, .int 101), (6, .int 0), (7, .int 0)] dX12_spells_113 1 rfl (by decide) (by decide) rfl ?_
      refine z_goto C 26 dX12_spells_116 (by decide) ?_
      exact z_lv (lv2 := [(9, .int 2), (8, .int (zi false)), (0, .ref (B.1 + 113)), (1, .int 4), (2, .int 108), (3, .int 111), (4, .int 118), (5, .int 101), (6, .int 0), (7, .int 0)]) [0, 1, 2, 3, 4, 5, 6, 7, 8, 9] rfl (l_X12_spells2_2 hl C b hb n hn h150 q hq false (by rw [wAll, ← Bool.and_assoc, ← hr, h34, show decide (b (q + 1) = zsC 2 1) = false from decide_eq_false h103]; rfl) E)
    · refine z_iconst C dX12_spells_106 ki_1 ?_
      refine z_goto C 111 dX12_spells_107 (by decide) ?_
      refine z_istore C [(8, .int 1), (9, .int 1), (0, .ref (B.1 + 113)), (1, .int 4), (2, .int 108), (3, .int 111), (4, .int 118), (5, .int 101), (6, .int 0), (7, .int 0)] dX12_spells_111 (by decide) rfl ?_
      refine z_iinc C [(9, .int 2), (8, .int 1), (0, .ref (B.1 + 113)), (1, .int 4), (2, .int 108), (3, .int 111), (4, .int 118), (5, .int 101), (6, .int 0), (7, .int 0)] dX12_spells_113 1 rfl (by decide) (by decide) rfl ?_
      refine z_goto C 26 dX12_spells_116 (by decide) ?_
      exact z_lv (lv2 := [(9, .int 2), (8, .int (zi true)), (0, .ref (B.1 + 113)), (1, .int 4), (2, .int 108), (3, .int 111), (4, .int 118), (5, .int 101), (6, .int 0), (7, .int 0)]) [0, 1, 2, 3, 4, 5, 6, 7, 8, 9] rfl (l_X12_spells2_2 hl C b hb n hn h150 q hq true (by rw [wAll, ← Bool.and_assoc, ← hr, h34, show decide (b (q + 1) = zsC 2 1) = true from decide_eq_true h103]; rfl) E)
set_option maxRecDepth 100000 in
set_option maxHeartbeats 4000000 in
theorem l_X12_spells2_0 {l : Launch} {B : zB} {s : zS} {t : zL} {X : zX} (hl : X.2.1 = l) (C : zC X B mX12_spells) (b : Nat → Int32) (hb : s 121 = b) (n : Nat) (hn : s 113 12 = nI n) (h150 : n ≤ 150) (q : Nat) (hq : q ≤ n) (r : Bool) (hr : r = ((decide (tK b n q = 1) && decide (tE b n q - q = 4)) && wAll (fun k => decide (b (q + k) = zsC 2 k)) 0)) (E : zE X B mX12_spells 124 0 0 (zR B (some (.int (zi (tIs b n q 2)))) (mT s b n q) t)) : Zf X B mX12_spells (mT s b n q) t 26 [(9, .int 0), (8, .int (zi r)), (0, .ref (B.1 + 113)), (1, .int 4), (2, .int 108), (3, .int 111), (4, .int 118), (5, .int 101), (6, .int 0), (7, .int 0)] [] := by
  refine z_iload C dX12_spells_26 0 rfl ?_
  refine z_iload_n C dX12_spells_28 3 rfl rfl ?_
  refine z_icmp_ge C 119 dX12_spells_29 (by decide) (fun hbr => absurd hbr (by decide)) (fun _ => ?_)
  refine z_iload C dX12_spells_32 1 rfl ?_
  refine z_ifb_eq C 119 dX12_spells_34 (by decide) (fun h34 => ?_) (fun h34 => ?_)
  · refine z_iload C dX12_spells_119 1 rfl ?_
    refine z_zret C E rfl dX12_spells_121 (zi_nar _) rfl (Nat.le_refl _) ⟨congrArg (fun z => some (Value.int (zi z))) (by rw [h34] at hr ⊢; rw [tIs]; cases h7 : decide (tK b n q = 1) <;> cases h8 : decide (tE b n q - q = zsL.getD 2 0) <;> first | rfl | (rw [show (true && (true && wAll (fun k => decide (b (q + k) = zsC 2 k)) (zsL.getD 2 0))) = wAll (fun k => decide (b (q + k) = zsC 2 k)) 4 from rfl]; rw [h7, show decide (tE b n q - q = 4) = true from h8] at hr; exact (wAll_mono (n := 0) (by decide) (by simpa using hr.symm)).symm)), rfl⟩
  · have hx := hr.symm.trans h34
    simp only [Bool.and_eq_true, decide_eq_true_eq] at hx
    have hEn : tE b n q ≤ n := tE_le hq
    have hqk : q + 0 < n := by omega
    refine z_aload_n C dX12_spells_37 2 rfl rfl ?_
    refine f_get12 C 11 (v := .ref (B.1 + 121)) (by decide) tw_755 rfl zk_113 zb_113 rfl dX12_spells_38 ?_
    refine z_aload_n C dX12_spells_41 2 rfl rfl ?_
    refine f_get12 C 13 (v := .int ((mT s b n q) 113 13)) (by decide) tw_757 rfl zk_113 zb_113 rfl dX12_spells_42 ?_
    refine f_topi (y := nI q) (mT_13 _ _ _ _) ?_
    refine z_iload C dX12_spells_45 0 rfl ?_
    refine z_iadd C dX12_spells_47 ?_
    refine f_topi (y := nI (q + 0)) (nA rfl (b := 0) rfl rfl) ?_
    refine f_ialdL C zk_121 zb_121 (ixN (n := 150) rfl (by omega) (by decide)).1 (j := (q + 0)) (ixN (n := 150) rfl (by omega) (by decide)).2 dX12_spells_48 ?_
    refine f_topi (y := b (q + 0)) (by rw [mT_row _ _ _ _ (by decide), hb]) ?_
    refine z_iload C dX12_spells_49 0 rfl ?_
    refine z_if_ne C 58 dX12_spells_51 (by decide) (fun hbr => absurd (by decide) hbr) (fun _ => ?_)
    refine z_iload_n C dX12_spells_54 4 rfl rfl ?_
    refine z_goto C 103 dX12_spells_55 (by decide) ?_
    refine z_icmp_ne C 110 dX12_spells_103 (by decide) (fun h103 => ?_) (fun h103 => ?_)
    · refine z_iconst C dX12_spells_110 ki_0 ?_
      refine z_istore C [(8, .int 0), (9, .int 0), (0, .ref (B.1 + 113)), (1, .int 4), (2, .int 108), (3, .int 111), (4, .int 118), (5, .int 101), (6, .int 0), (7, .int 0)] dX12_spells_111 (by decide) rfl ?_
      refine z_iinc C [(9, .int 1), (8, .int 0), (0, .ref (B.1 + 113)), (1, .int 4), (2, .int 108), (3, .int 111), (4, .int 118), (5, .int 101), (6, .int 0), (7, .int 0)] dX12_spells_113 1 rfl (by decide) (by decide) rfl ?_
      refine z_goto C 26 dX12_spells_116 (by decide) ?_
      exact z_lv (lv2 := [(9, .int 1), (8, .int (zi false)), (0, .ref (B.1 + 113)), (1, .int 4), (2, .int 108), (3, .int 111), (4, .int 118), (5, .int 101), (6, .int 0), (7, .int 0)]) [0, 1, 2, 3, 4, 5, 6, 7, 8, 9] rfl (l_X12_spells2_1 hl C b hb n hn h150 q hq false (by rw [wAll, ← Bool.and_assoc, ← hr, h34, show decide (b (q + 0) = zsC 2 0) = false from decide_eq_false h103]; rfl) E)
    · refine z_iconst C dX12_spells_106 ki_1 ?_
      refine z_goto C 111 dX12_spells_107 (by decide) ?_
      refine z_istore C [(8, .int 1), (9, .int 0), (0, .ref (B.1 + 113)), (1, .int 4), (2, .int 108), (3, .int 111), (4, .int 118), (5, .int 101), (6, .int 0), (7, .int 0)] dX12_spells_111 (by decide) rfl ?_
      refine z_iinc C [(9, .int 1), (8, .int 1), (0, .ref (B.1 + 113)), (1, .int 4), (2, .int 108), (3, .int 111), (4, .int 118), (5, .int 101), (6, .int 0), (7, .int 0)] dX12_spells_113 1 rfl (by decide) (by decide) rfl ?_
      refine z_goto C 26 dX12_spells_116 (by decide) ?_
      exact z_lv (lv2 := [(9, .int 1), (8, .int (zi true)), (0, .ref (B.1 + 113)), (1, .int 4), (2, .int 108), (3, .int 111), (4, .int 118), (5, .int 101), (6, .int 0), (7, .int 0)]) [0, 1, 2, 3, 4, 5, 6, 7, 8, 9] rfl (l_X12_spells2_1 hl C b hb n hn h150 q hq true (by rw [wAll, ← Bool.and_assoc, ← hr, h34, show decide (b (q + 0) = zsC 2 0) = true from decide_eq_true h103]; rfl) E)
set_option maxRecDepth 100000 in
set_option maxHeartbeats 4000000 in
theorem c_X12_spells2 (l : Launch) (B : zB) (s : zS) (t : zL) (b : Nat → Int32) (hb : s 121 = b) (n : Nat) (hn : s 113 12 = nI n) (h150 : n ≤ 150) (q : Nat) (hq : q ≤ n) : zD l B mX12_spells (mT s b n q) t [.ref (B.1 + 113), .int 4, .int 108, .int 111, .int 118, .int 101, .int 0, .int 0] (some (.int (zi (tIs b n q 2)))) (mT s b n q) t := by
  have hEn : tE b n q ≤ n := tE_le hq
  refine z_met (by decide) (Nat.le_of_ble_eq_true rfl) ?_
  intro X hl C E hnm
  show Zf X B mX12_spells (mT s b n q) t 0 [(0, .ref (B.1 + 113)), (1, .int 4), (2, .int 108), (3, .int 111), (4, .int 118), (5, .int 101), (6, .int 0), (7, .int 0)] []
  refine z_aload_n C dX12_spells_0 0 rfl rfl ?_
  refine f_get12 C 15 (v := .int ((mT s b n q) 113 15)) (by decide) tw_759 rfl zk_113 zb_113 rfl dX12_spells_1 ?_
  refine f_topi (y := tK b n q) (mT_15 _ _ _ _) ?_
  refine z_iconst C dX12_spells_4 ki_1 ?_
  refine z_icmp_ne C 20 dX12_spells_5 (by decide) (fun h5 => ?_) (fun h5 => ?_)
  · refine z_iconst C dX12_spells_20 ki_0 ?_
    refine z_istore C [(8, .int 0), (0, .ref (B.1 + 113)), (1, .int 4), (2, .int 108), (3, .int 111), (4, .int 118), (5, .int 101), (6, .int 0), (7, .int 0)] dX12_spells_21 (by decide) rfl ?_
    refine z_iconst C dX12_spells_23 ki_0 ?_
    refine z_istore C [(9, .int 0), (8, .int 0), (0, .ref (B.1 + 113)), (1, .int 4), (2, .int 108), (3, .int 111), (4, .int 118), (5, .int 101), (6, .int 0), (7, .int 0)] dX12_spells_24 (by decide) rfl ?_
    exact z_lv (lv2 := [(9, .int 0), (8, .int (zi false)), (0, .ref (B.1 + 113)), (1, .int 4), (2, .int 108), (3, .int 111), (4, .int 118), (5, .int 101), (6, .int 0), (7, .int 0)]) [0, 1, 2, 3, 4, 5, 6, 7, 8, 9] rfl (l_X12_spells2_0 hl C b hb n hn h150 q hq false (by rw [decide_eq_false h5]; rfl) E)
  · refine z_aload_n C dX12_spells_8 0 rfl rfl ?_
    refine f_get12 C 14 (v := .int ((mT s b n q) 113 14)) (by decide) tw_758 rfl zk_113 zb_113 rfl dX12_spells_9 ?_
    refine f_topi (y := nI (tE b n q - q)) (mT_14 _ _ _ _) ?_
    refine z_iload_n C dX12_spells_12 1 rfl rfl ?_
    refine z_icmp_ne C 20 dX12_spells_13 (by decide) (fun h13 => ?_) (fun h13 => ?_)
    · refine z_iconst C dX12_spells_20 ki_0 ?_
      refine z_istore C [(8, .int 0), (0, .ref (B.1 + 113)), (1, .int 4), (2, .int 108), (3, .int 111), (4, .int 118), (5, .int 101), (6, .int 0), (7, .int 0)] dX12_spells_21 (by decide) rfl ?_
      refine z_iconst C dX12_spells_23 ki_0 ?_
      refine z_istore C [(9, .int 0), (8, .int 0), (0, .ref (B.1 + 113)), (1, .int 4), (2, .int 108), (3, .int 111), (4, .int 118), (5, .int 101), (6, .int 0), (7, .int 0)] dX12_spells_24 (by decide) rfl ?_
      exact z_lv (lv2 := [(9, .int 0), (8, .int (zi false)), (0, .ref (B.1 + 113)), (1, .int 4), (2, .int 108), (3, .int 111), (4, .int 118), (5, .int 101), (6, .int 0), (7, .int 0)]) [0, 1, 2, 3, 4, 5, 6, 7, 8, 9] rfl (l_X12_spells2_0 hl C b hb n hn h150 q hq false (by rw [decide_eq_true h5, decide_eq_false (fun y => h13 (by rw [y]; rfl))]; rfl) E)
    · refine z_iconst C dX12_spells_16 ki_1 ?_
      refine z_goto C 21 dX12_spells_17 (by decide) ?_
      refine z_istore C [(8, .int 1), (0, .ref (B.1 + 113)), (1, .int 4), (2, .int 108), (3, .int 111), (4, .int 118), (5, .int 101), (6, .int 0), (7, .int 0)] dX12_spells_21 (by decide) rfl ?_
      refine z_iconst C dX12_spells_23 ki_0 ?_
      refine z_istore C [(9, .int 0), (8, .int 1), (0, .ref (B.1 + 113)), (1, .int 4), (2, .int 108), (3, .int 111), (4, .int 118), (5, .int 101), (6, .int 0), (7, .int 0)] dX12_spells_24 (by decide) rfl ?_
      exact z_lv (lv2 := [(9, .int 0), (8, .int (zi true)), (0, .ref (B.1 + 113)), (1, .int 4), (2, .int 108), (3, .int 111), (4, .int 118), (5, .int 101), (6, .int 0), (7, .int 0)]) [0, 1, 2, 3, 4, 5, 6, 7, 8, 9] rfl (l_X12_spells2_0 hl C b hb n hn h150 q hq true (by rw [decide_eq_true h5, decide_eq_true ((nI_eq (b := 4) (by omega) (by decide)).mp h13)]; rfl) E)
set_option maxRecDepth 100000 in
set_option maxHeartbeats 4000000 in
theorem l_X12_spells3_4 {l : Launch} {B : zB} {s : zS} {t : zL} {X : zX} (hl : X.2.1 = l) (C : zC X B mX12_spells) (b : Nat → Int32) (hb : s 121 = b) (n : Nat) (hn : s 113 12 = nI n) (h150 : n ≤ 150) (q : Nat) (hq : q ≤ n) (r : Bool) (hr : r = ((decide (tK b n q = 1) && decide (tE b n q - q = 4)) && wAll (fun k => decide (b (q + k) = zsC 3 k)) 4)) (E : zE X B mX12_spells 124 0 0 (zR B (some (.int (zi (tIs b n q 3)))) (mT s b n q) t)) : Zf X B mX12_spells (mT s b n q) t 26 [(9, .int 4), (8, .int (zi r)), (0, .ref (B.1 + 113)), (1, .int 4), (2, .int 104), (3, .int 97), (4, .int 116), (5, .int 101), (6, .int 0), (7, .int 0)] [] := by
  refine z_iload C dX12_spells_26 0 rfl ?_
  refine z_iload_n C dX12_spells_28 3 rfl rfl ?_
  refine z_icmp_ge C 119 dX12_spells_29 (by decide) (fun _ => ?_) (fun hbr => absurd (by decide) hbr)
  refine z_iload C dX12_spells_119 1 rfl ?_
  refine z_zret C E rfl dX12_spells_121 (zi_nar _) rfl (Nat.le_refl _) ⟨by rw [hr, tIs, Bool.and_assoc]; rfl, rfl⟩
set_option maxRecDepth 100000 in
set_option maxHeartbeats 4000000 in
theorem l_X12_spells3_3 {l : Launch} {B : zB} {s : zS} {t : zL} {X : zX} (hl : X.2.1 = l) (C : zC X B mX12_spells) (b : Nat → Int32) (hb : s 121 = b) (n : Nat) (hn : s 113 12 = nI n) (h150 : n ≤ 150) (q : Nat) (hq : q ≤ n) (r : Bool) (hr : r = ((decide (tK b n q = 1) && decide (tE b n q - q = 4)) && wAll (fun k => decide (b (q + k) = zsC 3 k)) 3)) (E : zE X B mX12_spells 124 0 0 (zR B (some (.int (zi (tIs b n q 3)))) (mT s b n q) t)) : Zf X B mX12_spells (mT s b n q) t 26 [(9, .int 3), (8, .int (zi r)), (0, .ref (B.1 + 113)), (1, .int 4), (2, .int 104), (3, .int 97), (4, .int 116), (5, .int 101), (6, .int 0), (7, .int 0)] [] := by
  refine z_iload C dX12_spells_26 0 rfl ?_
  refine z_iload_n C dX12_spells_28 3 rfl rfl ?_
  refine z_icmp_ge C 119 dX12_spells_29 (by decide) (fun hbr => absurd hbr (by decide)) (fun _ => ?_)
  refine z_iload C dX12_spells_32 1 rfl ?_
  refine z_ifb_eq C 119 dX12_spells_34 (by decide) (fun h34 => ?_) (fun h34 => ?_)
  · refine z_iload C dX12_spells_119 1 rfl ?_
    refine z_zret C E rfl dX12_spells_121 (zi_nar _) rfl (Nat.le_refl _) ⟨congrArg (fun z => some (Value.int (zi z))) (by rw [h34] at hr ⊢; rw [tIs]; cases h7 : decide (tK b n q = 1) <;> cases h8 : decide (tE b n q - q = zsL.getD 3 0) <;> first | rfl | (rw [show (true && (true && wAll (fun k => decide (b (q + k) = zsC 3 k)) (zsL.getD 3 0))) = wAll (fun k => decide (b (q + k) = zsC 3 k)) 4 from rfl]; rw [h7, show decide (tE b n q - q = 4) = true from h8] at hr; exact (wAll_mono (n := 3) (by decide) (by simpa using hr.symm)).symm)), rfl⟩
  · have hx := hr.symm.trans h34
    simp only [Bool.and_eq_true, decide_eq_true_eq] at hx
    have hEn : tE b n q ≤ n := tE_le hq
    have hqk : q + 3 < n := by omega
    refine z_aload_n C dX12_spells_37 2 rfl rfl ?_
    refine f_get12 C 11 (v := .ref (B.1 + 121)) (by decide) tw_755 rfl zk_113 zb_113 rfl dX12_spells_38 ?_
    refine z_aload_n C dX12_spells_41 2 rfl rfl ?_
    refine f_get12 C 13 (v := .int ((mT s b n q) 113 13)) (by decide) tw_757 rfl zk_113 zb_113 rfl dX12_spells_42 ?_
    refine f_topi (y := nI q) (mT_13 _ _ _ _) ?_
    refine z_iload C dX12_spells_45 0 rfl ?_
    refine z_iadd C dX12_spells_47 ?_
    refine f_topi (y := nI (q + 3)) (nA rfl (b := 3) rfl rfl) ?_
    refine f_ialdL C zk_121 zb_121 (ixN (n := 150) rfl (by omega) (by decide)).1 (j := (q + 3)) (ixN (n := 150) rfl (by omega) (by decide)).2 dX12_spells_48 ?_
    refine f_topi (y := b (q + 3)) (by rw [mT_row _ _ _ _ (by decide), hb]) ?_
    refine z_iload C dX12_spells_49 0 rfl ?_
    refine z_if_ne C 58 dX12_spells_51 (by decide) (fun _ => ?_) (fun hbr => absurd hbr (by decide))
    refine z_iload C dX12_spells_58 0 rfl ?_
    refine z_iconst C dX12_spells_60 ki_1 ?_
    refine z_icmp_ne C 68 dX12_spells_61 (by decide) (fun _ => ?_) (fun hbr => absurd hbr (by decide))
    refine z_iload C dX12_spells_68 0 rfl ?_
    refine z_iconst C dX12_spells_70 ki_2 ?_
    refine z_icmp_ne C 79 dX12_spells_71 (by decide) (fun _ => ?_) (fun hbr => absurd hbr (by decide))
    refine z_iload C dX12_spells_79 0 rfl ?_
    refine z_iconst C dX12_spells_81 ki_3 ?_
    refine z_icmp_ne C 90 dX12_spells_82 (by decide) (fun hbr => absurd (by decide) hbr) (fun _ => ?_)
    refine z_iload C dX12_spells_85 7 rfl ?_
    refine z_goto C 103 dX12_spells_87 (by decide) ?_
    refine z_icmp_ne C 110 dX12_spells_103 (by decide) (fun h103 => ?_) (fun h103 => ?_)
    · refine z_iconst C dX12_spells_110 ki_0 ?_
      refine z_istore C [(8, .int 0), (9, .int 3), (0, .ref (B.1 + 113)), (1, .int 4), (2, .int 104), (3, .int 97), (4, .int 116), (5, .int 101), (6, .int 0), (7, .int 0)] dX12_spells_111 (by decide) rfl ?_
      refine z_iinc C [(9, .int 4), (8, .int 0), (0, .ref (B.1 + 113)), (1, .int 4), (2, .int 104), (3, .int 97), (4, .int 116), (5, .int 101), (6, .int 0), (7, .int 0)] dX12_spells_113 1 rfl (by decide) (by decide) rfl ?_
      refine z_goto C 26 dX12_spells_116 (by decide) ?_
      exact z_lv (lv2 := [(9, .int 4), (8, .int (zi false)), (0, .ref (B.1 + 113)), (1, .int 4), (2, .int 104), (3, .int 97), (4, .int 116), (5, .int 101), (6, .int 0), (7, .int 0)]) [0, 1, 2, 3, 4, 5, 6, 7, 8, 9] rfl (l_X12_spells3_4 hl C b hb n hn h150 q hq false (by rw [wAll, ← Bool.and_assoc, ← hr, h34, show decide (b (q + 3) = zsC 3 3) = false from decide_eq_false h103]; rfl) E)
    · refine z_iconst C dX12_spells_106 ki_1 ?_
      refine z_goto C 111 dX12_spells_107 (by decide) ?_
      refine z_istore C [(8, .int 1), (9, .int 3), (0, .ref (B.1 + 113)), (1, .int 4), (2, .int 104), (3, .int 97), (4, .int 116), (5, .int 101), (6, .int 0), (7, .int 0)] dX12_spells_111 (by decide) rfl ?_
      refine z_iinc C [(9, .int 4), (8, .int 1), (0, .ref (B.1 + 113)), (1, .int 4), (2, .int 104), (3, .int 97), (4, .int 116), (5, .int 101), (6, .int 0), (7, .int 0)] dX12_spells_113 1 rfl (by decide) (by decide) rfl ?_
      refine z_goto C 26 dX12_spells_116 (by decide) ?_
      exact z_lv (lv2 := [(9, .int 4), (8, .int (zi true)), (0, .ref (B.1 + 113)), (1, .int 4), (2, .int 104), (3, .int 97), (4, .int 116), (5, .int 101), (6, .int 0), (7, .int 0)]) [0, 1, 2, 3, 4, 5, 6, 7, 8, 9] rfl (l_X12_spells3_4 hl C b hb n hn h150 q hq true (by rw [wAll, ← Bool.and_assoc, ← hr, h34, show decide (b (q + 3) = zsC 3 3) = true from decide_eq_true h103]; rfl) E)
set_option maxRecDepth 100000 in
set_option maxHeartbeats 4000000 in
theorem l_X12_spells3_2 {l : Launch} {B : zB} {s : zS} {t : zL} {X : zX} (hl : X.2.1 = l) (C : zC X B mX12_spells) (b : Nat → Int32) (hb : s 121 = b) (n : Nat) (hn : s 113 12 = nI n) (h150 : n ≤ 150) (q : Nat) (hq : q ≤ n) (r : Bool) (hr : r = ((decide (tK b n q = 1) && decide (tE b n q - q = 4)) && wAll (fun k => decide (b (q + k) = zsC 3 k)) 2)) (E : zE X B mX12_spells 124 0 0 (zR B (some (.int (zi (tIs b n q 3)))) (mT s b n q) t)) : Zf X B mX12_spells (mT s b n q) t 26 [(9, .int 2), (8, .int (zi r)), (0, .ref (B.1 + 113)), (1, .int 4), (2, .int 104), (3, .int 97), (4, .int 116), (5, .int 101), (6, .int 0), (7, .int 0)] [] := by
  refine z_iload C dX12_spells_26 0 rfl ?_
  refine z_iload_n C dX12_spells_28 3 rfl rfl ?_
  refine z_icmp_ge C 119 dX12_spells_29 (by decide) (fun hbr => absurd hbr (by decide)) (fun _ => ?_)
  refine z_iload C dX12_spells_32 1 rfl ?_
  refine z_ifb_eq C 119 dX12_spells_34 (by decide) (fun h34 => ?_) (fun h34 => ?_)
  · refine z_iload C dX12_spells_119 1 rfl ?_
    refine z_zret C E rfl dX12_spells_121 (zi_nar _) rfl (Nat.le_refl _) ⟨congrArg (fun z => some (Value.int (zi z))) (by rw [h34] at hr ⊢; rw [tIs]; cases h7 : decide (tK b n q = 1) <;> cases h8 : decide (tE b n q - q = zsL.getD 3 0) <;> first | rfl | (rw [show (true && (true && wAll (fun k => decide (b (q + k) = zsC 3 k)) (zsL.getD 3 0))) = wAll (fun k => decide (b (q + k) = zsC 3 k)) 4 from rfl]; rw [h7, show decide (tE b n q - q = 4) = true from h8] at hr; exact (wAll_mono (n := 2) (by decide) (by simpa using hr.symm)).symm)), rfl⟩
  · have hx := hr.symm.trans h34
    simp only [Bool.and_eq_true, decide_eq_true_eq] at hx
    have hEn : tE b n q ≤ n := tE_le hq
    have hqk : q + 2 < n := by omega
    refine z_aload_n C dX12_spells_37 2 rfl rfl ?_
    refine f_get12 C 11 (v := .ref (B.1 + 121)) (by decide) tw_755 rfl zk_113 zb_113 rfl dX12_spells_38 ?_
    refine z_aload_n C dX12_spells_41 2 rfl rfl ?_
    refine f_get12 C 13 (v := .int ((mT s b n q) 113 13)) (by decide) tw_757 rfl zk_113 zb_113 rfl dX12_spells_42 ?_
    refine f_topi (y := nI q) (mT_13 _ _ _ _) ?_
    refine z_iload C dX12_spells_45 0 rfl ?_
    refine z_iadd C dX12_spells_47 ?_
    refine f_topi (y := nI (q + 2)) (nA rfl (b := 2) rfl rfl) ?_
    refine f_ialdL C zk_121 zb_121 (ixN (n := 150) rfl (by omega) (by decide)).1 (j := (q + 2)) (ixN (n := 150) rfl (by omega) (by decide)).2 dX12_spells_48 ?_
    refine f_topi (y := b (q + 2)) (by rw [mT_row _ _ _ _ (by decide), hb]) ?_
    refine z_iload C dX12_spells_49 0 rfl ?_
    refine z_if_ne C 58 dX12_spells_51 (by decide) (fun _ => ?_) (fun hbr => absurd hbr (by decide))
    refine z_iload C dX12_spells_58 0 rfl ?_
    refine z_iconst C dX12_spells_60 ki_1 ?_
    refine z_icmp_ne C 68 dX12_spells_61 (by decide) (fun _ => ?_) (fun hbr => absurd hbr (by decide))
    refine z_iload C dX12_spells_68 0 rfl ?_
    refine z_iconst C dX12_spells_70 ki_2 ?_
    refine z_icmp_ne C 79 dX12_spells_71 (by decide) (fun hbr => absurd (by decide) hbr) (fun _ => ?_)
    refine z_iload C dX12_spells_74 6 rfl ?_
    refine z_goto C 103 dX12_spells_76 (by decide) ?_
    refine z_icmp_ne C 110 dX12_spells_103 (by decide) (fun h103 => ?_) (fun h103 => ?_)
    · refine z_iconst C dX12_spells_110 ki_0 ?_
      refine z_istore C [(8, .int 0), (9, .int 2), (0, .ref (B.1 + 113)), (1, .int 4), (2, .int 104), (3, .int 97), (4, .int 116), (5, .int 101), (6, .int 0), (7, .int 0)] dX12_spells_111 (by decide) rfl ?_
      refine z_iinc C [(9, .int 3), (8, .int 0), (0, .ref (B.1 + 113)), (1, .int 4), (2, .int 104), (3, .int 97), (4, .int 116), (5, .int 101), (6, .int 0), (7, .int 0)] dX12_spells_113 1 rfl (by decide) (by decide) rfl ?_
      refine z_goto C 26 dX12_spells_116 (by decide) ?_
      exact z_lv (lv2 := [(9, .int 3), (8, .int (zi false)), (0, .ref (B.1 + 113)), (1, .int 4), (2, .int 104), (3, .int 97), (4, .int 116), (5, .int 101), (6, .int 0), (7, .int 0)]) [0, 1, 2, 3, 4, 5, 6, 7, 8, 9] rfl (l_X12_spells3_3 hl C b hb n hn h150 q hq false (by rw [wAll, ← Bool.and_assoc, ← hr, h34, show decide (b (q + 2) = zsC 3 2) = false from decide_eq_false h103]; rfl) E)
    · refine z_iconst C dX12_spells_106 ki_1 ?_
      refine z_goto C 111 dX12_spells_107 (by decide) ?_
      refine z_istore C [(8, .int 1), (9, .int 2), (0, .ref (B.1 + 113)), (1, .int 4), (2, .int 104), (3, .int 97), (4, .int 116), (5, .int 101), (6, .int 0), (7, .int 0)] dX12_spells_111 (by decide) rfl ?_
      refine z_iinc C [(9, .int 3), (8, .int 1), (0, .ref (B.1 + 113)), (1, .int 4), (2, .int 104), (3, .int 97), (4, .int 116), (5, .int 101), (6, .int 0), (7, .int 0)] dX12_spells_113 1 rfl (by decide) (by decide) rfl ?_
      refine z_goto C 26 dX12_spells_116 (by decide) ?_
      exact z_lv (lv2 := [(9, .int 3), (8, .int (zi true)), (0, .ref (B.1 + 113)), (1, .int 4), (2, .int 104), (3, .int 97), (4, .int 116), (5, .int 101), (6, .int 0), (7, .int 0)]) [0, 1, 2, 3, 4, 5, 6, 7, 8, 9] rfl (l_X12_spells3_3 hl C b hb n hn h150 q hq true (by rw [wAll, ← Bool.and_assoc, ← hr, h34, show decide (b (q + 2) = zsC 3 2) = true from decide_eq_true h103]; rfl) E)
set_option maxRecDepth 100000 in
set_option maxHeartbeats 4000000 in
theorem l_X12_spells3_1 {l : Launch} {B : zB} {s : zS} {t : zL} {X : zX} (hl : X.2.1 = l) (C : zC X B mX12_spells) (b : Nat → Int32) (hb : s 121 = b) (n : Nat) (hn : s 113 12 = nI n) (h150 : n ≤ 150) (q : Nat) (hq : q ≤ n) (r : Bool) (hr : r = ((decide (tK b n q = 1) && decide (tE b n q - q = 4)) && wAll (fun k => decide (b (q + k) = zsC 3 k)) 1)) (E : zE X B mX12_spells 124 0 0 (zR B (some (.int (zi (tIs b n q 3)))) (mT s b n q) t)) : Zf X B mX12_spells (mT s b n q) t 26 [(9, .int 1), (8, .int (zi r)), (0, .ref (B.1 + 113)), (1, .int 4), (2, .int 104), (3, .int 97), (4, .int 116), (5, .int 101), (6, .int 0), (7, .int 0)] [] := by
  refine z_iload C dX12_spells_26 0 rfl ?_
  refine z_iload_n C dX12_spells_28 3 rfl rfl ?_
  refine z_icmp_ge C 119 dX12_spells_29 (by decide) (fun hbr => absurd hbr (by decide)) (fun _ => ?_)
  refine z_iload C dX12_spells_32 1 rfl ?_
  refine z_ifb_eq C 119 dX12_spells_34 (by decide) (fun h34 => ?_) (fun h34 => ?_)
  · refine z_iload C dX12_spells_119 1 rfl ?_
    refine z_zret C E rfl dX12_spells_121 (zi_nar _) rfl (Nat.le_refl _) ⟨congrArg (fun z => some (Value.int (zi z))) (by rw [h34] at hr ⊢; rw [tIs]; cases h7 : decide (tK b n q = 1) <;> cases h8 : decide (tE b n q - q = zsL.getD 3 0) <;> first | rfl | (rw [show (true && (true && wAll (fun k => decide (b (q + k) = zsC 3 k)) (zsL.getD 3 0))) = wAll (fun k => decide (b (q + k) = zsC 3 k)) 4 from rfl]; rw [h7, show decide (tE b n q - q = 4) = true from h8] at hr; exact (wAll_mono (n := 1) (by decide) (by simpa using hr.symm)).symm)), rfl⟩
  · have hx := hr.symm.trans h34
    simp only [Bool.and_eq_true, decide_eq_true_eq] at hx
    have hEn : tE b n q ≤ n := tE_le hq
    have hqk : q + 1 < n := by omega
    refine z_aload_n C dX12_spells_37 2 rfl rfl ?_
    refine f_get12 C 11 (v := .ref (B.1 + 121)) (by decide) tw_755 rfl zk_113 zb_113 rfl dX12_spells_38 ?_
    refine z_aload_n C dX12_spells_41 2 rfl rfl ?_
    refine f_get12 C 13 (v := .int ((mT s b n q) 113 13)) (by decide) tw_757 rfl zk_113 zb_113 rfl dX12_spells_42 ?_
    refine f_topi (y := nI q) (mT_13 _ _ _ _) ?_
    refine z_iload C dX12_spells_45 0 rfl ?_
    refine z_iadd C dX12_spells_47 ?_
    refine f_topi (y := nI (q + 1)) (nA rfl (b := 1) rfl rfl) ?_
    refine f_ialdL C zk_121 zb_121 (ixN (n := 150) rfl (by omega) (by decide)).1 (j := (q + 1)) (ixN (n := 150) rfl (by omega) (by decide)).2 dX12_spells_48 ?_
    refine f_topi (y := b (q + 1)) (by rw [mT_row _ _ _ _ (by decide), hb]) ?_
    refine z_iload C dX12_spells_49 0 rfl ?_
    refine z_if_ne C 58 dX12_spells_51 (by decide) (fun _ => ?_) (fun hbr => absurd hbr (by decide))
    refine z_iload C dX12_spells_58 0 rfl ?_
    refine z_iconst C dX12_spells_60 ki_1 ?_
    refine z_icmp_ne C 68 dX12_spells_61 (by decide) (fun hbr => absurd (by decide) hbr) (fun _ => ?_)
    refine z_iload_n C dX12_spells_64 5 rfl rfl ?_
    refine z_goto C 103 dX12_spells_65 (by decide) ?_
    refine z_icmp_ne C 110 dX12_spells_103 (by decide) (fun h103 => ?_) (fun h103 => ?_)
    · refine z_iconst C dX12_spells_110 ki_0 ?_
      refine z_istore C [(8, .int 0), (9, .int 1), (0, .ref (B.1 + 113)), (1, .int 4), (2, .int 104), (3, .int 97), (4, .int 116), (5, .int 101), (6, .int 0), (7, .int 0)] dX12_spells_111 (by decide) rfl ?_
      refine z_iinc C [(9, .int 2), (8, .int 0), (0, .ref (B.1 + 113)), (1, .int 4), (2, .int 104), (3, .int 97), (4, .int 116), (5, .int 101), (6, .int 0), (7, .int 0)] dX12_spells_113 1 rfl (by decide) (by decide) rfl ?_
      refine z_goto C 26 dX12_spells_116 (by decide) ?_
      exact z_lv (lv2 := [(9, .int 2), (8, .int (zi false)), (0, .ref (B.1 + 113)), (1, .int 4), (2, .int 104), (3, .int 97), (4, .int 116), (5, .int 101), (6, .int 0), (7, .int 0)]) [0, 1, 2, 3, 4, 5, 6, 7, 8, 9] rfl (l_X12_spells3_2 hl C b hb n hn h150 q hq false (by rw [wAll, ← Bool.and_assoc, ← hr, h34, show decide (b (q + 1) = zsC 3 1) = false from decide_eq_false h103]; rfl) E)
    · refine z_iconst C dX12_spells_106 ki_1 ?_
      refine z_goto C 111 dX12_spells_107 (by decide) ?_
      refine z_istore C [(8, .int 1), (9, .int 1), (0, .ref (B.1 + 113)), (1, .int 4), (2, .int 104), (3, .int 97), (4, .int 116), (5, .int 101), (6, .int 0), (7, .int 0)] dX12_spells_111 (by decide) rfl ?_
      refine z_iinc C [(9, .int 2), (8, .int 1), (0, .ref (B.1 + 113)), (1, .int 4), (2, .int 104), (3, .int 97), (4, .int 116), (5, .int 101), (6, .int 0), (7, .int 0)] dX12_spells_113 1 rfl (by decide) (by decide) rfl ?_
      refine z_goto C 26 dX12_spells_116 (by decide) ?_
      exact z_lv (lv2 := [(9, .int 2), (8, .int (zi true)), (0, .ref (B.1 + 113)), (1, .int 4), (2, .int 104), (3, .int 97), (4, .int 116), (5, .int 101), (6, .int 0), (7, .int 0)]) [0, 1, 2, 3, 4, 5, 6, 7, 8, 9] rfl (l_X12_spells3_2 hl C b hb n hn h150 q hq true (by rw [wAll, ← Bool.and_assoc, ← hr, h34, show decide (b (q + 1) = zsC 3 1) = true from decide_eq_true h103]; rfl) E)
set_option maxRecDepth 100000 in
set_option maxHeartbeats 4000000 in
theorem l_X12_spells3_0 {l : Launch} {B : zB} {s : zS} {t : zL} {X : zX} (hl : X.2.1 = l) (C : zC X B mX12_spells) (b : Nat → Int32) (hb : s 121 = b) (n : Nat) (hn : s 113 12 = nI n) (h150 : n ≤ 150) (q : Nat) (hq : q ≤ n) (r : Bool) (hr : r = ((decide (tK b n q = 1) && decide (tE b n q - q = 4)) && wAll (fun k => decide (b (q + k) = zsC 3 k)) 0)) (E : zE X B mX12_spells 124 0 0 (zR B (some (.int (zi (tIs b n q 3)))) (mT s b n q) t)) : Zf X B mX12_spells (mT s b n q) t 26 [(9, .int 0), (8, .int (zi r)), (0, .ref (B.1 + 113)), (1, .int 4), (2, .int 104), (3, .int 97), (4, .int 116), (5, .int 101), (6, .int 0), (7, .int 0)] [] := by
  refine z_iload C dX12_spells_26 0 rfl ?_
  refine z_iload_n C dX12_spells_28 3 rfl rfl ?_
  refine z_icmp_ge C 119 dX12_spells_29 (by decide) (fun hbr => absurd hbr (by decide)) (fun _ => ?_)
  refine z_iload C dX12_spells_32 1 rfl ?_
  refine z_ifb_eq C 119 dX12_spells_34 (by decide) (fun h34 => ?_) (fun h34 => ?_)
  · refine z_iload C dX12_spells_119 1 rfl ?_
    refine z_zret C E rfl dX12_spells_121 (zi_nar _) rfl (Nat.le_refl _) ⟨congrArg (fun z => some (Value.int (zi z))) (by rw [h34] at hr ⊢; rw [tIs]; cases h7 : decide (tK b n q = 1) <;> cases h8 : decide (tE b n q - q = zsL.getD 3 0) <;> first | rfl | (rw [show (true && (true && wAll (fun k => decide (b (q + k) = zsC 3 k)) (zsL.getD 3 0))) = wAll (fun k => decide (b (q + k) = zsC 3 k)) 4 from rfl]; rw [h7, show decide (tE b n q - q = 4) = true from h8] at hr; exact (wAll_mono (n := 0) (by decide) (by simpa using hr.symm)).symm)), rfl⟩
  · have hx := hr.symm.trans h34
    simp only [Bool.and_eq_true, decide_eq_true_eq] at hx
    have hEn : tE b n q ≤ n := tE_le hq
    have hqk : q + 0 < n := by omega
    refine z_aload_n C dX12_spells_37 2 rfl rfl ?_
    refine f_get12 C 11 (v := .ref (B.1 + 121)) (by decide) tw_755 rfl zk_113 zb_113 rfl dX12_spells_38 ?_
    refine z_aload_n C dX12_spells_41 2 rfl rfl ?_
    refine f_get12 C 13 (v := .int ((mT s b n q) 113 13)) (by decide) tw_757 rfl zk_113 zb_113 rfl dX12_spells_42 ?_
    refine f_topi (y := nI q) (mT_13 _ _ _ _) ?_
    refine z_iload C dX12_spells_45 0 rfl ?_
    refine z_iadd C dX12_spells_47 ?_
    refine f_topi (y := nI (q + 0)) (nA rfl (b := 0) rfl rfl) ?_
    refine f_ialdL C zk_121 zb_121 (ixN (n := 150) rfl (by omega) (by decide)).1 (j := (q + 0)) (ixN (n := 150) rfl (by omega) (by decide)).2 dX12_spells_48 ?_
    refine f_topi (y := b (q + 0)) (by rw [mT_row _ _ _ _ (by decide), hb]) ?_
    refine z_iload C dX12_spells_49 0 rfl ?_
    refine z_if_ne C 58 dX12_spells_51 (by decide) (fun hbr => absurd (by decide) hbr) (fun _ => ?_)
    refine z_iload_n C dX12_spells_54 4 rfl rfl ?_
    refine z_goto C 103 dX12_spells_55 (by decide) ?_
    refine z_icmp_ne C 110 dX12_spells_103 (by decide) (fun h103 => ?_) (fun h103 => ?_)
    · refine z_iconst C dX12_spells_110 ki_0 ?_
      refine z_istore C [(8, .int 0), (9, .int 0), (0, .ref (B.1 + 113)), (1, .int 4), (2, .int 104), (3, .int 97), (4, .int 116), (5, .int 101), (6, .int 0), (7, .int 0)] dX12_spells_111 (by decide) rfl ?_
      refine z_iinc C [(9, .int 1), (8, .int 0), (0, .ref (B.1 + 113)), (1, .int 4), (2, .int 104), (3, .int 97), (4, .int 116), (5, .int 101), (6, .int 0), (7, .int 0)] dX12_spells_113 1 rfl (by decide) (by decide) rfl ?_
      refine z_goto C 26 dX12_spells_116 (by decide) ?_
      exact z_lv (lv2 := [(9, .int 1), (8, .int (zi false)), (0, .ref (B.1 + 113)), (1, .int 4), (2, .int 104), (3, .int 97), (4, .int 116), (5, .int 101), (6, .int 0), (7, .int 0)]) [0, 1, 2, 3, 4, 5, 6, 7, 8, 9] rfl (l_X12_spells3_1 hl C b hb n hn h150 q hq false (by rw [wAll, ← Bool.and_assoc, ← hr, h34, show decide (b (q + 0) = zsC 3 0) = false from decide_eq_false h103]; rfl) E)
    · refine z_iconst C dX12_spells_106 ki_1 ?_
      refine z_goto C 111 dX12_spells_107 (by decide) ?_
      refine z_istore C [(8, .int 1), (9, .int 0), (0, .ref (B.1 + 113)), (1, .int 4), (2, .int 104), (3, .int 97), (4, .int 116), (5, .int 101), (6, .int 0), (7, .int 0)] dX12_spells_111 (by decide) rfl ?_
      refine z_iinc C [(9, .int 1), (8, .int 1), (0, .ref (B.1 + 113)), (1, .int 4), (2, .int 104), (3, .int 97), (4, .int 116), (5, .int 101), (6, .int 0), (7, .int 0)] dX12_spells_113 1 rfl (by decide) (by decide) rfl ?_
      refine z_goto C 26 dX12_spells_116 (by decide) ?_
      exact z_lv (lv2 := [(9, .int 1), (8, .int (zi true)), (0, .ref (B.1 + 113)), (1, .int 4), (2, .int 104), (3, .int 97), (4, .int 116), (5, .int 101), (6, .int 0), (7, .int 0)]) [0, 1, 2, 3, 4, 5, 6, 7, 8, 9] rfl (l_X12_spells3_1 hl C b hb n hn h150 q hq true (by rw [wAll, ← Bool.and_assoc, ← hr, h34, show decide (b (q + 0) = zsC 3 0) = true from decide_eq_true h103]; rfl) E)
set_option maxRecDepth 100000 in
set_option maxHeartbeats 4000000 in
theorem c_X12_spells3 (l : Launch) (B : zB) (s : zS) (t : zL) (b : Nat → Int32) (hb : s 121 = b) (n : Nat) (hn : s 113 12 = nI n) (h150 : n ≤ 150) (q : Nat) (hq : q ≤ n) : zD l B mX12_spells (mT s b n q) t [.ref (B.1 + 113), .int 4, .int 104, .int 97, .int 116, .int 101, .int 0, .int 0] (some (.int (zi (tIs b n q 3)))) (mT s b n q) t := by
  have hEn : tE b n q ≤ n := tE_le hq
  refine z_met (by decide) (Nat.le_of_ble_eq_true rfl) ?_
  intro X hl C E hnm
  show Zf X B mX12_spells (mT s b n q) t 0 [(0, .ref (B.1 + 113)), (1, .int 4), (2, .int 104), (3, .int 97), (4, .int 116), (5, .int 101), (6, .int 0), (7, .int 0)] []
  refine z_aload_n C dX12_spells_0 0 rfl rfl ?_
  refine f_get12 C 15 (v := .int ((mT s b n q) 113 15)) (by decide) tw_759 rfl zk_113 zb_113 rfl dX12_spells_1 ?_
  refine f_topi (y := tK b n q) (mT_15 _ _ _ _) ?_
  refine z_iconst C dX12_spells_4 ki_1 ?_
  refine z_icmp_ne C 20 dX12_spells_5 (by decide) (fun h5 => ?_) (fun h5 => ?_)
  · refine z_iconst C dX12_spells_20 ki_0 ?_
    refine z_istore C [(8, .int 0), (0, .ref (B.1 + 113)), (1, .int 4), (2, .int 104), (3, .int 97), (4, .int 116), (5, .int 101), (6, .int 0), (7, .int 0)] dX12_spells_21 (by decide) rfl ?_
    refine z_iconst C dX12_spells_23 ki_0 ?_
    refine z_istore C [(9, .int 0), (8, .int 0), (0, .ref (B.1 + 113)), (1, .int 4), (2, .int 104), (3, .int 97), (4, .int 116), (5, .int 101), (6, .int 0), (7, .int 0)] dX12_spells_24 (by decide) rfl ?_
    exact z_lv (lv2 := [(9, .int 0), (8, .int (zi false)), (0, .ref (B.1 + 113)), (1, .int 4), (2, .int 104), (3, .int 97), (4, .int 116), (5, .int 101), (6, .int 0), (7, .int 0)]) [0, 1, 2, 3, 4, 5, 6, 7, 8, 9] rfl (l_X12_spells3_0 hl C b hb n hn h150 q hq false (by rw [decide_eq_false h5]; rfl) E)
  · refine z_aload_n C dX12_spells_8 0 rfl rfl ?_
    refine f_get12 C 14 (v := .int ((mT s b n q) 113 14)) (by decide) tw_758 rfl zk_113 zb_113 rfl dX12_spells_9 ?_
    refine f_topi (y := nI (tE b n q - q)) (mT_14 _ _ _ _) ?_
    refine z_iload_n C dX12_spells_12 1 rfl rfl ?_
    refine z_icmp_ne C 20 dX12_spells_13 (by decide) (fun h13 => ?_) (fun h13 => ?_)
    · refine z_iconst C dX12_spells_20 ki_0 ?_
      refine z_istore C [(8, .int 0), (0, .ref (B.1 + 113)), (1, .int 4), (2, .int 104), (3, .int 97), (4, .int 116), (5, .int 101), (6, .int 0), (7, .int 0)] dX12_spells_21 (by decide) rfl ?_
      refine z_iconst C dX12_spells_23 ki_0 ?_
      refine z_istore C [(9, .int 0), (8, .int 0), (0, .ref (B.1 + 113)), (1, .int 4), (2, .int 104), (3, .int 97), (4, .int 116), (5, .int 101), (6, .int 0), (7, .int 0)] dX12_spells_24 (by decide) rfl ?_
      exact z_lv (lv2 := [(9, .int 0), (8, .int (zi false)), (0, .ref (B.1 + 113)), (1, .int 4), (2, .int 104), (3, .int 97), (4, .int 116), (5, .int 101), (6, .int 0), (7, .int 0)]) [0, 1, 2, 3, 4, 5, 6, 7, 8, 9] rfl (l_X12_spells3_0 hl C b hb n hn h150 q hq false (by rw [decide_eq_true h5, decide_eq_false (fun y => h13 (by rw [y]; rfl))]; rfl) E)
    · refine z_iconst C dX12_spells_16 ki_1 ?_
      refine z_goto C 21 dX12_spells_17 (by decide) ?_
      refine z_istore C [(8, .int 1), (0, .ref (B.1 + 113)), (1, .int 4), (2, .int 104), (3, .int 97), (4, .int 116), (5, .int 101), (6, .int 0), (7, .int 0)] dX12_spells_21 (by decide) rfl ?_
      refine z_iconst C dX12_spells_23 ki_0 ?_
      refine z_istore C [(9, .int 0), (8, .int 1), (0, .ref (B.1 + 113)), (1, .int 4), (2, .int 104), (3, .int 97), (4, .int 116), (5, .int 101), (6, .int 0), (7, .int 0)] dX12_spells_24 (by decide) rfl ?_
      exact z_lv (lv2 := [(9, .int 0), (8, .int (zi true)), (0, .ref (B.1 + 113)), (1, .int 4), (2, .int 104), (3, .int 97), (4, .int 116), (5, .int 101), (6, .int 0), (7, .int 0)]) [0, 1, 2, 3, 4, 5, 6, 7, 8, 9] rfl (l_X12_spells3_0 hl C b hb n hn h150 q hq true (by rw [decide_eq_true h5, decide_eq_true ((nI_eq (b := 4) (by omega) (by decide)).mp h13)]; rfl) E)
set_option maxRecDepth 100000 in
set_option maxHeartbeats 4000000 in
theorem l_X12_spells4_3 {l : Launch} {B : zB} {s : zS} {t : zL} {X : zX} (hl : X.2.1 = l) (C : zC X B mX12_spells) (b : Nat → Int32) (hb : s 121 = b) (n : Nat) (hn : s 113 12 = nI n) (h150 : n ≤ 150) (q : Nat) (hq : q ≤ n) (r : Bool) (hr : r = ((decide (tK b n q = 1) && decide (tE b n q - q = 3)) && wAll (fun k => decide (b (q + k) = zsC 4 k)) 3)) (E : zE X B mX12_spells 124 0 0 (zR B (some (.int (zi (tIs b n q 4)))) (mT s b n q) t)) : Zf X B mX12_spells (mT s b n q) t 26 [(9, .int 3), (8, .int (zi r)), (0, .ref (B.1 + 113)), (1, .int 3), (2, .int 108), (3, .int 97), (4, .int 119), (5, .int 0), (6, .int 0), (7, .int 0)] [] := by
  refine z_iload C dX12_spells_26 0 rfl ?_
  refine z_iload_n C dX12_spells_28 3 rfl rfl ?_
  refine z_icmp_ge C 119 dX12_spells_29 (by decide) (fun _ => ?_) (fun hbr => absurd (by decide) hbr)
  refine z_iload C dX12_spells_119 1 rfl ?_
  refine z_zret C E rfl dX12_spells_121 (zi_nar _) rfl (Nat.le_refl _) ⟨by rw [hr, tIs, Bool.and_assoc]; rfl, rfl⟩
set_option maxRecDepth 100000 in
set_option maxHeartbeats 4000000 in
theorem l_X12_spells4_2 {l : Launch} {B : zB} {s : zS} {t : zL} {X : zX} (hl : X.2.1 = l) (C : zC X B mX12_spells) (b : Nat → Int32) (hb : s 121 = b) (n : Nat) (hn : s 113 12 = nI n) (h150 : n ≤ 150) (q : Nat) (hq : q ≤ n) (r : Bool) (hr : r = ((decide (tK b n q = 1) && decide (tE b n q - q = 3)) && wAll (fun k => decide (b (q + k) = zsC 4 k)) 2)) (E : zE X B mX12_spells 124 0 0 (zR B (some (.int (zi (tIs b n q 4)))) (mT s b n q) t)) : Zf X B mX12_spells (mT s b n q) t 26 [(9, .int 2), (8, .int (zi r)), (0, .ref (B.1 + 113)), (1, .int 3), (2, .int 108), (3, .int 97), (4, .int 119), (5, .int 0), (6, .int 0), (7, .int 0)] [] := by
  refine z_iload C dX12_spells_26 0 rfl ?_
  refine z_iload_n C dX12_spells_28 3 rfl rfl ?_
  refine z_icmp_ge C 119 dX12_spells_29 (by decide) (fun hbr => absurd hbr (by decide)) (fun _ => ?_)
  refine z_iload C dX12_spells_32 1 rfl ?_
  refine z_ifb_eq C 119 dX12_spells_34 (by decide) (fun h34 => ?_) (fun h34 => ?_)
  · refine z_iload C dX12_spells_119 1 rfl ?_
    refine z_zret C E rfl dX12_spells_121 (zi_nar _) rfl (Nat.le_refl _) ⟨congrArg (fun z => some (Value.int (zi z))) (by rw [h34] at hr ⊢; rw [tIs]; cases h7 : decide (tK b n q = 1) <;> cases h8 : decide (tE b n q - q = zsL.getD 4 0) <;> first | rfl | (rw [show (true && (true && wAll (fun k => decide (b (q + k) = zsC 4 k)) (zsL.getD 4 0))) = wAll (fun k => decide (b (q + k) = zsC 4 k)) 3 from rfl]; rw [h7, show decide (tE b n q - q = 3) = true from h8] at hr; exact (wAll_mono (n := 2) (by decide) (by simpa using hr.symm)).symm)), rfl⟩
  · have hx := hr.symm.trans h34
    simp only [Bool.and_eq_true, decide_eq_true_eq] at hx
    have hEn : tE b n q ≤ n := tE_le hq
    have hqk : q + 2 < n := by omega
    refine z_aload_n C dX12_spells_37 2 rfl rfl ?_
    refine f_get12 C 11 (v := .ref (B.1 + 121)) (by decide) tw_755 rfl zk_113 zb_113 rfl dX12_spells_38 ?_
    refine z_aload_n C dX12_spells_41 2 rfl rfl ?_
    refine f_get12 C 13 (v := .int ((mT s b n q) 113 13)) (by decide) tw_757 rfl zk_113 zb_113 rfl dX12_spells_42 ?_
    refine f_topi (y := nI q) (mT_13 _ _ _ _) ?_
    refine z_iload C dX12_spells_45 0 rfl ?_
    refine z_iadd C dX12_spells_47 ?_
    refine f_topi (y := nI (q + 2)) (nA rfl (b := 2) rfl rfl) ?_
    refine f_ialdL C zk_121 zb_121 (ixN (n := 150) rfl (by omega) (by decide)).1 (j := (q + 2)) (ixN (n := 150) rfl (by omega) (by decide)).2 dX12_spells_48 ?_
    refine f_topi (y := b (q + 2)) (by rw [mT_row _ _ _ _ (by decide), hb]) ?_
    refine z_iload C dX12_spells_49 0 rfl ?_
    refine z_if_ne C 58 dX12_spells_51 (by decide) (fun _ => ?_) (fun hbr => absurd hbr (by decide))
    refine z_iload C dX12_spells_58 0 rfl ?_
    refine z_iconst C dX12_spells_60 ki_1 ?_
    refine z_icmp_ne C 68 dX12_spells_61 (by decide) (fun _ => ?_) (fun hbr => absurd hbr (by decide))
    refine z_iload C dX12_spells_68 0 rfl ?_
    refine z_iconst C dX12_spells_70 ki_2 ?_
    refine z_icmp_ne C 79 dX12_spells_71 (by decide) (fun hbr => absurd (by decide) hbr) (fun _ => ?_)
    refine z_iload C dX12_spells_74 6 rfl ?_
    refine z_goto C 103 dX12_spells_76 (by decide) ?_
    refine z_icmp_ne C 110 dX12_spells_103 (by decide) (fun h103 => ?_) (fun h103 => ?_)
    · refine z_iconst C dX12_spells_110 ki_0 ?_
      refine z_istore C [(8, .int 0), (9, .int 2), (0, .ref (B.1 + 113)), (1, .int 3), (2, .int 108), (3, .int 97), (4, .int 119), (5, .int 0), (6, .int 0), (7, .int 0)] dX12_spells_111 (by decide) rfl ?_
      refine z_iinc C [(9, .int 3), (8, .int 0), (0, .ref (B.1 + 113)), (1, .int 3), (2, .int 108), (3, .int 97), (4, .int 119), (5, .int 0), (6, .int 0), (7, .int 0)] dX12_spells_113 1 rfl (by decide) (by decide) rfl ?_
      refine z_goto C 26 dX12_spells_116 (by decide) ?_
      exact z_lv (lv2 := [(9, .int 3), (8, .int (zi false)), (0, .ref (B.1 + 113)), (1, .int 3), (2, .int 108), (3, .int 97), (4, .int 119), (5, .int 0), (6, .int 0), (7, .int 0)]) [0, 1, 2, 3, 4, 5, 6, 7, 8, 9] rfl (l_X12_spells4_3 hl C b hb n hn h150 q hq false (by rw [wAll, ← Bool.and_assoc, ← hr, h34, show decide (b (q + 2) = zsC 4 2) = false from decide_eq_false h103]; rfl) E)
    · refine z_iconst C dX12_spells_106 ki_1 ?_
      refine z_goto C 111 dX12_spells_107 (by decide) ?_
      refine z_istore C [(8, .int 1), (9, .int 2), (0, .ref (B.1 + 113)), (1, .int 3), (2, .int 108), (3, .int 97), (4, .int 119), (5, .int 0), (6, .int 0), (7, .int 0)] dX12_spells_111 (by decide) rfl ?_
      refine z_iinc C [(9, .int 3), (8, .int 1), (0, .ref (B.1 + 113)), (1, .int 3), (2, .int 108), (3, .int 97), (4, .int 119), (5, .int 0), (6, .int 0), (7, .int 0)] dX12_spells_113 1 rfl (by decide) (by decide) rfl ?_
      refine z_goto C 26 dX12_spells_116 (by decide) ?_
      exact z_lv (lv2 := [(9, .int 3), (8, .int (zi true)), (0, .ref (B.1 + 113)), (1, .int 3), (2, .int 108), (3, .int 97), (4, .int 119), (5, .int 0), (6, .int 0), (7, .int 0)]) [0, 1, 2, 3, 4, 5, 6, 7, 8, 9] rfl (l_X12_spells4_3 hl C b hb n hn h150 q hq true (by rw [wAll, ← Bool.and_assoc, ← hr, h34, show decide (b (q + 2) = zsC 4 2) = true from decide_eq_true h103]; rfl) E)
set_option maxRecDepth 100000 in
set_option maxHeartbeats 4000000 in
theorem l_X12_spells4_1 {l : Launch} {B : zB} {s : zS} {t : zL} {X : zX} (hl : X.2.1 = l) (C : zC X B mX12_spells) (b : Nat → Int32) (hb : s 121 = b) (n : Nat) (hn : s 113 12 = nI n) (h150 : n ≤ 150) (q : Nat) (hq : q ≤ n) (r : Bool) (hr : r = ((decide (tK b n q = 1) && decide (tE b n q - q = 3)) && wAll (fun k => decide (b (q + k) = zsC 4 k)) 1)) (E : zE X B mX12_spells 124 0 0 (zR B (some (.int (zi (tIs b n q 4)))) (mT s b n q) t)) : Zf X B mX12_spells (mT s b n q) t 26 [(9, .int 1), (8, .int (zi r)), (0, .ref (B.1 + 113)), (1, .int 3), (2, .int 108), (3, .int 97), (4, .int 119), (5, .int 0), (6, .int 0), (7, .int 0)] [] := by
  refine z_iload C dX12_spells_26 0 rfl ?_
  refine z_iload_n C dX12_spells_28 3 rfl rfl ?_
  refine z_icmp_ge C 119 dX12_spells_29 (by decide) (fun hbr => absurd hbr (by decide)) (fun _ => ?_)
  refine z_iload C dX12_spells_32 1 rfl ?_
  refine z_ifb_eq C 119 dX12_spells_34 (by decide) (fun h34 => ?_) (fun h34 => ?_)
  · refine z_iload C dX12_spells_119 1 rfl ?_
    refine z_zret C E rfl dX12_spells_121 (zi_nar _) rfl (Nat.le_refl _) ⟨congrArg (fun z => some (Value.int (zi z))) (by rw [h34] at hr ⊢; rw [tIs]; cases h7 : decide (tK b n q = 1) <;> cases h8 : decide (tE b n q - q = zsL.getD 4 0) <;> first | rfl | (rw [show (true && (true && wAll (fun k => decide (b (q + k) = zsC 4 k)) (zsL.getD 4 0))) = wAll (fun k => decide (b (q + k) = zsC 4 k)) 3 from rfl]; rw [h7, show decide (tE b n q - q = 3) = true from h8] at hr; exact (wAll_mono (n := 1) (by decide) (by simpa using hr.symm)).symm)), rfl⟩
  · have hx := hr.symm.trans h34
    simp only [Bool.and_eq_true, decide_eq_true_eq] at hx
    have hEn : tE b n q ≤ n := tE_le hq
    have hqk : q + 1 < n := by omega
    refine z_aload_n C dX12_spells_37 2 rfl rfl ?_
    refine f_get12 C 11 (v := .ref (B.1 + 121)) (by decide) tw_755 rfl zk_113 zb_113 rfl dX12_spells_38 ?_
    refine z_aload_n C dX12_spells_41 2 rfl rfl ?_
    refine f_get12 C 13 (v := .int ((mT s b n q) 113 13)) (by decide) tw_757 rfl zk_113 zb_113 rfl dX12_spells_42 ?_
    refine f_topi (y := nI q) (mT_13 _ _ _ _) ?_
    refine z_iload C dX12_spells_45 0 rfl ?_
    refine z_iadd C dX12_spells_47 ?_
    refine f_topi (y := nI (q + 1)) (nA rfl (b := 1) rfl rfl) ?_
    refine f_ialdL C zk_121 zb_121 (ixN (n := 150) rfl (by omega) (by decide)).1 (j := (q + 1)) (ixN (n := 150) rfl (by omega) (by decide)).2 dX12_spells_48 ?_
    refine f_topi (y := b (q + 1)) (by rw [mT_row _ _ _ _ (by decide), hb]) ?_
    refine z_iload C dX12_spells_49 0 rfl ?_
    refine z_if_ne C 58 dX12_spells_51 (by decide) (fun _ => ?_) (fun hbr => absurd hbr (by decide))
    refine z_iload C dX12_spells_58 0 rfl ?_
    refine z_iconst C dX12_spells_60 ki_1 ?_
    refine z_icmp_ne C 68 dX12_spells_61 (by decide) (fun hbr => absurd (by decide) hbr) (fun _ => ?_)
    refine z_iload_n C dX12_spells_64 5 rfl rfl ?_
    refine z_goto C 103 dX12_spells_65 (by decide) ?_
    refine z_icmp_ne C 110 dX12_spells_103 (by decide) (fun h103 => ?_) (fun h103 => ?_)
    · refine z_iconst C dX12_spells_110 ki_0 ?_
      refine z_istore C [(8, .int 0), (9, .int 1), (0, .ref (B.1 + 113)), (1, .int 3), (2, .int 108), (3, .int 97), (4, .int 119), (5, .int 0), (6, .int 0), (7, .int 0)] dX12_spells_111 (by decide) rfl ?_
      refine z_iinc C [(9, .int 2), (8, .int 0), (0, .ref (B.1 + 113)), (1, .int 3), (2, .int 108), (3, .int 97), (4, .int 119), (5, .int 0), (6, .int 0), (7, .int 0)] dX12_spells_113 1 rfl (by decide) (by decide) rfl ?_
      refine z_goto C 26 dX12_spells_116 (by decide) ?_
      exact z_lv (lv2 := [(9, .int 2), (8, .int (zi false)), (0, .ref (B.1 + 113)), (1, .int 3), (2, .int 108), (3, .int 97), (4, .int 119), (5, .int 0), (6, .int 0), (7, .int 0)]) [0, 1, 2, 3, 4, 5, 6, 7, 8, 9] rfl (l_X12_spells4_2 hl C b hb n hn h150 q hq false (by rw [wAll, ← Bool.and_assoc, ← hr, h34, show decide (b (q + 1) = zsC 4 1) = false from decide_eq_false h103]; rfl) E)
    · refine z_iconst C dX12_spells_106 ki_1 ?_
      refine z_goto C 111 dX12_spells_107 (by decide) ?_
      refine z_istore C [(8, .int 1), (9, .int 1), (0, .ref (B.1 + 113)), (1, .int 3), (2, .int 108), (3, .int 97), (4, .int 119), (5, .int 0), (6, .int 0), (7, .int 0)] dX12_spells_111 (by decide) rfl ?_
      refine z_iinc C [(9, .int 2), (8, .int 1), (0, .ref (B.1 + 113)), (1, .int 3), (2, .int 108), (3, .int 97), (4, .int 119), (5, .int 0), (6, .int 0), (7, .int 0)] dX12_spells_113 1 rfl (by decide) (by decide) rfl ?_
      refine z_goto C 26 dX12_spells_116 (by decide) ?_
      exact z_lv (lv2 := [(9, .int 2), (8, .int (zi true)), (0, .ref (B.1 + 113)), (1, .int 3), (2, .int 108), (3, .int 97), (4, .int 119), (5, .int 0), (6, .int 0), (7, .int 0)]) [0, 1, 2, 3, 4, 5, 6, 7, 8, 9] rfl (l_X12_spells4_2 hl C b hb n hn h150 q hq true (by rw [wAll, ← Bool.and_assoc, ← hr, h34, show decide (b (q + 1) = zsC 4 1) = true from decide_eq_true h103]; rfl) E)
set_option maxRecDepth 100000 in
set_option maxHeartbeats 4000000 in
theorem l_X12_spells4_0 {l : Launch} {B : zB} {s : zS} {t : zL} {X : zX} (hl : X.2.1 = l) (C : zC X B mX12_spells) (b : Nat → Int32) (hb : s 121 = b) (n : Nat) (hn : s 113 12 = nI n) (h150 : n ≤ 150) (q : Nat) (hq : q ≤ n) (r : Bool) (hr : r = ((decide (tK b n q = 1) && decide (tE b n q - q = 3)) && wAll (fun k => decide (b (q + k) = zsC 4 k)) 0)) (E : zE X B mX12_spells 124 0 0 (zR B (some (.int (zi (tIs b n q 4)))) (mT s b n q) t)) : Zf X B mX12_spells (mT s b n q) t 26 [(9, .int 0), (8, .int (zi r)), (0, .ref (B.1 + 113)), (1, .int 3), (2, .int 108), (3, .int 97), (4, .int 119), (5, .int 0), (6, .int 0), (7, .int 0)] [] := by
  refine z_iload C dX12_spells_26 0 rfl ?_
  refine z_iload_n C dX12_spells_28 3 rfl rfl ?_
  refine z_icmp_ge C 119 dX12_spells_29 (by decide) (fun hbr => absurd hbr (by decide)) (fun _ => ?_)
  refine z_iload C dX12_spells_32 1 rfl ?_
  refine z_ifb_eq C 119 dX12_spells_34 (by decide) (fun h34 => ?_) (fun h34 => ?_)
  · refine z_iload C dX12_spells_119 1 rfl ?_
    refine z_zret C E rfl dX12_spells_121 (zi_nar _) rfl (Nat.le_refl _) ⟨congrArg (fun z => some (Value.int (zi z))) (by rw [h34] at hr ⊢; rw [tIs]; cases h7 : decide (tK b n q = 1) <;> cases h8 : decide (tE b n q - q = zsL.getD 4 0) <;> first | rfl | (rw [show (true && (true && wAll (fun k => decide (b (q + k) = zsC 4 k)) (zsL.getD 4 0))) = wAll (fun k => decide (b (q + k) = zsC 4 k)) 3 from rfl]; rw [h7, show decide (tE b n q - q = 3) = true from h8] at hr; exact (wAll_mono (n := 0) (by decide) (by simpa using hr.symm)).symm)), rfl⟩
  · have hx := hr.symm.trans h34
    simp only [Bool.and_eq_true, decide_eq_true_eq] at hx
    have hEn : tE b n q ≤ n := tE_le hq
    have hqk : q + 0 < n := by omega
    refine z_aload_n C dX12_spells_37 2 rfl rfl ?_
    refine f_get12 C 11 (v := .ref (B.1 + 121)) (by decide) tw_755 rfl zk_113 zb_113 rfl dX12_spells_38 ?_
    refine z_aload_n C dX12_spells_41 2 rfl rfl ?_
    refine f_get12 C 13 (v := .int ((mT s b n q) 113 13)) (by decide) tw_757 rfl zk_113 zb_113 rfl dX12_spells_42 ?_
    refine f_topi (y := nI q) (mT_13 _ _ _ _) ?_
    refine z_iload C dX12_spells_45 0 rfl ?_
    refine z_iadd C dX12_spells_47 ?_
    refine f_topi (y := nI (q + 0)) (nA rfl (b := 0) rfl rfl) ?_
    refine f_ialdL C zk_121 zb_121 (ixN (n := 150) rfl (by omega) (by decide)).1 (j := (q + 0)) (ixN (n := 150) rfl (by omega) (by decide)).2 dX12_spells_48 ?_
    refine f_topi (y := b (q + 0)) (by rw [mT_row _ _ _ _ (by decide), hb]) ?_
    refine z_iload C dX12_spells_49 0 rfl ?_
    refine z_if_ne C 58 dX12_spells_51 (by decide) (fun hbr => absurd (by decide) hbr) (fun _ => ?_)
    refine z_iload_n C dX12_spells_54 4 rfl rfl ?_
    refine z_goto C 103 dX12_spells_55 (by decide) ?_
    refine z_icmp_ne C 110 dX12_spells_103 (by decide) (fun h103 => ?_) (fun h103 => ?_)
    · refine z_iconst C dX12_spells_110 ki_0 ?_
      refine z_istore C [(8, .int 0), (9, .int 0), (0, .ref (B.1 + 113)), (1, .int 3), (2, .int 108), (3, .int 97), (4, .int 119), (5, .int 0), (6, .int 0), (7, .int 0)] dX12_spells_111 (by decide) rfl ?_
      refine z_iinc C [(9, .int 1), (8, .int 0), (0, .ref (B.1 + 113)), (1, .int 3), (2, .int 108), (3, .int 97), (4, .int 119), (5, .int 0), (6, .int 0), (7, .int 0)] dX12_spells_113 1 rfl (by decide) (by decide) rfl ?_
      refine z_goto C 26 dX12_spells_116 (by decide) ?_
      exact z_lv (lv2 := [(9, .int 1), (8, .int (zi false)), (0, .ref (B.1 + 113)), (1, .int 3), (2, .int 108), (3, .int 97), (4, .int 119), (5, .int 0), (6, .int 0), (7, .int 0)]) [0, 1, 2, 3, 4, 5, 6, 7, 8, 9] rfl (l_X12_spells4_1 hl C b hb n hn h150 q hq false (by rw [wAll, ← Bool.and_assoc, ← hr, h34, show decide (b (q + 0) = zsC 4 0) = false from decide_eq_false h103]; rfl) E)
    · refine z_iconst C dX12_spells_106 ki_1 ?_
      refine z_goto C 111 dX12_spells_107 (by decide) ?_
      refine z_istore C [(8, .int 1), (9, .int 0), (0, .ref (B.1 + 113)), (1, .int 3), (2, .int 108), (3, .int 97), (4, .int 119), (5, .int 0), (6, .int 0), (7, .int 0)] dX12_spells_111 (by decide) rfl ?_
      refine z_iinc C [(9, .int 1), (8, .int 1), (0, .ref (B.1 + 113)), (1, .int 3), (2, .int 108), (3, .int 97), (4, .int 119), (5, .int 0), (6, .int 0), (7, .int 0)] dX12_spells_113 1 rfl (by decide) (by decide) rfl ?_
      refine z_goto C 26 dX12_spells_116 (by decide) ?_
      exact z_lv (lv2 := [(9, .int 1), (8, .int (zi true)), (0, .ref (B.1 + 113)), (1, .int 3), (2, .int 108), (3, .int 97), (4, .int 119), (5, .int 0), (6, .int 0), (7, .int 0)]) [0, 1, 2, 3, 4, 5, 6, 7, 8, 9] rfl (l_X12_spells4_1 hl C b hb n hn h150 q hq true (by rw [wAll, ← Bool.and_assoc, ← hr, h34, show decide (b (q + 0) = zsC 4 0) = true from decide_eq_true h103]; rfl) E)
set_option maxRecDepth 100000 in
set_option maxHeartbeats 4000000 in
theorem c_X12_spells4 (l : Launch) (B : zB) (s : zS) (t : zL) (b : Nat → Int32) (hb : s 121 = b) (n : Nat) (hn : s 113 12 = nI n) (h150 : n ≤ 150) (q : Nat) (hq : q ≤ n) : zD l B mX12_spells (mT s b n q) t [.ref (B.1 + 113), .int 3, .int 108, .int 97, .int 119, .int 0, .int 0, .int 0] (some (.int (zi (tIs b n q 4)))) (mT s b n q) t := by
  have hEn : tE b n q ≤ n := tE_le hq
  refine z_met (by decide) (Nat.le_of_ble_eq_true rfl) ?_
  intro X hl C E hnm
  show Zf X B mX12_spells (mT s b n q) t 0 [(0, .ref (B.1 + 113)), (1, .int 3), (2, .int 108), (3, .int 97), (4, .int 119), (5, .int 0), (6, .int 0), (7, .int 0)] []
  refine z_aload_n C dX12_spells_0 0 rfl rfl ?_
  refine f_get12 C 15 (v := .int ((mT s b n q) 113 15)) (by decide) tw_759 rfl zk_113 zb_113 rfl dX12_spells_1 ?_
  refine f_topi (y := tK b n q) (mT_15 _ _ _ _) ?_
  refine z_iconst C dX12_spells_4 ki_1 ?_
  refine z_icmp_ne C 20 dX12_spells_5 (by decide) (fun h5 => ?_) (fun h5 => ?_)
  · refine z_iconst C dX12_spells_20 ki_0 ?_
    refine z_istore C [(8, .int 0), (0, .ref (B.1 + 113)), (1, .int 3), (2, .int 108), (3, .int 97), (4, .int 119), (5, .int 0), (6, .int 0), (7, .int 0)] dX12_spells_21 (by decide) rfl ?_
    refine z_iconst C dX12_spells_23 ki_0 ?_
    refine z_istore C [(9, .int 0), (8, .int 0), (0, .ref (B.1 + 113)), (1, .int 3), (2, .int 108), (3, .int 97), (4, .int 119), (5, .int 0), (6, .int 0), (7, .int 0)] dX12_spells_24 (by decide) rfl ?_
    exact z_lv (lv2 := [(9, .int 0), (8, .int (zi false)), (0, .ref (B.1 + 113)), (1, .int 3), (2, .int 108), (3, .int 97), (4, .int 119), (5, .int 0), (6, .int 0), (7, .int 0)]) [0, 1, 2, 3, 4, 5, 6, 7, 8, 9] rfl (l_X12_spells4_0 hl C b hb n hn h150 q hq false (by rw [decide_eq_false h5]; rfl) E)
  · refine z_aload_n C dX12_spells_8 0 rfl rfl ?_
    refine f_get12 C 14 (v := .int ((mT s b n q) 113 14)) (by decide) tw_758 rfl zk_113 zb_113 rfl dX12_spells_9 ?_
    refine f_topi (y := nI (tE b n q - q)) (mT_14 _ _ _ _) ?_
    refine z_iload_n C dX12_spells_12 1 rfl rfl ?_
    refine z_icmp_ne C 20 dX12_spells_13 (by decide) (fun h13 => ?_) (fun h13 => ?_)
    · refine z_iconst C dX12_spells_20 ki_0 ?_
      refine z_istore C [(8, .int 0), (0, .ref (B.1 + 113)), (1, .int 3), (2, .int 108), (3, .int 97), (4, .int 119), (5, .int 0), (6, .int 0), (7, .int 0)] dX12_spells_21 (by decide) rfl ?_
      refine z_iconst C dX12_spells_23 ki_0 ?_
      refine z_istore C [(9, .int 0), (8, .int 0), (0, .ref (B.1 + 113)), (1, .int 3), (2, .int 108), (3, .int 97), (4, .int 119), (5, .int 0), (6, .int 0), (7, .int 0)] dX12_spells_24 (by decide) rfl ?_
      exact z_lv (lv2 := [(9, .int 0), (8, .int (zi false)), (0, .ref (B.1 + 113)), (1, .int 3), (2, .int 108), (3, .int 97), (4, .int 119), (5, .int 0), (6, .int 0), (7, .int 0)]) [0, 1, 2, 3, 4, 5, 6, 7, 8, 9] rfl (l_X12_spells4_0 hl C b hb n hn h150 q hq false (by rw [decide_eq_true h5, decide_eq_false (fun y => h13 (by rw [y]; rfl))]; rfl) E)
    · refine z_iconst C dX12_spells_16 ki_1 ?_
      refine z_goto C 21 dX12_spells_17 (by decide) ?_
      refine z_istore C [(8, .int 1), (0, .ref (B.1 + 113)), (1, .int 3), (2, .int 108), (3, .int 97), (4, .int 119), (5, .int 0), (6, .int 0), (7, .int 0)] dX12_spells_21 (by decide) rfl ?_
      refine z_iconst C dX12_spells_23 ki_0 ?_
      refine z_istore C [(9, .int 0), (8, .int 1), (0, .ref (B.1 + 113)), (1, .int 3), (2, .int 108), (3, .int 97), (4, .int 119), (5, .int 0), (6, .int 0), (7, .int 0)] dX12_spells_24 (by decide) rfl ?_
      exact z_lv (lv2 := [(9, .int 0), (8, .int (zi true)), (0, .ref (B.1 + 113)), (1, .int 3), (2, .int 108), (3, .int 97), (4, .int 119), (5, .int 0), (6, .int 0), (7, .int 0)]) [0, 1, 2, 3, 4, 5, 6, 7, 8, 9] rfl (l_X12_spells4_0 hl C b hb n hn h150 q hq true (by rw [decide_eq_true h5, decide_eq_true ((nI_eq (b := 3) (by omega) (by decide)).mp h13)]; rfl) E)
