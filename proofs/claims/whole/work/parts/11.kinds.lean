/-- n places of cell q, put into cell o -/
def zcp (s : zS) (o q n : Nat) : zS := fun k j => if k = o ∧ j < n then s q j else s k j
abbrev mX0_copyFrom : zM := (yX0_copyFrom, cX0_copyFrom, 2, none, { frames := 0, cells := 0, slots := 0, locals := 0 })
theorem cp0_eq (s : zS) (o q : Nat) : (zu (zu (zu (zu s o 0 (s q 0)) o 1 ((zu s o 0 (s q 0)) q 1)) o 2 ((zu (zu s o 0 (s q 0)) o 1 ((zu s o 0 (s q 0)) q 1)) q 2)) o 3 ((zu (zu (zu s o 0 (s q 0)) o 1 ((zu s o 0 (s q 0)) q 1)) o 2 ((zu (zu s o 0 (s q 0)) o 1 ((zu s o 0 (s q 0)) q 1)) q 2)) q 3)) = zcp s o q 4 := by
  funext k j
  by_cases hk : k = o
  · subst hk
    rcases (show j = 0 ∨ j = 1 ∨ j = 2 ∨ j = 3 ∨ 4 ≤ j by omega) with rfl | rfl | rfl | rfl | hj
    · simp [zu, zcp]
    · simp [zu, zcp]
    · simp [zu, zcp]
    · simp [zu, zcp]
    · simp [zu, zcp, show ¬ j = 0 by omega, show ¬ j = 1 by omega, show ¬ j = 2 by omega, show ¬ j = 3 by omega, show ¬ j < 4 by omega]
  · simp [zu, zcp, hk]
set_option maxRecDepth 100000 in
set_option maxHeartbeats 4000000 in
theorem c_X0_copyFrom (l : Launch) (B : zB) (s : zS) (t : zL) (o q : Nat) (ho : zk o = 0) (lo : o < 124) (hq : zk q = 0) (lq : q < 124) : zD l B mX0_copyFrom s t [.ref (B.1 + o), .ref (B.1 + q)] none (zcp s o q 4) t := by
  refine z_met (by decide) (Nat.le_of_ble_eq_true rfl) ?_
  intro X hl C E hnm
  show Zf X B mX0_copyFrom s t 0 [(0, .ref (B.1 + o)), (1, .ref (B.1 + q))] []
  refine z_aload_n C dX0_copyFrom_0 0 rfl rfl ?_
  refine z_aload_n C dX0_copyFrom_1 1 rfl rfl ?_
  refine f_get0 C 0 (v := .int (s q 0)) (by decide) tw_117 rfl hq lq rfl dX0_copyFrom_2 ?_
  refine f_put0_0 C tw_117 ho lo dX0_copyFrom_5 ?_
  refine z_aload_n C dX0_copyFrom_8 0 rfl rfl ?_
  refine z_aload_n C dX0_copyFrom_9 1 rfl rfl ?_
  refine f_get0 C 1 (v := .int ((zu s o 0 (s q 0)) q 1)) (by decide) tw_120 rfl hq lq rfl dX0_copyFrom_10 ?_
  refine f_put0_1 C tw_120 ho lo dX0_copyFrom_13 ?_
  refine z_aload_n C dX0_copyFrom_16 0 rfl rfl ?_
  refine z_aload_n C dX0_copyFrom_17 1 rfl rfl ?_
  refine f_get0 C 2 (v := .int ((zu (zu s o 0 (s q 0)) o 1 ((zu s o 0 (s q 0)) q 1)) q 2)) (by decide) tw_123 rfl hq lq rfl dX0_copyFrom_18 ?_
  refine f_put0_2 C tw_123 ho lo dX0_copyFrom_21 ?_
  refine z_aload_n C dX0_copyFrom_24 0 rfl rfl ?_
  refine z_aload_n C dX0_copyFrom_25 1 rfl rfl ?_
  refine f_get0 C 3 (v := .int ((zu (zu (zu s o 0 (s q 0)) o 1 ((zu s o 0 (s q 0)) q 1)) o 2 ((zu (zu s o 0 (s q 0)) o 1 ((zu s o 0 (s q 0)) q 1)) q 2)) q 3)) (by decide) tw_126 rfl hq lq rfl dX0_copyFrom_26 ?_
  refine f_put0_3 C tw_126 ho lo dX0_copyFrom_29 ?_
  refine z_vret C E rfl dX0_copyFrom_32 rfl (Nat.le_refl _) ⟨rfl, congrArg (fun z => zg B z t) (cp0_eq s o q)⟩
abbrev mX4_copyFrom : zM := (yX4_copyFrom, cX4_copyFrom, 2, none, { frames := 0, cells := 0, slots := 0, locals := 0 })
theorem cp4_eq (s : zS) (o q : Nat) : (zu (zu (zu (zu s o 0 (s q 0)) o 1 ((zu s o 0 (s q 0)) q 1)) o 2 ((zu (zu s o 0 (s q 0)) o 1 ((zu s o 0 (s q 0)) q 1)) q 2)) o 3 ((zu (zu (zu s o 0 (s q 0)) o 1 ((zu s o 0 (s q 0)) q 1)) o 2 ((zu (zu s o 0 (s q 0)) o 1 ((zu s o 0 (s q 0)) q 1)) q 2)) q 3)) = zcp s o q 4 := by
  funext k j
  by_cases hk : k = o
  · subst hk
    rcases (show j = 0 ∨ j = 1 ∨ j = 2 ∨ j = 3 ∨ 4 ≤ j by omega) with rfl | rfl | rfl | rfl | hj
    · simp [zu, zcp]
    · simp [zu, zcp]
    · simp [zu, zcp]
    · simp [zu, zcp]
    · simp [zu, zcp, show ¬ j = 0 by omega, show ¬ j = 1 by omega, show ¬ j = 2 by omega, show ¬ j = 3 by omega, show ¬ j < 4 by omega]
  · simp [zu, zcp, hk]
set_option maxRecDepth 100000 in
set_option maxHeartbeats 4000000 in
theorem c_X4_copyFrom (l : Launch) (B : zB) (s : zS) (t : zL) (o q : Nat) (ho : zk o = 4) (lo : o < 124) (hq : zk q = 4) (lq : q < 124) : zD l B mX4_copyFrom s t [.ref (B.1 + o), .ref (B.1 + q)] none (zcp s o q 4) t := by
  refine z_met (by decide) (Nat.le_of_ble_eq_true rfl) ?_
  intro X hl C E hnm
  show Zf X B mX4_copyFrom s t 0 [(0, .ref (B.1 + o)), (1, .ref (B.1 + q))] []
  refine z_aload_n C dX4_copyFrom_0 0 rfl rfl ?_
  refine z_aload_n C dX4_copyFrom_1 1 rfl rfl ?_
  refine f_get4 C 0 (v := .int (s q 0)) (by decide) tw_145 rfl hq lq rfl dX4_copyFrom_2 ?_
  refine f_put4_0 C tw_145 ho lo dX4_copyFrom_5 ?_
  refine z_aload_n C dX4_copyFrom_8 0 rfl rfl ?_
  refine z_aload_n C dX4_copyFrom_9 1 rfl rfl ?_
  refine f_get4 C 1 (v := .int ((zu s o 0 (s q 0)) q 1)) (by decide) tw_148 rfl hq lq rfl dX4_copyFrom_10 ?_
  refine f_put4_1 C tw_148 ho lo dX4_copyFrom_13 ?_
  refine z_aload_n C dX4_copyFrom_16 0 rfl rfl ?_
  refine z_aload_n C dX4_copyFrom_17 1 rfl rfl ?_
  refine f_get4 C 2 (v := .int ((zu (zu s o 0 (s q 0)) o 1 ((zu s o 0 (s q 0)) q 1)) q 2)) (by decide) tw_151 rfl hq lq rfl dX4_copyFrom_18 ?_
  refine f_put4_2 C tw_151 ho lo dX4_copyFrom_21 ?_
  refine z_aload_n C dX4_copyFrom_24 0 rfl rfl ?_
  refine z_aload_n C dX4_copyFrom_25 1 rfl rfl ?_
  refine f_get4 C 3 (v := .int ((zu (zu (zu s o 0 (s q 0)) o 1 ((zu s o 0 (s q 0)) q 1)) o 2 ((zu (zu s o 0 (s q 0)) o 1 ((zu s o 0 (s q 0)) q 1)) q 2)) q 3)) (by decide) tw_154 rfl hq lq rfl dX4_copyFrom_26 ?_
  refine f_put4_3 C tw_154 ho lo dX4_copyFrom_29 ?_
  refine z_vret C E rfl dX4_copyFrom_32 rfl (Nat.le_refl _) ⟨rfl, congrArg (fun z => zg B z t) (cp4_eq s o q)⟩
abbrev mX8_copyFrom : zM := (yX8_copyFrom, cX8_copyFrom, 2, none, { frames := 0, cells := 0, slots := 0, locals := 0 })
theorem cp8_eq (s : zS) (o q : Nat) : (zu (zu (zu (zu (zu (zu s o 0 (s q 0)) o 1 ((zu s o 0 (s q 0)) q 1)) o 2 ((zu (zu s o 0 (s q 0)) o 1 ((zu s o 0 (s q 0)) q 1)) q 2)) o 3 ((zu (zu (zu s o 0 (s q 0)) o 1 ((zu s o 0 (s q 0)) q 1)) o 2 ((zu (zu s o 0 (s q 0)) o 1 ((zu s o 0 (s q 0)) q 1)) q 2)) q 3)) o 4 ((zu (zu (zu (zu s o 0 (s q 0)) o 1 ((zu s o 0 (s q 0)) q 1)) o 2 ((zu (zu s o 0 (s q 0)) o 1 ((zu s o 0 (s q 0)) q 1)) q 2)) o 3 ((zu (zu (zu s o 0 (s q 0)) o 1 ((zu s o 0 (s q 0)) q 1)) o 2 ((zu (zu s o 0 (s q 0)) o 1 ((zu s o 0 (s q 0)) q 1)) q 2)) q 3)) q 4)) o 5 ((zu (zu (zu (zu (zu s o 0 (s q 0)) o 1 ((zu s o 0 (s q 0)) q 1)) o 2 ((zu (zu s o 0 (s q 0)) o 1 ((zu s o 0 (s q 0)) q 1)) q 2)) o 3 ((zu (zu (zu s o 0 (s q 0)) o 1 ((zu s o 0 (s q 0)) q 1)) o 2 ((zu (zu s o 0 (s q 0)) o 1 ((zu s o 0 (s q 0)) q 1)) q 2)) q 3)) o 4 ((zu (zu (zu (zu s o 0 (s q 0)) o 1 ((zu s o 0 (s q 0)) q 1)) o 2 ((zu (zu s o 0 (s q 0)) o 1 ((zu s o 0 (s q 0)) q 1)) q 2)) o 3 ((zu (zu (zu s o 0 (s q 0)) o 1 ((zu s o 0 (s q 0)) q 1)) o 2 ((zu (zu s o 0 (s q 0)) o 1 ((zu s o 0 (s q 0)) q 1)) q 2)) q 3)) q 4)) q 5)) = zcp s o q 6 := by
  funext k j
  by_cases hk : k = o
  · subst hk
    rcases (show j = 0 ∨ j = 1 ∨ j = 2 ∨ j = 3 ∨ j = 4 ∨ j = 5 ∨ 6 ≤ j by omega) with rfl | rfl | rfl | rfl | rfl | rfl | hj
    · simp [zu, zcp]
    · simp [zu, zcp]
    · simp [zu, zcp]
    · simp [zu, zcp]
    · simp [zu, zcp]
    · simp [zu, zcp]
    · simp [zu, zcp, show ¬ j = 0 by omega, show ¬ j = 1 by omega, show ¬ j = 2 by omega, show ¬ j = 3 by omega, show ¬ j = 4 by omega, show ¬ j = 5 by omega, show ¬ j < 6 by omega]
  · simp [zu, zcp, hk]
set_option maxRecDepth 100000 in
set_option maxHeartbeats 4000000 in
theorem c_X8_copyFrom (l : Launch) (B : zB) (s : zS) (t : zL) (o q : Nat) (ho : zk o = 8) (lo : o < 124) (hq : zk q = 8) (lq : q < 124) : zD l B mX8_copyFrom s t [.ref (B.1 + o), .ref (B.1 + q)] none (zcp s o q 6) t := by
  refine z_met (by decide) (Nat.le_of_ble_eq_true rfl) ?_
  intro X hl C E hnm
  show Zf X B mX8_copyFrom s t 0 [(0, .ref (B.1 + o)), (1, .ref (B.1 + q))] []
  refine z_aload_n C dX8_copyFrom_0 0 rfl rfl ?_
  refine z_aload_n C dX8_copyFrom_1 1 rfl rfl ?_
  refine f_get8 C 0 (v := .int (s q 0)) (by decide) tw_83 rfl hq lq rfl dX8_copyFrom_2 ?_
  refine f_put8_0 C tw_83 ho lo dX8_copyFrom_5 ?_
  refine z_aload_n C dX8_copyFrom_8 0 rfl rfl ?_
  refine z_aload_n C dX8_copyFrom_9 1 rfl rfl ?_
  refine f_get8 C 1 (v := .int ((zu s o 0 (s q 0)) q 1)) (by decide) tw_86 rfl hq lq rfl dX8_copyFrom_10 ?_
  refine f_put8_1 C tw_86 ho lo dX8_copyFrom_13 ?_
  refine z_aload_n C dX8_copyFrom_16 0 rfl rfl ?_
  refine z_aload_n C dX8_copyFrom_17 1 rfl rfl ?_
  refine f_get8 C 2 (v := .int ((zu (zu s o 0 (s q 0)) o 1 ((zu s o 0 (s q 0)) q 1)) q 2)) (by decide) tw_88 rfl hq lq rfl dX8_copyFrom_18 ?_
  refine f_put8_2 C tw_88 ho lo dX8_copyFrom_21 ?_
  refine z_aload_n C dX8_copyFrom_24 0 rfl rfl ?_
  refine z_aload_n C dX8_copyFrom_25 1 rfl rfl ?_
  refine f_get8 C 3 (v := .int ((zu (zu (zu s o 0 (s q 0)) o 1 ((zu s o 0 (s q 0)) q 1)) o 2 ((zu (zu s o 0 (s q 0)) o 1 ((zu s o 0 (s q 0)) q 1)) q 2)) q 3)) (by decide) tw_91 rfl hq lq rfl dX8_copyFrom_26 ?_
  refine f_put8_3 C tw_91 ho lo dX8_copyFrom_29 ?_
  refine z_aload_n C dX8_copyFrom_32 0 rfl rfl ?_
  refine z_aload_n C dX8_copyFrom_33 1 rfl rfl ?_
  refine f_get8 C 4 (v := .int ((zu (zu (zu (zu s o 0 (s q 0)) o 1 ((zu s o 0 (s q 0)) q 1)) o 2 ((zu (zu s o 0 (s q 0)) o 1 ((zu s o 0 (s q 0)) q 1)) q 2)) o 3 ((zu (zu (zu s o 0 (s q 0)) o 1 ((zu s o 0 (s q 0)) q 1)) o 2 ((zu (zu s o 0 (s q 0)) o 1 ((zu s o 0 (s q 0)) q 1)) q 2)) q 3)) q 4)) (by decide) tw_93 rfl hq lq rfl dX8_copyFrom_34 ?_
  refine f_put8_4 C tw_93 ho lo dX8_copyFrom_37 ?_
  refine z_aload_n C dX8_copyFrom_40 0 rfl rfl ?_
  refine z_aload_n C dX8_copyFrom_41 1 rfl rfl ?_
  refine f_get8 C 5 (v := .int ((zu (zu (zu (zu (zu s o 0 (s q 0)) o 1 ((zu s o 0 (s q 0)) q 1)) o 2 ((zu (zu s o 0 (s q 0)) o 1 ((zu s o 0 (s q 0)) q 1)) q 2)) o 3 ((zu (zu (zu s o 0 (s q 0)) o 1 ((zu s o 0 (s q 0)) q 1)) o 2 ((zu (zu s o 0 (s q 0)) o 1 ((zu s o 0 (s q 0)) q 1)) q 2)) q 3)) o 4 ((zu (zu (zu (zu s o 0 (s q 0)) o 1 ((zu s o 0 (s q 0)) q 1)) o 2 ((zu (zu s o 0 (s q 0)) o 1 ((zu s o 0 (s q 0)) q 1)) q 2)) o 3 ((zu (zu (zu s o 0 (s q 0)) o 1 ((zu s o 0 (s q 0)) q 1)) o 2 ((zu (zu s o 0 (s q 0)) o 1 ((zu s o 0 (s q 0)) q 1)) q 2)) q 3)) q 4)) q 5)) (by decide) tw_95 rfl hq lq rfl dX8_copyFrom_42 ?_
  refine f_put8_5 C tw_95 ho lo dX8_copyFrom_45 ?_
  refine z_vret C E rfl dX8_copyFrom_48 rfl (Nat.le_refl _) ⟨rfl, congrArg (fun z => zg B z t) (cp8_eq s o q)⟩
abbrev mX8_startOn : zM := (yX8_startOn, cX8_startOn, 2, none, { frames := 0, cells := 0, slots := 0, locals := 0 })
set_option maxRecDepth 100000 in
set_option maxHeartbeats 4000000 in
theorem c_X8_startOn (l : Launch) (B : zB) (s : zS) (t : zL) (o : Nat) (ho : zk o = 8) (lo : o < 124) (a : Int32) : zD l B mX8_startOn s t [.ref (B.1 + o), .int a] none (zu (zu (zu (zu (zu (zu s o 0 a) o 1 0) o 2 0) o 3 0) o 4 0) o 5 0) t := by
  refine z_met (by decide) (Nat.le_of_ble_eq_true rfl) ?_
  intro X hl C E hnm
  show Zf X B mX8_startOn s t 0 [(0, .ref (B.1 + o)), (1, .int a)] []
  refine z_aload_n C dX8_startOn_0 0 rfl rfl ?_
  refine z_iload_n C dX8_startOn_1 1 rfl rfl ?_
  refine f_put8_0 C tw_83 ho lo dX8_startOn_2 ?_
  refine z_aload_n C dX8_startOn_5 0 rfl rfl ?_
  refine z_iconst C dX8_startOn_6 ki_0 ?_
  refine f_put8_1 C tw_86 ho lo dX8_startOn_7 ?_
  refine z_aload_n C dX8_startOn_10 0 rfl rfl ?_
  refine z_iconst C dX8_startOn_11 ki_0 ?_
  refine f_put8_2 C tw_88 ho lo dX8_startOn_12 ?_
  refine z_aload_n C dX8_startOn_15 0 rfl rfl ?_
  refine z_iconst C dX8_startOn_16 ki_0 ?_
  refine f_put8_3 C tw_91 ho lo dX8_startOn_17 ?_
  refine z_aload_n C dX8_startOn_20 0 rfl rfl ?_
  refine z_iconst C dX8_startOn_21 ki_0 ?_
  refine f_put8_4 C tw_93 ho lo dX8_startOn_22 ?_
  refine z_aload_n C dX8_startOn_25 0 rfl rfl ?_
  refine z_iconst C dX8_startOn_26 ki_0 ?_
  refine f_put8_5 C tw_95 ho lo dX8_startOn_27 ?_
  refine z_vret C E rfl dX8_startOn_30 rfl (Nat.le_refl _) ⟨rfl, rfl⟩
/-- a sitting ends: force, passed, bought, locked, day -/
def wClose (s : zS) (o : Nat) : zS := zu (zu (zu (zu (zu s o 2 (s o 2 ||| s o 1)) o 1 0) o 3 0) o 4 0) o 0 (s o 0 + 1)
abbrev mX8_close : zM := (yX8_close, cX8_close, 1, none, { frames := 0, cells := 0, slots := 0, locals := 0 })
set_option maxRecDepth 100000 in
set_option maxHeartbeats 4000000 in
theorem c_X8_close (l : Launch) (B : zB) (s : zS) (t : zL) (o : Nat) (ho : zk o = 8) (lo : o < 124) : zD l B mX8_close s t [.ref (B.1 + o)] none (wClose s o) t := by
  refine z_met (by decide) (Nat.le_of_ble_eq_true rfl) ?_
  intro X hl C E hnm
  show Zf X B mX8_close s t 0 [(0, .ref (B.1 + o))] []
  refine z_aload_n C dX8_close_0 0 rfl rfl ?_
  refine z_dup C dX8_close_1 rfl ?_
  refine f_get8 C 2 (v := .int (s o 2)) (by decide) tw_88 rfl ho lo rfl dX8_close_2 ?_
  refine z_aload_n C dX8_close_5 0 rfl rfl ?_
  refine f_get8 C 1 (v := .int (s o 1)) (by decide) tw_86 rfl ho lo rfl dX8_close_6 ?_
  refine z_ior C dX8_close_9 ?_
  refine f_put8_2 C tw_88 ho lo dX8_close_10 ?_
  refine z_aload_n C dX8_close_13 0 rfl rfl ?_
  refine z_iconst C dX8_close_14 ki_0 ?_
  refine f_put8_1 C tw_86 ho lo dX8_close_15 ?_
  refine z_aload_n C dX8_close_18 0 rfl rfl ?_
  refine z_iconst C dX8_close_19 ki_0 ?_
  refine f_put8_3 C tw_91 ho lo dX8_close_20 ?_
  refine z_aload_n C dX8_close_23 0 rfl rfl ?_
  refine z_iconst C dX8_close_24 ki_0 ?_
  refine f_put8_4 C tw_93 ho lo dX8_close_25 ?_
  refine z_aload_n C dX8_close_28 0 rfl rfl ?_
  refine z_dup C dX8_close_29 rfl ?_
  refine f_get8 C 0 (v := .int ((zu (zu (zu (zu s o 2 ((s o 2) ||| (s o 1))) o 1 0) o 3 0) o 4 0) o 0)) (by decide) tw_83 rfl ho lo rfl dX8_close_30 ?_
  refine z_iconst C dX8_close_33 ki_1 ?_
  refine z_iadd C dX8_close_34 ?_
  refine f_put8_0 C tw_83 ho lo dX8_close_35 ?_
  refine z_vret C E rfl dX8_close_38 rfl (Nat.le_refl _) ⟨rfl, congrArg (fun z => zg B z t) (by simp [wClose, zu])⟩
abbrev mX8_freeLaws : zM := (yX8_freeLaws, cX8_freeLaws, 1, (some .int), { frames := 0, cells := 0, slots := 0, locals := 0 })
set_option maxRecDepth 100000 in
set_option maxHeartbeats 4000000 in
theorem c_X8_freeLaws (l : Launch) (B : zB) (s : zS) (t : zL) (o : Nat) (ho : zk o = 8) (lo : o < 124) : zD l B mX8_freeLaws s t [.ref (B.1 + o)] (some (.int (255 &&& ((s o 1 ||| s o 2) ^^^ (-1))))) s t := by
  refine z_met (by decide) (Nat.le_of_ble_eq_true rfl) ?_
  intro X hl C E hnm
  show Zf X B mX8_freeLaws s t 0 [(0, .ref (B.1 + o))] []
  refine z_sipush C dX8_freeLaws_0 ks_255 ?_
  refine z_aload_n C dX8_freeLaws_3 0 rfl rfl ?_
  refine f_get8 C 1 (v := .int (s o 1)) (by decide) tw_86 rfl ho lo rfl dX8_freeLaws_4 ?_
  refine z_aload_n C dX8_freeLaws_7 0 rfl rfl ?_
  refine f_get8 C 2 (v := .int (s o 2)) (by decide) tw_88 rfl ho lo rfl dX8_freeLaws_8 ?_
  refine z_ior C dX8_freeLaws_11 ?_
  refine z_iconst C dX8_freeLaws_12 ki_m1 ?_
  refine z_ixor C dX8_freeLaws_13 ?_
  refine z_iand C dX8_freeLaws_14 ?_
  refine z_iret C E rfl dX8_freeLaws_15 rfl (Nat.le_refl _) ⟨rfl, rfl⟩
abbrev mX5_joyBy : zM := (yX5_joyBy, cX5_joyBy, 3, (some .int), { frames := 0, cells := 0, slots := 0, locals := 0 })
set_option maxRecDepth 100000 in
set_option maxHeartbeats 4000000 in
theorem c_X5_joyBy (l : Launch) (B : zB) (s : zS) (t : zL) (o ci : Nat) (a b : Int32) : zD l B mX5_joyBy s t [.ref (B.1 + o), .int a, .int b] (some (.int (2 * a - 3 * b))) s t := by
  refine z_met (by decide) (Nat.le_of_ble_eq_true rfl) ?_
  intro X hl C E hnm
  show Zf X B mX5_joyBy s t 0 [(0, .ref (B.1 + o)), (1, .int a), (2, .int b)] []
  refine z_iconst C dX5_joyBy_0 ki_2 ?_
  refine z_iload_n C dX5_joyBy_1 1 rfl rfl ?_
  refine z_imul C dX5_joyBy_2 ?_
  refine z_iconst C dX5_joyBy_3 ki_3 ?_
  refine z_iload_n C dX5_joyBy_4 2 rfl rfl ?_
  refine z_imul C dX5_joyBy_5 ?_
  refine z_isub C dX5_joyBy_6 ?_
  refine z_iret C E rfl dX5_joyBy_7 rfl (Nat.le_refl _) ⟨rfl, rfl⟩
abbrev mX5_refuses : zM := (yX5_refuses, cX5_refuses, 4, (some .boolean), { frames := 0, cells := 0, slots := 0, locals := 0 })
set_option maxRecDepth 100000 in
set_option maxHeartbeats 4000000 in
theorem c_X5_refuses (l : Launch) (B : zB) (s : zS) (t : zL) (o ci : Nat) (a b d : Int32) : zD l B mX5_refuses s t [.ref (B.1 + o), .int a, .int b, .int d] (some (.int (zi (decide (a < 0))))) s t := by
  refine z_met (by decide) (Nat.le_of_ble_eq_true rfl) ?_
  intro X hl C E hnm
  show Zf X B mX5_refuses s t 0 [(0, .ref (B.1 + o)), (1, .int a), (2, .int b), (3, .int d)] []
  refine z_iload_n C dX5_refuses_0 1 rfl rfl ?_
  refine z_if_ge C 8 dX5_refuses_1 (by decide) (fun h1 => ?_) (fun h1 => ?_)
  · refine z_iconst C dX5_refuses_8 ki_0 ?_
    refine z_zret C E rfl dX5_refuses_9 rfl rfl (Nat.le_refl _) ⟨by simp [zi, *], rfl⟩
  · refine z_iconst C dX5_refuses_4 ki_1 ?_
    refine z_goto C 9 dX5_refuses_5 (by decide) ?_
    refine z_zret C E rfl dX5_refuses_9 rfl rfl (Nat.le_refl _) ⟨by simp [zi, *], rfl⟩
abbrev mX5_costAt : zM := (yX5_costAt, cX5_costAt, 2, (some .int), { frames := 0, cells := 0, slots := 0, locals := 0 })
set_option maxRecDepth 100000 in
set_option maxHeartbeats 4000000 in
theorem c_X5_costAt (l : Launch) (B : zB) (s : zS) (t : zL) (o : Nat) (a : Int32) : zD l B mX5_costAt s t [.ref (B.1 + o), .int a] (some (.int a)) s t := by
  refine z_met (by decide) (Nat.le_of_ble_eq_true rfl) ?_
  intro X hl C E hnm
  show Zf X B mX5_costAt s t 0 [(0, .ref (B.1 + o)), (1, .int a)] []
  refine z_iload_n C dX5_costAt_0 1 rfl rfl ?_
  refine z_iret C E rfl dX5_costAt_1 rfl (Nat.le_refl _) ⟨rfl, rfl⟩
abbrev mX10_joyBy : zM := (yX10_joyBy, cX10_joyBy, 3, (some .int), { frames := 1, cells := 0, slots := 0, locals := 22 })
set_option maxRecDepth 100000 in
set_option maxHeartbeats 4000000 in
theorem c_X10_joyBy (l : Launch) (B : zB) (s : zS) (t : zL) (o : Nat) (a b : Int32) (ho : zk o = 10) (lo : o < 124) : zD l B mX10_joyBy s t [.ref (B.1 + o), .int a, .int b] (some (.int (2 * a - 3 * b + 2))) s t := by
  refine z_met (by decide) (Nat.le_of_ble_eq_true rfl) ?_
  intro X hl C E hnm
  show Zf X B mX10_joyBy s t 0 [(0, .ref (B.1 + o)), (1, .int a), (2, .int b)] []
  refine z_aload_n C dX10_joyBy_0 0 rfl rfl ?_
  refine z_iload_n C dX10_joyBy_1 1 rfl rfl ?_
  refine z_iload_n C dX10_joyBy_2 2 rfl rfl ?_
  refine f_callPr C hl (As := [.int a, .int b]) (rest := []) (c_X5_joyBy l B s t o 0 a b) lo (zg_10 ho) rfl (zCS (nA := 2) C rfl rfl tw_502 tw_2 tw_498 tw_493 tw_49 tw_491 (by decide +kernel) ⟨Nat.le_of_ble_eq_true rfl, Nat.le_of_ble_eq_true rfl⟩) rfl rfl (Nat.le_of_ble_eq_true rfl) dX10_joyBy_3 (Nat.zero_le _) ?_
  refine z_iconst C dX10_joyBy_6 ki_2 ?_
  refine z_iadd C dX10_joyBy_7 ?_
  refine z_iret C E rfl dX10_joyBy_8 rfl (Nat.le_refl _) ⟨rfl, rfl⟩
abbrev mX7_refuses : zM := (yX7_refuses, cX7_refuses, 4, (some .boolean), { frames := 1, cells := 0, slots := 0, locals := 23 })
set_option maxRecDepth 100000 in
set_option maxHeartbeats 4000000 in
theorem c_X7_refuses (l : Launch) (B : zB) (s : zS) (t : zL) (o : Nat) (a b d : Int32) (ho : zk o = 7) (lo : o < 124) : zD l B mX7_refuses s t [.ref (B.1 + o), .int a, .int b, .int d] (some (.int (zi (decide (a < 0) || decide (0 < b))))) s t := by
  refine z_met (by decide) (Nat.le_of_ble_eq_true rfl) ?_
  intro X hl C E hnm
  show Zf X B mX7_refuses s t 0 [(0, .ref (B.1 + o)), (1, .int a), (2, .int b), (3, .int d)] []
  refine z_aload_n C dX7_refuses_0 0 rfl rfl ?_
  refine z_iload_n C dX7_refuses_1 1 rfl rfl ?_
  refine z_iload_n C dX7_refuses_2 2 rfl rfl ?_
  refine z_iload_n C dX7_refuses_3 3 rfl rfl ?_
  refine f_callPr C hl (As := [.int a, .int b, .int d]) (rest := []) (c_X5_refuses l B s t o 0 a b d) lo (zg_7 ho) rfl (zCS (nA := 3) C rfl rfl tw_523 tw_2 tw_513 tw_506 tw_42 tw_504 (by decide +kernel) ⟨Nat.le_of_ble_eq_true rfl, Nat.le_of_ble_eq_true rfl⟩) rfl rfl (Nat.le_of_ble_eq_true rfl) dX7_refuses_4 (Nat.zero_le _) ?_
  refine z_ifb_ne C 14 dX7_refuses_7 (by decide) (fun h7 => ?_) (fun h7 => ?_)
  · refine z_iconst C dX7_refuses_14 ki_1 ?_
    refine z_goto C 19 dX7_refuses_15 (by decide) ?_
    refine z_zret C E rfl dX7_refuses_19 rfl rfl (Nat.le_refl _) ⟨by simp_all [zi], rfl⟩
  · refine z_iload_n C dX7_refuses_10 2 rfl rfl ?_
    refine z_if_le C 18 dX7_refuses_11 (by decide) (fun h11 => ?_) (fun h11 => ?_)
    · refine z_iconst C dX7_refuses_18 ki_0 ?_
      refine z_zret C E rfl dX7_refuses_19 rfl rfl (Nat.le_refl _) ⟨by simp_all [zi], rfl⟩
    · refine z_iconst C dX7_refuses_14 ki_1 ?_
      refine z_goto C 19 dX7_refuses_15 (by decide) ?_
      refine z_zret C E rfl dX7_refuses_19 rfl rfl (Nat.le_refl _) ⟨by simp_all [zi], rfl⟩

set_option maxRecDepth 100000 in
set_option maxHeartbeats 4000000 in
theorem c_X7_refuses2 (l : Launch) (B : zB) (s : zS) (t : zL) (o : Nat) (a b d : Int32) (ho : zk o = 2) (lo : o < 124) : zD l B mX7_refuses s t [.ref (B.1 + o), .int a, .int b, .int d] (some (.int (zi (decide (a < 0) || decide (0 < b))))) s t := by
  refine z_met (by decide) (Nat.le_of_ble_eq_true rfl) ?_
  intro X hl C E hnm
  show Zf X B mX7_refuses s t 0 [(0, .ref (B.1 + o)), (1, .int a), (2, .int b), (3, .int d)] []
  refine z_aload_n C dX7_refuses_0 0 rfl rfl ?_
  refine z_iload_n C dX7_refuses_1 1 rfl rfl ?_
  refine z_iload_n C dX7_refuses_2 2 rfl rfl ?_
  refine z_iload_n C dX7_refuses_3 3 rfl rfl ?_
  refine f_callPr C hl (As := [.int a, .int b, .int d]) (rest := []) (c_X5_refuses l B s t o 0 a b d) lo (zg_2 ho) rfl (zCS (nA := 3) C rfl rfl tw_523 tw_2 tw_513 tw_506 tw_42 tw_504 (by decide +kernel) ⟨Nat.le_of_ble_eq_true rfl, Nat.le_of_ble_eq_true rfl⟩) rfl rfl (Nat.le_of_ble_eq_true rfl) dX7_refuses_4 (Nat.zero_le _) ?_
  refine z_ifb_ne C 14 dX7_refuses_7 (by decide) (fun h7 => ?_) (fun h7 => ?_)
  · refine z_iconst C dX7_refuses_14 ki_1 ?_
    refine z_goto C 19 dX7_refuses_15 (by decide) ?_
    refine z_zret C E rfl dX7_refuses_19 rfl rfl (Nat.le_refl _) ⟨by simp_all [zi], rfl⟩
  · refine z_iload_n C dX7_refuses_10 2 rfl rfl ?_
    refine z_if_le C 18 dX7_refuses_11 (by decide) (fun h11 => ?_) (fun h11 => ?_)
    · refine z_iconst C dX7_refuses_18 ki_0 ?_
      refine z_zret C E rfl dX7_refuses_19 rfl rfl (Nat.le_refl _) ⟨by simp_all [zi], rfl⟩
    · refine z_iconst C dX7_refuses_14 ki_1 ?_
      refine z_goto C 19 dX7_refuses_15 (by decide) ?_
      refine z_zret C E rfl dX7_refuses_19 rfl rfl (Nat.le_refl _) ⟨by simp_all [zi], rfl⟩

set_option maxRecDepth 100000 in
set_option maxHeartbeats 4000000 in
theorem c_X10_joyBy3 (l : Launch) (B : zB) (s : zS) (t : zL) (o : Nat) (a b : Int32) (ho : zk o = 3) (lo : o < 124) : zD l B mX10_joyBy s t [.ref (B.1 + o), .int a, .int b] (some (.int (2 * a - 3 * b + 2))) s t := by
  refine z_met (by decide) (Nat.le_of_ble_eq_true rfl) ?_
  intro X hl C E hnm
  show Zf X B mX10_joyBy s t 0 [(0, .ref (B.1 + o)), (1, .int a), (2, .int b)] []
  refine z_aload_n C dX10_joyBy_0 0 rfl rfl ?_
  refine z_iload_n C dX10_joyBy_1 1 rfl rfl ?_
  refine z_iload_n C dX10_joyBy_2 2 rfl rfl ?_
  refine f_callPr C hl (As := [.int a, .int b]) (rest := []) (c_X5_joyBy l B s t o 0 a b) lo (zg_3 ho) rfl (zCS (nA := 2) C rfl rfl tw_502 tw_2 tw_498 tw_493 tw_49 tw_491 (by decide +kernel) ⟨Nat.le_of_ble_eq_true rfl, Nat.le_of_ble_eq_true rfl⟩) rfl rfl (Nat.le_of_ble_eq_true rfl) dX10_joyBy_3 (Nat.zero_le _) ?_
  refine z_iconst C dX10_joyBy_6 ki_2 ?_
  refine z_iadd C dX10_joyBy_7 ?_
  refine z_iret C E rfl dX10_joyBy_8 rfl (Nat.le_refl _) ⟨rfl, rfl⟩
abbrev mX2_refuses : zM := (yX2_refuses, cX2_refuses, 4, (some .boolean), { frames := 2, cells := 0, slots := 0, locals := 46 })
set_option maxRecDepth 100000 in
set_option maxHeartbeats 4000000 in
theorem c_X2_refuses (l : Launch) (B : zB) (s : zS) (t : zL) (o : Nat) (a b d : Int32) (ho : zk o = 2) (lo : o < 124) : zD l B mX2_refuses s t [.ref (B.1 + o), .int a, .int b, .int d] (some (.int (zi ((decide (a < 0) || decide (0 < b)) || decide (d - d / 5 * 5 = 0))))) s t := by
  refine z_met (by decide) (Nat.le_of_ble_eq_true rfl) ?_
  intro X hl C E hnm
  show Zf X B mX2_refuses s t 0 [(0, .ref (B.1 + o)), (1, .int a), (2, .int b), (3, .int d)] []
  refine z_aload_n C dX2_refuses_0 0 rfl rfl ?_
  refine z_iload_n C dX2_refuses_1 1 rfl rfl ?_
  refine z_iload_n C dX2_refuses_2 2 rfl rfl ?_
  refine z_iload_n C dX2_refuses_3 3 rfl rfl ?_
  refine f_callPr C hl (As := [.int a, .int b, .int d]) (rest := []) (c_X7_refuses2 l B s t o a b d ho lo) lo (zg_2 ho) rfl (zCS (nA := 3) C rfl rfl tw_512 tw_3 tw_510 tw_1108 tw_70 tw_511 (by decide +kernel) ⟨Nat.le_of_ble_eq_true rfl, Nat.le_of_ble_eq_true rfl⟩) rfl rfl (Nat.le_of_ble_eq_true rfl) dX2_refuses_4 (Nat.zero_le _) ?_
  refine z_ifb_ne C 16 dX2_refuses_7 (by decide) (fun h7 => ?_) (fun h7 => ?_)
  · refine z_iconst C dX2_refuses_16 ki_1 ?_
    refine z_goto C 21 dX2_refuses_17 (by decide) ?_
    refine z_zret C E rfl dX2_refuses_21 rfl rfl (Nat.le_refl _) ⟨by simp_all [zi], rfl⟩
  · refine z_iload_n C dX2_refuses_10 3 rfl rfl ?_
    refine z_iconst C dX2_refuses_11 ki_5 ?_
    refine z_irem C dX2_refuses_12 (by decide) ?_
    refine z_if_ne C 20 dX2_refuses_13 (by decide) (fun h13 => ?_) (fun h13 => ?_)
    · refine z_iconst C dX2_refuses_20 ki_0 ?_
      refine z_zret C E rfl dX2_refuses_21 rfl rfl (Nat.le_refl _) ⟨by simp_all [zi], rfl⟩
    · refine z_iconst C dX2_refuses_16 ki_1 ?_
      refine z_goto C 21 dX2_refuses_17 (by decide) ?_
      refine z_zret C E rfl dX2_refuses_21 rfl rfl (Nat.le_refl _) ⟨by simp_all [zi], rfl⟩
abbrev mX6_costAt : zM := (yX6_costAt, cX6_costAt, 2, (some .int), { frames := 1, cells := 0, slots := 0, locals := 21 })
set_option maxRecDepth 100000 in
set_option maxHeartbeats 4000000 in
theorem c_X6_costAt (l : Launch) (B : zB) (s : zS) (t : zL) (o : Nat) (a : Int32) (ho : zk o = 6) (lo : o < 124) : zD l B mX6_costAt s t [.ref (B.1 + o), .int a] (some (.int ((a + 1) / 2))) s t := by
  refine z_met (by decide) (Nat.le_of_ble_eq_true rfl) ?_
  intro X hl C E hnm
  show Zf X B mX6_costAt s t 0 [(0, .ref (B.1 + o)), (1, .int a)] []
  refine z_aload_n C dX6_costAt_0 0 rfl rfl ?_
  refine z_iload_n C dX6_costAt_1 1 rfl rfl ?_
  refine f_callPr C hl (As := [.int a]) (rest := []) (c_X5_costAt l B s t o a) lo (zg_6 ho) rfl (zCS (nA := 1) C rfl rfl tw_557 tw_2 tw_554 tw_543 tw_56 tw_541 (by decide +kernel) ⟨Nat.le_of_ble_eq_true rfl, Nat.le_of_ble_eq_true rfl⟩) rfl rfl (Nat.le_of_ble_eq_true rfl) dX6_costAt_2 (Nat.zero_le _) ?_
  refine z_iconst C dX6_costAt_5 ki_1 ?_
  refine z_iadd C dX6_costAt_6 ?_
  refine z_iconst C dX6_costAt_7 ki_2 ?_
  refine z_idiv C dX6_costAt_8 (by decide) ?_
  refine z_iret C E rfl dX6_costAt_9 rfl (Nat.le_refl _) ⟨rfl, rfl⟩
