abbrev mX11_within : zM := (yX11_within, cX11_within, 2, (some .boolean), { frames := 0, cells := 0, slots := 0, locals := 0 })
set_option maxRecDepth 100000 in
set_option maxHeartbeats 4000000 in
theorem c_X11_within (l : Launch) (B : zB) (s : zS) (t : zL) (a b : Int32) : zD l B mX11_within s t [.int a, .int b] (some (.int (zi (wIn a b)))) s t := by
  refine z_met (by decide) (Nat.le_of_ble_eq_true rfl) ?_
  intro X hl C E hnm
  show Zf X B mX11_within s t 0 [(0, .int a), (1, .int b)] []
  refine z_iload_n C dX11_within_0 0 rfl rfl ?_
  refine z_if_lt C 13 dX11_within_1 (by decide) (fun h1 => ?_) (fun h1 => ?_)
  · refine z_iconst C dX11_within_13 ki_0 ?_
    refine z_zret C E rfl dX11_within_14 rfl rfl (Nat.le_refl _) ⟨by congr 2; simp [wIn, zi, *], rfl⟩
  · refine z_iload_n C dX11_within_4 0 rfl rfl ?_
    refine z_iload_n C dX11_within_5 1 rfl rfl ?_
    refine z_icmp_gt C 13 dX11_within_6 (by decide) (fun h6 => ?_) (fun h6 => ?_)
    · refine z_iconst C dX11_within_13 ki_0 ?_
      refine z_zret C E rfl dX11_within_14 rfl rfl (Nat.le_refl _) ⟨by congr 2; simp [wIn, zi, *], rfl⟩
    · refine z_iconst C dX11_within_9 ki_1 ?_
      refine z_goto C 14 dX11_within_10 (by decide) ?_
      refine z_zret C E rfl dX11_within_14 rfl rfl (Nat.le_refl _) ⟨by congr 2; simp [wIn, zi, *], rfl⟩
abbrev mX11_isBundle : zM := (yX11_isBundle, cX11_isBundle, 1, (some .boolean), { frames := 1, cells := 0, slots := 0, locals := 21 })
set_option maxRecDepth 100000 in
set_option maxHeartbeats 4000000 in
theorem c_X11_isBundle (l : Launch) (B : zB) (s : zS) (t : zL) (a : Int32) : zD l B mX11_isBundle s t [.int a] (some (.int (zi (wIn a 255)))) s t := by
  refine z_met (by decide) (Nat.le_of_ble_eq_true rfl) ?_
  intro X hl C E hnm
  show Zf X B mX11_isBundle s t 0 [(0, .int a)] []
  refine z_iload_n C dX11_isBundle_0 0 rfl rfl ?_
  refine z_sipush C dX11_isBundle_1 ks_255 ?_
  refine f_callSr C hl (As := [.int a, .int 255]) (rest := []) (c_X11_within l B s t a 255) (zCB (nA := 2) C rfl rfl tw_268 tw_1 tw_266 (by decide +kernel) ⟨Nat.le_of_ble_eq_true rfl, Nat.le_of_ble_eq_true rfl⟩) tw_267 rfl rfl (Nat.le_of_ble_eq_true rfl) dX11_isBundle_4 (Nat.zero_le _) ?_
  refine z_zret C E rfl dX11_isBundle_7 (zi_nar _) rfl (Nat.le_refl _) ⟨rfl, rfl⟩
abbrev mX11_oneIf : zM := (yX11_oneIf, cX11_oneIf, 1, (some .int), { frames := 0, cells := 0, slots := 0, locals := 0 })
set_option maxRecDepth 100000 in
set_option maxHeartbeats 4000000 in
theorem c_X11_oneIf (l : Launch) (B : zB) (s : zS) (t : zL) (b : Bool) : zD l B mX11_oneIf s t [.int (zi b)] (some (.int (zi b))) s t := by
  refine z_met (by decide) (Nat.le_of_ble_eq_true rfl) ?_
  intro X hl C E hnm
  show Zf X B mX11_oneIf s t 0 [(0, .int (zi b))] []
  refine z_iload_n C dX11_oneIf_0 0 rfl rfl ?_
  refine z_ifb_eq C 8 dX11_oneIf_1 (by decide) (fun h1 => ?_) (fun h1 => ?_)
  · refine z_iconst C dX11_oneIf_8 ki_0 ?_
    refine z_iret C E rfl dX11_oneIf_9 rfl (Nat.le_refl _) ⟨by simp [zi, *], rfl⟩
  · refine z_iconst C dX11_oneIf_4 ki_1 ?_
    refine z_goto C 9 dX11_oneIf_5 (by decide) ?_
    refine z_iret C E rfl dX11_oneIf_9 rfl (Nat.le_refl _) ⟨by simp [zi, *], rfl⟩
abbrev mX11_bitOf : zM := (yX11_bitOf, cX11_bitOf, 1, (some .int), { frames := 0, cells := 0, slots := 0, locals := 0 })
set_option maxRecDepth 100000 in
set_option maxHeartbeats 4000000 in
theorem c_X11_bitOf (l : Launch) (B : zB) (s : zS) (t : zL) (a : Int32) : zD l B mX11_bitOf s t [.int a] (some (.int (wBit a))) s t := by
  refine z_met (by decide) (Nat.le_of_ble_eq_true rfl) ?_
  intro X hl C E hnm
  show Zf X B mX11_bitOf s t 0 [(0, .int a)] []
  refine z_iload_n C dX11_bitOf_0 0 rfl rfl ?_
  refine z_if_ge C 8 dX11_bitOf_1 (by decide) (fun h1 => ?_) (fun h1 => ?_)
  · refine z_iconst C dX11_bitOf_8 ki_1 ?_
    refine z_iload_n C dX11_bitOf_9 0 rfl rfl ?_
    refine z_ishl C dX11_bitOf_10 ?_
    refine z_iret C E rfl dX11_bitOf_11 rfl (Nat.le_refl _) ⟨by congr 2; first | (rw [wBit, if_pos (by first | assumption | (apply Int32.not_le.mp; assumption))]) | (rw [wBit, if_neg (by first | assumption | (apply Int32.not_lt.mpr; assumption))]), rfl⟩
  · refine z_iconst C dX11_bitOf_4 ki_0 ?_
    refine z_goto C 11 dX11_bitOf_5 (by decide) ?_
    refine z_iret C E rfl dX11_bitOf_11 rfl (Nat.le_refl _) ⟨by congr 2; first | (rw [wBit, if_pos (by first | assumption | (apply Int32.not_le.mp; assumption))]) | (rw [wBit, if_neg (by first | assumption | (apply Int32.not_lt.mpr; assumption))]), rfl⟩
abbrev mX11_refuse : zM := (yX11_refuse, cX11_refuse, 2, (some .int), { frames := 0, cells := 0, slots := 0, locals := 0 })
set_option maxRecDepth 100000 in
set_option maxHeartbeats 4000000 in
theorem c_X11_refuse2 (l : Launch) (B : zB) (s : zS) (t : zL)  : zD l B mX11_refuse s t [.ref (B.1 + 0), .int (-2)] (some (.int (-2))) (zu s 0 9 (s 0 9 + 1)) t := by
  refine z_met (by decide) (Nat.le_of_ble_eq_true rfl) ?_
  intro X hl C E hnm
  show Zf X B mX11_refuse s t 0 [(0, .ref (B.1 + 0)), (1, .int (-2))] []
  refine z_iload_n C dX11_refuse_0 1 rfl rfl ?_
  refine z_lookup C (off := 27) 28 dX11_refuse_1 (by decide) (by decide) (by decide) ?_
  refine z_aload_n C dX11_refuse_28 0 rfl rfl ?_
  refine z_dup C dX11_refuse_29 rfl ?_
  refine f_get11 C 9 (v := .int (s 0 9)) (by decide) tw_234 rfl zk_0 zb_0 rfl dX11_refuse_30 ?_
  refine z_iconst C dX11_refuse_33 ki_1 ?_
  refine z_iadd C dX11_refuse_34 ?_
  refine f_put11_9 C tw_234 zk_0 zb_0 dX11_refuse_35 ?_
  refine z_goto C 64 dX11_refuse_38 (by decide) ?_
  refine z_iload_n C dX11_refuse_64 1 rfl rfl ?_
  refine z_iret C E rfl dX11_refuse_65 rfl (Nat.le_refl _) ⟨rfl, rfl⟩
set_option maxRecDepth 100000 in
set_option maxHeartbeats 4000000 in
theorem c_X11_refuse3 (l : Launch) (B : zB) (s : zS) (t : zL)  : zD l B mX11_refuse s t [.ref (B.1 + 0), .int (-3)] (some (.int (-3))) (zu s 0 10 (s 0 10 + 1)) t := by
  refine z_met (by decide) (Nat.le_of_ble_eq_true rfl) ?_
  intro X hl C E hnm
  show Zf X B mX11_refuse s t 0 [(0, .ref (B.1 + 0)), (1, .int (-3))] []
  refine z_iload_n C dX11_refuse_0 1 rfl rfl ?_
  refine z_lookup C (off := 40) 41 dX11_refuse_1 (by decide) (by decide) (by decide) ?_
  refine z_aload_n C dX11_refuse_41 0 rfl rfl ?_
  refine z_dup C dX11_refuse_42 rfl ?_
  refine f_get11 C 10 (v := .int (s 0 10)) (by decide) tw_235 rfl zk_0 zb_0 rfl dX11_refuse_43 ?_
  refine z_iconst C dX11_refuse_46 ki_1 ?_
  refine z_iadd C dX11_refuse_47 ?_
  refine f_put11_10 C tw_235 zk_0 zb_0 dX11_refuse_48 ?_
  refine z_goto C 64 dX11_refuse_51 (by decide) ?_
  refine z_iload_n C dX11_refuse_64 1 rfl rfl ?_
  refine z_iret C E rfl dX11_refuse_65 rfl (Nat.le_refl _) ⟨rfl, rfl⟩
set_option maxRecDepth 100000 in
set_option maxHeartbeats 4000000 in
theorem c_X11_refuse4 (l : Launch) (B : zB) (s : zS) (t : zL)  : zD l B mX11_refuse s t [.ref (B.1 + 0), .int (-4)] (some (.int (-4))) (zu s 0 11 (s 0 11 + 1)) t := by
  refine z_met (by decide) (Nat.le_of_ble_eq_true rfl) ?_
  intro X hl C E hnm
  show Zf X B mX11_refuse s t 0 [(0, .ref (B.1 + 0)), (1, .int (-4))] []
  refine z_iload_n C dX11_refuse_0 1 rfl rfl ?_
  refine z_lookup C (off := 53) 54 dX11_refuse_1 (by decide) (by decide) (by decide) ?_
  refine z_aload_n C dX11_refuse_54 0 rfl rfl ?_
  refine z_dup C dX11_refuse_55 rfl ?_
  refine f_get11 C 11 (v := .int (s 0 11)) (by decide) tw_236 rfl zk_0 zb_0 rfl dX11_refuse_56 ?_
  refine z_iconst C dX11_refuse_59 ki_1 ?_
  refine z_iadd C dX11_refuse_60 ?_
  refine f_put11_11 C tw_236 zk_0 zb_0 dX11_refuse_61 ?_
  refine z_iload_n C dX11_refuse_64 1 rfl rfl ?_
  refine z_iret C E rfl dX11_refuse_65 rfl (Nat.le_refl _) ⟨rfl, rfl⟩
