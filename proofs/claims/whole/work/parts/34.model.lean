theorem shr_all : ∀ n, n < 256 → ∀ i, i < 8 → (nI n >>> (nI i &&& 31)) &&& 1 = zi (decide (¬ nI n &&& wBit (nI i) = 0)) := by decide +kernel
theorem shr_bit {x : Int32} (h : r8 x) {i : Nat} (hi : i < 8) : (x >>> (nI i &&& 31)) &&& 1 = zi (decide (¬ x &&& wBit (nI i) = 0)) := by
  obtain ⟨n, hn, e⟩ := r8_ex h
  rw [e]; exact shr_all n hn i hi
theorem mW_r8 {s : zS} {N : Nat} (h : N ≤ 6) (b : Int32) : r8 (mW s N b) := wWho_r8 _ _ _ _ _ _ _ (by omega)
abbrev mX12_of : zM := (yX12_of, cX12_of, 3, (some .int), { frames := 2, cells := 0, slots := 0, locals := 46 })
set_option maxRecDepth 100000 in
set_option maxHeartbeats 4000000 in
theorem c_X12_of_bad (l : Launch) (B : zB) (s : zS) (t : zL) (x w : Int32) (h : (wIn x (s 114 0 - 1) && wIn w 6) = false) : zD l B mX12_of s t [.ref (B.1 + 113), .int x, .int w] (some (.int (-2))) (zu s 117 0 (s 117 0 + 1)) t := by
  refine z_met (by decide) (Nat.le_of_ble_eq_true rfl) ?_
  intro X hl C E hnm
  show Zf X B mX12_of s t 0 [(0, .ref (B.1 + 113)), (1, .int x), (2, .int w)] []
  refine z_aload_n C dX12_of_0 0 rfl rfl ?_
  refine z_iload_n C dX12_of_1 1 rfl rfl ?_
  refine f_callVr C hl (As := [.int x]) (rest := []) (c_X12_isDeputy l B s t x) zb_113 (zg_12 zk_113) rfl (zCB (nA := 1) C rfl rfl tw_893 tw_13 tw_890 (by decide +kernel) ⟨Nat.le_of_ble_eq_true rfl, Nat.le_of_ble_eq_true rfl⟩) tw_892 tp_38 rfl rfl (Nat.le_of_ble_eq_true rfl) dX12_of_2 (Nat.zero_le _) ?_
  refine z_ifb_eq C 20 dX12_of_5 (by decide) (fun h5 => ?_) (fun h5 => ?_)
  · refine z_aload_n C dX12_of_20 0 rfl rfl ?_
    refine z_bipush C dX12_of_21 kb_m2 ?_
    refine f_callVr C hl (As := [.int (-2)]) (rest := []) (c_X12_bad l B s t (-2)) zb_113 (zg_12 zk_113) rfl (zCB (nA := 1) C rfl rfl tw_814 tw_13 tw_811 (by decide +kernel) ⟨Nat.le_of_ble_eq_true rfl, Nat.le_of_ble_eq_true rfl⟩) tw_813 tp_26 rfl rfl (Nat.le_of_ble_eq_true rfl) dX12_of_23 (Nat.zero_le _) ?_
    refine z_iret C E rfl dX12_of_26 rfl (Nat.le_refl _) ⟨rfl, rfl⟩
  · refine z_iload_n C dX12_of_8 2 rfl rfl ?_
    refine z_i2l C dX12_of_9 ?_
    refine z_lconst C dX12_of_10 kl_0 ?_
    refine z_ldc2 C dX12_of_11 tw_910 ?_
    refine f_callSr C hl (As := [.long ((w : Int32).toInt64), .long 0, .long 6]) (rest := []) (c_X12_in0 l B s t w 6 ((w : Int32).toInt64) 6 rfl (by decide)) (zCB (nA := 3) C rfl rfl tw_810 tw_13 tw_808 (by decide +kernel) ⟨Nat.le_of_ble_eq_true rfl, Nat.le_of_ble_eq_true rfl⟩) tw_809 rfl rfl (Nat.le_of_ble_eq_true rfl) dX12_of_14 (Nat.zero_le _) ?_
    refine z_ifb_ne C 27 dX12_of_17 (by decide) (fun h17 => ?_) (fun h17 => ?_)
    · exact absurd h (by rw [h5, h17]; decide)
    · refine z_aload_n C dX12_of_20 0 rfl rfl ?_
      refine z_bipush C dX12_of_21 kb_m2 ?_
      refine f_callVr C hl (As := [.int (-2)]) (rest := []) (c_X12_bad l B s t (-2)) zb_113 (zg_12 zk_113) rfl (zCB (nA := 1) C rfl rfl tw_814 tw_13 tw_811 (by decide +kernel) ⟨Nat.le_of_ble_eq_true rfl, Nat.le_of_ble_eq_true rfl⟩) tw_813 tp_26 rfl rfl (Nat.le_of_ble_eq_true rfl) dX12_of_23 (Nat.zero_le _) ?_
      refine z_iret C E rfl dX12_of_26 rfl (Nat.le_refl _) ⟨rfl, rfl⟩
set_option maxRecDepth 100000 in
set_option maxHeartbeats 4000000 in
theorem c_X12_of_0 (l : Launch) (B : zB) (s : zS) (t : zL) (N : Nat) (mo : mOk s N) (d : Nat) (hd0 : d < N) (g : wIn (nI d) (s 114 0 - 1) = true) : zD l B mX12_of s t [.ref (B.1 + 113), .int (nI d), .int 0] (some (.int (mK s d))) (wHand s N) t := by
  have h6 := mo.2.1
  refine z_met (by decide) (Nat.le_of_ble_eq_true rfl) ?_
  intro X hl C E hnm
  show Zf X B mX12_of s t 0 [(0, .ref (B.1 + 113)), (1, .int (nI d)), (2, .int 0)] []
  refine z_aload_n C dX12_of_0 0 rfl rfl ?_
  refine z_iload_n C dX12_of_1 1 rfl rfl ?_
  refine f_callVr C hl (As := [.int (nI d)]) (rest := []) (c_X12_isDeputy l B s t (nI d)) zb_113 (zg_12 zk_113) rfl (zCB (nA := 1) C rfl rfl tw_893 tw_13 tw_890 (by decide +kernel) ⟨Nat.le_of_ble_eq_true rfl, Nat.le_of_ble_eq_true rfl⟩) tw_892 tp_38 rfl rfl (Nat.le_of_ble_eq_true rfl) dX12_of_2 (Nat.zero_le _) ?_
  refine z_ifb_eq C 20 dX12_of_5 (by decide) (fun hbr => absurd hbr (by rw [g]; decide)) (fun _ => ?_)
  refine z_iload_n C dX12_of_8 2 rfl rfl ?_
  refine z_i2l C dX12_of_9 ?_
  refine z_lconst C dX12_of_10 kl_0 ?_
  refine z_ldc2 C dX12_of_11 tw_910 ?_
  refine f_callSr C hl (As := [.long ((0 : Int32).toInt64), .long 0, .long 6]) (rest := []) (c_X12_in0 l B s t 0 6 ((0 : Int32).toInt64) 6 rfl (by decide)) (zCB (nA := 3) C rfl rfl tw_810 tw_13 tw_808 (by decide +kernel) ⟨Nat.le_of_ble_eq_true rfl, Nat.le_of_ble_eq_true rfl⟩) tw_809 rfl rfl (Nat.le_of_ble_eq_true rfl) dX12_of_14 (Nat.zero_le _) ?_
  refine z_ifb_ne C 27 dX12_of_17 (by decide) (fun _ => ?_) (fun hbr => Bool.noConfusion (show false = true from hbr.symm.trans (by decide)))
  refine z_aload_n C dX12_of_27 0 rfl rfl ?_
  refine f_callVv C hl (As := []) (rest := []) (c_X12_layHand l B s t N mo.1 mo.2.1) zb_113 (zg_12 zk_113) rfl (zCB (nA := 0) C rfl rfl tw_851 tw_13 tw_848 (by decide +kernel) ⟨Nat.le_of_ble_eq_true rfl, Nat.le_of_ble_eq_true rfl⟩) tw_850 tp_31 rfl rfl (Nat.le_of_ble_eq_true rfl) dX12_of_28 (Nat.zero_le _) ?_
  refine z_iload_n C dX12_of_31 2 rfl rfl ?_
  refine z_iconst C dX12_of_32 ki_4 ?_
  refine z_icmp_ge C 45 dX12_of_33 (by decide) (fun hbr => absurd hbr (by decide)) (fun _ => ?_)
  refine z_aload_n C dX12_of_36 0 rfl rfl ?_
  refine z_iload_n C dX12_of_37 1 rfl rfl ?_
  refine z_iload_n C dX12_of_38 2 rfl rfl ?_
  refine f_callVr C hl (As := [.int (nI d), .int 0]) (rest := []) (c_X12_get l B (wHand s N) t d 0 (by omega) (by decide)) zb_113 (zg_12 zk_113) rfl (zCB (nA := 2) C rfl rfl tw_855 tw_13 tw_852 (by decide +kernel) ⟨Nat.le_of_ble_eq_true rfl, Nat.le_of_ble_eq_true rfl⟩) tw_854 tp_32 rfl rfl (Nat.le_of_ble_eq_true rfl) dX12_of_39 (Nat.zero_le _) ?_
  refine z_goto C 77 dX12_of_42 (by decide) ?_
  refine z_iret C E rfl dX12_of_77 rfl (Nat.le_refl _) ⟨by rw [wHand_114]; rfl, rfl⟩
set_option maxRecDepth 100000 in
set_option maxHeartbeats 4000000 in
theorem c_X12_of_1 (l : Launch) (B : zB) (s : zS) (t : zL) (N : Nat) (mo : mOk s N) (d : Nat) (hd0 : d < N) (g : wIn (nI d) (s 114 0 - 1) = true) : zD l B mX12_of s t [.ref (B.1 + 113), .int (nI d), .int 1] (some (.int (mL s d))) (wHand s N) t := by
  have h6 := mo.2.1
  refine z_met (by decide) (Nat.le_of_ble_eq_true rfl) ?_
  intro X hl C E hnm
  show Zf X B mX12_of s t 0 [(0, .ref (B.1 + 113)), (1, .int (nI d)), (2, .int 1)] []
  refine z_aload_n C dX12_of_0 0 rfl rfl ?_
  refine z_iload_n C dX12_of_1 1 rfl rfl ?_
  refine f_callVr C hl (As := [.int (nI d)]) (rest := []) (c_X12_isDeputy l B s t (nI d)) zb_113 (zg_12 zk_113) rfl (zCB (nA := 1) C rfl rfl tw_893 tw_13 tw_890 (by decide +kernel) ⟨Nat.le_of_ble_eq_true rfl, Nat.le_of_ble_eq_true rfl⟩) tw_892 tp_38 rfl rfl (Nat.le_of_ble_eq_true rfl) dX12_of_2 (Nat.zero_le _) ?_
  refine z_ifb_eq C 20 dX12_of_5 (by decide) (fun hbr => absurd hbr (by rw [g]; decide)) (fun _ => ?_)
  refine z_iload_n C dX12_of_8 2 rfl rfl ?_
  refine z_i2l C dX12_of_9 ?_
  refine z_lconst C dX12_of_10 kl_0 ?_
  refine z_ldc2 C dX12_of_11 tw_910 ?_
  refine f_callSr C hl (As := [.long ((1 : Int32).toInt64), .long 0, .long 6]) (rest := []) (c_X12_in0 l B s t 1 6 ((1 : Int32).toInt64) 6 rfl (by decide)) (zCB (nA := 3) C rfl rfl tw_810 tw_13 tw_808 (by decide +kernel) ⟨Nat.le_of_ble_eq_true rfl, Nat.le_of_ble_eq_true rfl⟩) tw_809 rfl rfl (Nat.le_of_ble_eq_true rfl) dX12_of_14 (Nat.zero_le _) ?_
  refine z_ifb_ne C 27 dX12_of_17 (by decide) (fun _ => ?_) (fun hbr => Bool.noConfusion (show false = true from hbr.symm.trans (by decide)))
  refine z_aload_n C dX12_of_27 0 rfl rfl ?_
  refine f_callVv C hl (As := []) (rest := []) (c_X12_layHand l B s t N mo.1 mo.2.1) zb_113 (zg_12 zk_113) rfl (zCB (nA := 0) C rfl rfl tw_851 tw_13 tw_848 (by decide +kernel) ⟨Nat.le_of_ble_eq_true rfl, Nat.le_of_ble_eq_true rfl⟩) tw_850 tp_31 rfl rfl (Nat.le_of_ble_eq_true rfl) dX12_of_28 (Nat.zero_le _) ?_
  refine z_iload_n C dX12_of_31 2 rfl rfl ?_
  refine z_iconst C dX12_of_32 ki_4 ?_
  refine z_icmp_ge C 45 dX12_of_33 (by decide) (fun hbr => absurd hbr (by decide)) (fun _ => ?_)
  refine z_aload_n C dX12_of_36 0 rfl rfl ?_
  refine z_iload_n C dX12_of_37 1 rfl rfl ?_
  refine z_iload_n C dX12_of_38 2 rfl rfl ?_
  refine f_callVr C hl (As := [.int (nI d), .int 1]) (rest := []) (c_X12_get l B (wHand s N) t d 1 (by omega) (by decide)) zb_113 (zg_12 zk_113) rfl (zCB (nA := 2) C rfl rfl tw_855 tw_13 tw_852 (by decide +kernel) ⟨Nat.le_of_ble_eq_true rfl, Nat.le_of_ble_eq_true rfl⟩) tw_854 tp_32 rfl rfl (Nat.le_of_ble_eq_true rfl) dX12_of_39 (Nat.zero_le _) ?_
  refine z_goto C 77 dX12_of_42 (by decide) ?_
  refine z_iret C E rfl dX12_of_77 rfl (Nat.le_refl _) ⟨by rw [wHand_114]; rfl, rfl⟩
set_option maxRecDepth 100000 in
set_option maxHeartbeats 4000000 in
theorem c_X12_of_2 (l : Launch) (B : zB) (s : zS) (t : zL) (N : Nat) (mo : mOk s N) (d : Nat) (hd0 : d < N) (g : wIn (nI d) (s 114 0 - 1) = true) : zD l B mX12_of s t [.ref (B.1 + 113), .int (nI d), .int 2] (some (.int (mH s d))) (wHand s N) t := by
  have h6 := mo.2.1
  refine z_met (by decide) (Nat.le_of_ble_eq_true rfl) ?_
  intro X hl C E hnm
  show Zf X B mX12_of s t 0 [(0, .ref (B.1 + 113)), (1, .int (nI d)), (2, .int 2)] []
  refine z_aload_n C dX12_of_0 0 rfl rfl ?_
  refine z_iload_n C dX12_of_1 1 rfl rfl ?_
  refine f_callVr C hl (As := [.int (nI d)]) (rest := []) (c_X12_isDeputy l B s t (nI d)) zb_113 (zg_12 zk_113) rfl (zCB (nA := 1) C rfl rfl tw_893 tw_13 tw_890 (by decide +kernel) ⟨Nat.le_of_ble_eq_true rfl, Nat.le_of_ble_eq_true rfl⟩) tw_892 tp_38 rfl rfl (Nat.le_of_ble_eq_true rfl) dX12_of_2 (Nat.zero_le _) ?_
  refine z_ifb_eq C 20 dX12_of_5 (by decide) (fun hbr => absurd hbr (by rw [g]; decide)) (fun _ => ?_)
  refine z_iload_n C dX12_of_8 2 rfl rfl ?_
  refine z_i2l C dX12_of_9 ?_
  refine z_lconst C dX12_of_10 kl_0 ?_
  refine z_ldc2 C dX12_of_11 tw_910 ?_
  refine f_callSr C hl (As := [.long ((2 : Int32).toInt64), .long 0, .long 6]) (rest := []) (c_X12_in0 l B s t 2 6 ((2 : Int32).toInt64) 6 rfl (by decide)) (zCB (nA := 3) C rfl rfl tw_810 tw_13 tw_808 (by decide +kernel) ⟨Nat.le_of_ble_eq_true rfl, Nat.le_of_ble_eq_true rfl⟩) tw_809 rfl rfl (Nat.le_of_ble_eq_true rfl) dX12_of_14 (Nat.zero_le _) ?_
  refine z_ifb_ne C 27 dX12_of_17 (by decide) (fun _ => ?_) (fun hbr => Bool.noConfusion (show false = true from hbr.symm.trans (by decide)))
  refine z_aload_n C dX12_of_27 0 rfl rfl ?_
  refine f_callVv C hl (As := []) (rest := []) (c_X12_layHand l B s t N mo.1 mo.2.1) zb_113 (zg_12 zk_113) rfl (zCB (nA := 0) C rfl rfl tw_851 tw_13 tw_848 (by decide +kernel) ⟨Nat.le_of_ble_eq_true rfl, Nat.le_of_ble_eq_true rfl⟩) tw_850 tp_31 rfl rfl (Nat.le_of_ble_eq_true rfl) dX12_of_28 (Nat.zero_le _) ?_
  refine z_iload_n C dX12_of_31 2 rfl rfl ?_
  refine z_iconst C dX12_of_32 ki_4 ?_
  refine z_icmp_ge C 45 dX12_of_33 (by decide) (fun hbr => absurd hbr (by decide)) (fun _ => ?_)
  refine z_aload_n C dX12_of_36 0 rfl rfl ?_
  refine z_iload_n C dX12_of_37 1 rfl rfl ?_
  refine z_iload_n C dX12_of_38 2 rfl rfl ?_
  refine f_callVr C hl (As := [.int (nI d), .int 2]) (rest := []) (c_X12_get l B (wHand s N) t d 2 (by omega) (by decide)) zb_113 (zg_12 zk_113) rfl (zCB (nA := 2) C rfl rfl tw_855 tw_13 tw_852 (by decide +kernel) ⟨Nat.le_of_ble_eq_true rfl, Nat.le_of_ble_eq_true rfl⟩) tw_854 tp_32 rfl rfl (Nat.le_of_ble_eq_true rfl) dX12_of_39 (Nat.zero_le _) ?_
  refine z_goto C 77 dX12_of_42 (by decide) ?_
  refine z_iret C E rfl dX12_of_77 rfl (Nat.le_refl _) ⟨by rw [wHand_114]; rfl, rfl⟩
set_option maxRecDepth 100000 in
set_option maxHeartbeats 4000000 in
theorem c_X12_of_3 (l : Launch) (B : zB) (s : zS) (t : zL) (N : Nat) (mo : mOk s N) (d : Nat) (hd0 : d < N) (g : wIn (nI d) (s 114 0 - 1) = true) : zD l B mX12_of s t [.ref (B.1 + 113), .int (nI d), .int 3] (some (.int (mP s d))) (wHand s N) t := by
  have h6 := mo.2.1
  refine z_met (by decide) (Nat.le_of_ble_eq_true rfl) ?_
  intro X hl C E hnm
  show Zf X B mX12_of s t 0 [(0, .ref (B.1 + 113)), (1, .int (nI d)), (2, .int 3)] []
  refine z_aload_n C dX12_of_0 0 rfl rfl ?_
  refine z_iload_n C dX12_of_1 1 rfl rfl ?_
  refine f_callVr C hl (As := [.int (nI d)]) (rest := []) (c_X12_isDeputy l B s t (nI d)) zb_113 (zg_12 zk_113) rfl (zCB (nA := 1) C rfl rfl tw_893 tw_13 tw_890 (by decide +kernel) ⟨Nat.le_of_ble_eq_true rfl, Nat.le_of_ble_eq_true rfl⟩) tw_892 tp_38 rfl rfl (Nat.le_of_ble_eq_true rfl) dX12_of_2 (Nat.zero_le _) ?_
  refine z_ifb_eq C 20 dX12_of_5 (by decide) (fun hbr => absurd hbr (by rw [g]; decide)) (fun _ => ?_)
  refine z_iload_n C dX12_of_8 2 rfl rfl ?_
  refine z_i2l C dX12_of_9 ?_
  refine z_lconst C dX12_of_10 kl_0 ?_
  refine z_ldc2 C dX12_of_11 tw_910 ?_
  refine f_callSr C hl (As := [.long ((3 : Int32).toInt64), .long 0, .long 6]) (rest := []) (c_X12_in0 l B s t 3 6 ((3 : Int32).toInt64) 6 rfl (by decide)) (zCB (nA := 3) C rfl rfl tw_810 tw_13 tw_808 (by decide +kernel) ⟨Nat.le_of_ble_eq_true rfl, Nat.le_of_ble_eq_true rfl⟩) tw_809 rfl rfl (Nat.le_of_ble_eq_true rfl) dX12_of_14 (Nat.zero_le _) ?_
  refine z_ifb_ne C 27 dX12_of_17 (by decide) (fun _ => ?_) (fun hbr => Bool.noConfusion (show false = true from hbr.symm.trans (by decide)))
  refine z_aload_n C dX12_of_27 0 rfl rfl ?_
  refine f_callVv C hl (As := []) (rest := []) (c_X12_layHand l B s t N mo.1 mo.2.1) zb_113 (zg_12 zk_113) rfl (zCB (nA := 0) C rfl rfl tw_851 tw_13 tw_848 (by decide +kernel) ⟨Nat.le_of_ble_eq_true rfl, Nat.le_of_ble_eq_true rfl⟩) tw_850 tp_31 rfl rfl (Nat.le_of_ble_eq_true rfl) dX12_of_28 (Nat.zero_le _) ?_
  refine z_iload_n C dX12_of_31 2 rfl rfl ?_
  refine z_iconst C dX12_of_32 ki_4 ?_
  refine z_icmp_ge C 45 dX12_of_33 (by decide) (fun hbr => absurd hbr (by decide)) (fun _ => ?_)
  refine z_aload_n C dX12_of_36 0 rfl rfl ?_
  refine z_iload_n C dX12_of_37 1 rfl rfl ?_
  refine z_iload_n C dX12_of_38 2 rfl rfl ?_
  refine f_callVr C hl (As := [.int (nI d), .int 3]) (rest := []) (c_X12_get l B (wHand s N) t d 3 (by omega) (by decide)) zb_113 (zg_12 zk_113) rfl (zCB (nA := 2) C rfl rfl tw_855 tw_13 tw_852 (by decide +kernel) ⟨Nat.le_of_ble_eq_true rfl, Nat.le_of_ble_eq_true rfl⟩) tw_854 tp_32 rfl rfl (Nat.le_of_ble_eq_true rfl) dX12_of_39 (Nat.zero_le _) ?_
  refine z_goto C 77 dX12_of_42 (by decide) ?_
  refine z_iret C E rfl dX12_of_77 rfl (Nat.le_refl _) ⟨by rw [wHand_114]; rfl, rfl⟩
set_option maxRecDepth 100000 in
set_option maxHeartbeats 4000000 in
theorem c_X12_of_4 (l : Launch) (B : zB) (s : zS) (t : zL) (N : Nat) (mo : mOk s N) (d : Nat) (hd0 : d < N) (g : wIn (nI d) (s 114 0 - 1) = true) : zD l B mX12_of s t [.ref (B.1 + 113), .int (nI d), .int 4] (some (.int (wCost (mK s d) (mP s d)))) (wHand s N) t := by
  have h6 := mo.2.1
  refine z_met (by decide) (Nat.le_of_ble_eq_true rfl) ?_
  intro X hl C E hnm
  show Zf X B mX12_of s t 0 [(0, .ref (B.1 + 113)), (1, .int (nI d)), (2, .int 4)] []
  refine z_aload_n C dX12_of_0 0 rfl rfl ?_
  refine z_iload_n C dX12_of_1 1 rfl rfl ?_
  refine f_callVr C hl (As := [.int (nI d)]) (rest := []) (c_X12_isDeputy l B s t (nI d)) zb_113 (zg_12 zk_113) rfl (zCB (nA := 1) C rfl rfl tw_893 tw_13 tw_890 (by decide +kernel) ⟨Nat.le_of_ble_eq_true rfl, Nat.le_of_ble_eq_true rfl⟩) tw_892 tp_38 rfl rfl (Nat.le_of_ble_eq_true rfl) dX12_of_2 (Nat.zero_le _) ?_
  refine z_ifb_eq C 20 dX12_of_5 (by decide) (fun hbr => absurd hbr (by rw [g]; decide)) (fun _ => ?_)
  refine z_iload_n C dX12_of_8 2 rfl rfl ?_
  refine z_i2l C dX12_of_9 ?_
  refine z_lconst C dX12_of_10 kl_0 ?_
  refine z_ldc2 C dX12_of_11 tw_910 ?_
  refine f_callSr C hl (As := [.long ((4 : Int32).toInt64), .long 0, .long 6]) (rest := []) (c_X12_in0 l B s t 4 6 ((4 : Int32).toInt64) 6 rfl (by decide)) (zCB (nA := 3) C rfl rfl tw_810 tw_13 tw_808 (by decide +kernel) ⟨Nat.le_of_ble_eq_true rfl, Nat.le_of_ble_eq_true rfl⟩) tw_809 rfl rfl (Nat.le_of_ble_eq_true rfl) dX12_of_14 (Nat.zero_le _) ?_
  refine z_ifb_ne C 27 dX12_of_17 (by decide) (fun _ => ?_) (fun hbr => Bool.noConfusion (show false = true from hbr.symm.trans (by decide)))
  refine z_aload_n C dX12_of_27 0 rfl rfl ?_
  refine f_callVv C hl (As := []) (rest := []) (c_X12_layHand l B s t N mo.1 mo.2.1) zb_113 (zg_12 zk_113) rfl (zCB (nA := 0) C rfl rfl tw_851 tw_13 tw_848 (by decide +kernel) ⟨Nat.le_of_ble_eq_true rfl, Nat.le_of_ble_eq_true rfl⟩) tw_850 tp_31 rfl rfl (Nat.le_of_ble_eq_true rfl) dX12_of_28 (Nat.zero_le _) ?_
  refine z_iload_n C dX12_of_31 2 rfl rfl ?_
  refine z_iconst C dX12_of_32 ki_4 ?_
  refine z_icmp_ge C 45 dX12_of_33 (by decide) (fun _ => ?_) (fun hbr => absurd (by decide) hbr)
  refine z_iload_n C dX12_of_45 2 rfl rfl ?_
  refine z_iconst C dX12_of_46 ki_4 ?_
  refine z_icmp_ne C 58 dX12_of_47 (by decide) (fun hbr => absurd (by decide) hbr) (fun _ => ?_)
  refine z_aload_n C dX12_of_50 0 rfl rfl ?_
  refine z_iload_n C dX12_of_51 1 rfl rfl ?_
  refine f_callVr C hl (As := [.int (nI d)]) (rest := []) (c_X12_costOf l B (wHand s N) t d (by omega) (mK s d) (mP s d) ((hd_hand mo).2.2.1 d hd0).1 (by rw [wHand_114]; rfl)) zb_113 (zg_12 zk_113) rfl (zCB (nA := 1) C rfl rfl tw_897 tw_13 tw_894 (by decide +kernel) ⟨Nat.le_of_ble_eq_true rfl, Nat.le_of_ble_eq_true rfl⟩) tw_896 tp_39 rfl rfl (Nat.le_of_ble_eq_true rfl) dX12_of_52 (Nat.zero_le _) ?_
  refine z_goto C 77 dX12_of_55 (by decide) ?_
  refine z_iret C E rfl dX12_of_77 rfl (Nat.le_refl _) ⟨rfl, rfl⟩
set_option maxRecDepth 100000 in
set_option maxHeartbeats 4000000 in
theorem c_X12_of_5 (l : Launch) (B : zB) (s : zS) (t : zL) (N : Nat) (mo : mOk s N) (d : Nat) (hd0 : d < N) (g : wIn (nI d) (s 114 0 - 1) = true) : zD l B mX12_of s t [.ref (B.1 + 113), .int (nI d), .int 5] (some (.int (zi (decide (¬ s 114 3 &&& wBit (nI d) = 0))))) (wHand s N) t := by
  have h6 := mo.2.1
  refine z_met (by decide) (Nat.le_of_ble_eq_true rfl) ?_
  intro X hl C E hnm
  show Zf X B mX12_of s t 0 [(0, .ref (B.1 + 113)), (1, .int (nI d)), (2, .int 5)] []
  refine z_aload_n C dX12_of_0 0 rfl rfl ?_
  refine z_iload_n C dX12_of_1 1 rfl rfl ?_
  refine f_callVr C hl (As := [.int (nI d)]) (rest := []) (c_X12_isDeputy l B s t (nI d)) zb_113 (zg_12 zk_113) rfl (zCB (nA := 1) C rfl rfl tw_893 tw_13 tw_890 (by decide +kernel) ⟨Nat.le_of_ble_eq_true rfl, Nat.le_of_ble_eq_true rfl⟩) tw_892 tp_38 rfl rfl (Nat.le_of_ble_eq_true rfl) dX12_of_2 (Nat.zero_le _) ?_
  refine z_ifb_eq C 20 dX12_of_5 (by decide) (fun hbr => absurd hbr (by rw [g]; decide)) (fun _ => ?_)
  refine z_iload_n C dX12_of_8 2 rfl rfl ?_
  refine z_i2l C dX12_of_9 ?_
  refine z_lconst C dX12_of_10 kl_0 ?_
  refine z_ldc2 C dX12_of_11 tw_910 ?_
  refine f_callSr C hl (As := [.long ((5 : Int32).toInt64), .long 0, .long 6]) (rest := []) (c_X12_in0 l B s t 5 6 ((5 : Int32).toInt64) 6 rfl (by decide)) (zCB (nA := 3) C rfl rfl tw_810 tw_13 tw_808 (by decide +kernel) ⟨Nat.le_of_ble_eq_true rfl, Nat.le_of_ble_eq_true rfl⟩) tw_809 rfl rfl (Nat.le_of_ble_eq_true rfl) dX12_of_14 (Nat.zero_le _) ?_
  refine z_ifb_ne C 27 dX12_of_17 (by decide) (fun _ => ?_) (fun hbr => Bool.noConfusion (show false = true from hbr.symm.trans (by decide)))
  refine z_aload_n C dX12_of_27 0 rfl rfl ?_
  refine f_callVv C hl (As := []) (rest := []) (c_X12_layHand l B s t N mo.1 mo.2.1) zb_113 (zg_12 zk_113) rfl (zCB (nA := 0) C rfl rfl tw_851 tw_13 tw_848 (by decide +kernel) ⟨Nat.le_of_ble_eq_true rfl, Nat.le_of_ble_eq_true rfl⟩) tw_850 tp_31 rfl rfl (Nat.le_of_ble_eq_true rfl) dX12_of_28 (Nat.zero_le _) ?_
  refine z_iload_n C dX12_of_31 2 rfl rfl ?_
  refine z_iconst C dX12_of_32 ki_4 ?_
  refine z_icmp_ge C 45 dX12_of_33 (by decide) (fun _ => ?_) (fun hbr => absurd (by decide) hbr)
  refine z_iload_n C dX12_of_45 2 rfl rfl ?_
  refine z_iconst C dX12_of_46 ki_4 ?_
  refine z_icmp_ne C 58 dX12_of_47 (by decide) (fun _ => ?_) (fun hbr => absurd hbr (by decide))
  refine z_aload_n C dX12_of_58 0 rfl rfl ?_
  refine f_get12 C 0 (v := .ref (B.1 + 114)) (by decide) tw_744 rfl zk_113 zb_113 rfl dX12_of_59 ?_
  refine z_iload_n C dX12_of_62 2 rfl rfl ?_
  refine z_iconst C dX12_of_63 ki_5 ?_
  refine z_icmp_ne C 71 dX12_of_64 (by decide) (fun hbr => absurd (by decide) hbr) (fun _ => ?_)
  refine z_iconst C dX12_of_67 ki_3 ?_
  refine z_goto C 72 dX12_of_68 (by decide) ?_
  refine f_ialdL C zk_114 zb_114 (by unfold vp_in; decide) (j := 3) (by decide) dX12_of_72 ?_
  refine z_iload_n C dX12_of_73 1 rfl rfl ?_
  refine z_ishr C dX12_of_74 ?_
  refine z_iconst C dX12_of_75 ki_1 ?_
  refine z_iand C dX12_of_76 ?_
  refine z_iret C E rfl dX12_of_77 rfl (Nat.le_refl _) ⟨by rw [wHand_114, shr_bit mo.2.2.2.1 (by omega)], rfl⟩
set_option maxRecDepth 100000 in
set_option maxHeartbeats 4000000 in
theorem c_X12_of_6 (l : Launch) (B : zB) (s : zS) (t : zL) (N : Nat) (mo : mOk s N) (d : Nat) (hd0 : d < N) (g : wIn (nI d) (s 114 0 - 1) = true) : zD l B mX12_of s t [.ref (B.1 + 113), .int (nI d), .int 6] (some (.int (zi (decide (¬ s 114 4 &&& wBit (nI d) = 0))))) (wHand s N) t := by
  have h6 := mo.2.1
  refine z_met (by decide) (Nat.le_of_ble_eq_true rfl) ?_
  intro X hl C E hnm
  show Zf X B mX12_of s t 0 [(0, .ref (B.1 + 113)), (1, .int (nI d)), (2, .int 6)] []
  refine z_aload_n C dX12_of_0 0 rfl rfl ?_
  refine z_iload_n C dX12_of_1 1 rfl rfl ?_
  refine f_callVr C hl (As := [.int (nI d)]) (rest := []) (c_X12_isDeputy l B s t (nI d)) zb_113 (zg_12 zk_113) rfl (zCB (nA := 1) C rfl rfl tw_893 tw_13 tw_890 (by decide +kernel) ⟨Nat.le_of_ble_eq_true rfl, Nat.le_of_ble_eq_true rfl⟩) tw_892 tp_38 rfl rfl (Nat.le_of_ble_eq_true rfl) dX12_of_2 (Nat.zero_le _) ?_
  refine z_ifb_eq C 20 dX12_of_5 (by decide) (fun hbr => absurd hbr (by rw [g]; decide)) (fun _ => ?_)
  refine z_iload_n C dX12_of_8 2 rfl rfl ?_
  refine z_i2l C dX12_of_9 ?_
  refine z_lconst C dX12_of_10 kl_0 ?_
  refine z_ldc2 C dX12_of_11 tw_910 ?_
  refine f_callSr C hl (As := [.long ((6 : Int32).toInt64), .long 0, .long 6]) (rest := []) (c_X12_in0 l B s t 6 6 ((6 : Int32).toInt64) 6 rfl (by decide)) (zCB (nA := 3) C rfl rfl tw_810 tw_13 tw_808 (by decide +kernel) ⟨Nat.le_of_ble_eq_true rfl, Nat.le_of_ble_eq_true rfl⟩) tw_809 rfl rfl (Nat.le_of_ble_eq_true rfl) dX12_of_14 (Nat.zero_le _) ?_
  refine z_ifb_ne C 27 dX12_of_17 (by decide) (fun _ => ?_) (fun hbr => Bool.noConfusion (show false = true from hbr.symm.trans (by decide)))
  refine z_aload_n C dX12_of_27 0 rfl rfl ?_
  refine f_callVv C hl (As := []) (rest := []) (c_X12_layHand l B s t N mo.1 mo.2.1) zb_113 (zg_12 zk_113) rfl (zCB (nA := 0) C rfl rfl tw_851 tw_13 tw_848 (by decide +kernel) ⟨Nat.le_of_ble_eq_true rfl, Nat.le_of_ble_eq_true rfl⟩) tw_850 tp_31 rfl rfl (Nat.le_of_ble_eq_true rfl) dX12_of_28 (Nat.zero_le _) ?_
  refine z_iload_n C dX12_of_31 2 rfl rfl ?_
  refine z_iconst C dX12_of_32 ki_4 ?_
  refine z_icmp_ge C 45 dX12_of_33 (by decide) (fun _ => ?_) (fun hbr => absurd (by decide) hbr)
  refine z_iload_n C dX12_of_45 2 rfl rfl ?_
  refine z_iconst C dX12_of_46 ki_4 ?_
  refine z_icmp_ne C 58 dX12_of_47 (by decide) (fun _ => ?_) (fun hbr => absurd hbr (by decide))
  refine z_aload_n C dX12_of_58 0 rfl rfl ?_
  refine f_get12 C 0 (v := .ref (B.1 + 114)) (by decide) tw_744 rfl zk_113 zb_113 rfl dX12_of_59 ?_
  refine z_iload_n C dX12_of_62 2 rfl rfl ?_
  refine z_iconst C dX12_of_63 ki_5 ?_
  refine z_icmp_ne C 71 dX12_of_64 (by decide) (fun _ => ?_) (fun hbr => absurd hbr (by decide))
  refine z_iconst C dX12_of_71 ki_4 ?_
  refine f_ialdL C zk_114 zb_114 (by unfold vp_in; decide) (j := 4) (by decide) dX12_of_72 ?_
  refine z_iload_n C dX12_of_73 1 rfl rfl ?_
  refine z_ishr C dX12_of_74 ?_
  refine z_iconst C dX12_of_75 ki_1 ?_
  refine z_iand C dX12_of_76 ?_
  refine z_iret C E rfl dX12_of_77 rfl (Nat.le_refl _) ⟨by rw [wHand_114, shr_bit mo.2.2.2.2 (by omega)], rfl⟩
abbrev mX12_joy : zM := (yX12_joy, cX12_joy, 3, (some .int), { frames := 2, cells := 0, slots := 0, locals := 46 })
set_option maxRecDepth 100000 in
set_option maxHeartbeats 4000000 in
theorem c_X12_joy_bad (l : Launch) (B : zB) (s : zS) (t : zL) (x b : Int32) (h : (wIn x (s 114 0 - 1) && wIn b 255) = false) : zD l B mX12_joy s t [.ref (B.1 + 113), .int x, .int b] (some (.int (-1000))) (zu s 117 0 (s 117 0 + 1)) t := by
  refine z_met (by decide) (Nat.le_of_ble_eq_true rfl) ?_
  intro X hl C E hnm
  show Zf X B mX12_joy s t 0 [(0, .ref (B.1 + 113)), (1, .int x), (2, .int b)] []
  refine z_aload_n C dX12_joy_0 0 rfl rfl ?_
  refine z_iload_n C dX12_joy_1 1 rfl rfl ?_
  refine f_callVr C hl (As := [.int x]) (rest := []) (c_X12_isDeputy l B s t x) zb_113 (zg_12 zk_113) rfl (zCB (nA := 1) C rfl rfl tw_893 tw_13 tw_890 (by decide +kernel) ⟨Nat.le_of_ble_eq_true rfl, Nat.le_of_ble_eq_true rfl⟩) tw_892 tp_38 rfl rfl (Nat.le_of_ble_eq_true rfl) dX12_joy_2 (Nat.zero_le _) ?_
  refine z_ifb_eq C 15 dX12_joy_5 (by decide) (fun h5 => ?_) (fun h5 => ?_)
  · refine z_aload_n C dX12_joy_15 0 rfl rfl ?_
    refine z_sipush C dX12_joy_16 ks_m1000 ?_
    refine f_callVr C hl (As := [.int (-1000)]) (rest := []) (c_X12_bad l B s t (-1000)) zb_113 (zg_12 zk_113) rfl (zCB (nA := 1) C rfl rfl tw_814 tw_13 tw_811 (by decide +kernel) ⟨Nat.le_of_ble_eq_true rfl, Nat.le_of_ble_eq_true rfl⟩) tw_813 tp_26 rfl rfl (Nat.le_of_ble_eq_true rfl) dX12_joy_19 (Nat.zero_le _) ?_
    refine z_iret C E rfl dX12_joy_22 rfl (Nat.le_refl _) ⟨rfl, rfl⟩
  · refine z_iload_n C dX12_joy_8 2 rfl rfl ?_
    refine f_callSr C hl (As := [.int b]) (rest := []) (c_X12_isBundle l B s t b) (zCB (nA := 1) C rfl rfl tw_826 tw_13 tw_824 (by decide +kernel) ⟨Nat.le_of_ble_eq_true rfl, Nat.le_of_ble_eq_true rfl⟩) tw_825 rfl rfl (Nat.le_of_ble_eq_true rfl) dX12_joy_9 (Nat.zero_le _) ?_
    refine z_ifb_ne C 23 dX12_joy_12 (by decide) (fun h12 => ?_) (fun h12 => ?_)
    · exact absurd h (by rw [h5, h12]; decide)
    · refine z_aload_n C dX12_joy_15 0 rfl rfl ?_
      refine z_sipush C dX12_joy_16 ks_m1000 ?_
      refine f_callVr C hl (As := [.int (-1000)]) (rest := []) (c_X12_bad l B s t (-1000)) zb_113 (zg_12 zk_113) rfl (zCB (nA := 1) C rfl rfl tw_814 tw_13 tw_811 (by decide +kernel) ⟨Nat.le_of_ble_eq_true rfl, Nat.le_of_ble_eq_true rfl⟩) tw_813 tp_26 rfl rfl (Nat.le_of_ble_eq_true rfl) dX12_joy_19 (Nat.zero_le _) ?_
      refine z_iret C E rfl dX12_joy_22 rfl (Nat.le_refl _) ⟨rfl, rfl⟩
set_option maxRecDepth 100000 in
set_option maxHeartbeats 4000000 in
theorem c_X12_joy_ok (l : Launch) (B : zB) (s : zS) (t : zL) (N : Nat) (mo : mOk s N) (d : Nat) (hd0 : d < N) (g : wIn (nI d) (s 114 0 - 1) = true) (b : Int32) (g2 : wIn b 255 = true) : zD l B mX12_joy s t [.ref (B.1 + 113), .int (nI d), .int b] (some (.int (wJoy (mK s d) (wPop (mL s d &&& b)) (wPop (mH s d &&& b))))) (wHand s N) t := by
  have h6 := mo.2.1
  refine z_met (by decide) (Nat.le_of_ble_eq_true rfl) ?_
  intro X hl C E hnm
  show Zf X B mX12_joy s t 0 [(0, .ref (B.1 + 113)), (1, .int (nI d)), (2, .int b)] []
  refine z_aload_n C dX12_joy_0 0 rfl rfl ?_
  refine z_iload_n C dX12_joy_1 1 rfl rfl ?_
  refine f_callVr C hl (As := [.int (nI d)]) (rest := []) (c_X12_isDeputy l B s t (nI d)) zb_113 (zg_12 zk_113) rfl (zCB (nA := 1) C rfl rfl tw_893 tw_13 tw_890 (by decide +kernel) ⟨Nat.le_of_ble_eq_true rfl, Nat.le_of_ble_eq_true rfl⟩) tw_892 tp_38 rfl rfl (Nat.le_of_ble_eq_true rfl) dX12_joy_2 (Nat.zero_le _) ?_
  refine z_ifb_eq C 15 dX12_joy_5 (by decide) (fun hbr => absurd hbr (by rw [g]; decide)) (fun _ => ?_)
  refine z_iload_n C dX12_joy_8 2 rfl rfl ?_
  refine f_callSr C hl (As := [.int b]) (rest := []) (c_X12_isBundle l B s t b) (zCB (nA := 1) C rfl rfl tw_826 tw_13 tw_824 (by decide +kernel) ⟨Nat.le_of_ble_eq_true rfl, Nat.le_of_ble_eq_true rfl⟩) tw_825 rfl rfl (Nat.le_of_ble_eq_true rfl) dX12_joy_9 (Nat.zero_le _) ?_
  refine z_ifb_ne C 23 dX12_joy_12 (by decide) (fun _ => ?_) (fun hbr => Bool.noConfusion (show false = true from hbr.symm.trans g2))
  refine z_aload_n C dX12_joy_23 0 rfl rfl ?_
  refine f_callVv C hl (As := []) (rest := []) (c_X12_layHand l B s t N mo.1 mo.2.1) zb_113 (zg_12 zk_113) rfl (zCB (nA := 0) C rfl rfl tw_851 tw_13 tw_848 (by decide +kernel) ⟨Nat.le_of_ble_eq_true rfl, Nat.le_of_ble_eq_true rfl⟩) tw_850 tp_31 rfl rfl (Nat.le_of_ble_eq_true rfl) dX12_joy_24 (Nat.zero_le _) ?_
  refine z_aload_n C dX12_joy_27 0 rfl rfl ?_
  refine z_iload_n C dX12_joy_28 1 rfl rfl ?_
  refine z_iload_n C dX12_joy_29 2 rfl rfl ?_
  refine f_callVr C hl (As := [.int (nI d), .int b]) (rest := []) (c_X12_joyOf l B (wHand s N) t d (by omega) (mK s d) (mL s d) (mH s d) ((hd_hand mo).2.2.1 d hd0).1 ((hd_hand mo).2.2.1 d hd0).2.1 ((hd_hand mo).2.2.1 d hd0).2.2 b (wIn_r8 g2)) zb_113 (zg_12 zk_113) rfl (zCB (nA := 2) C rfl rfl tw_874 tw_13 tw_871 (by decide +kernel) ⟨Nat.le_of_ble_eq_true rfl, Nat.le_of_ble_eq_true rfl⟩) tw_873 tp_36 rfl rfl (Nat.le_of_ble_eq_true rfl) dX12_joy_30 (Nat.zero_le _) ?_
  refine z_iret C E rfl dX12_joy_33 rfl (Nat.le_refl _) ⟨rfl, rfl⟩
abbrev mX12_acts : zM := (yX12_acts, cX12_acts, 2, (some .int), { frames := 1, cells := 0, slots := 0, locals := 21 })
set_option maxRecDepth 100000 in
set_option maxHeartbeats 4000000 in
theorem c_X12_acts_0 (l : Launch) (B : zB) (s : zS) (t : zL)  : zD l B mX12_acts s t [.ref (B.1 + 113), .int 0] (some (.int (s 114 1))) s t := by
  refine z_met (by decide) (Nat.le_of_ble_eq_true rfl) ?_
  intro X hl C E hnm
  show Zf X B mX12_acts s t 0 [(0, .ref (B.1 + 113)), (1, .int 0)] []
  refine z_iload_n C dX12_acts_0 1 rfl rfl ?_
  refine z_if_ne C 13 dX12_acts_1 (by decide) (fun hbr => absurd (by decide) hbr) (fun _ => ?_)
  refine z_aload_n C dX12_acts_4 0 rfl rfl ?_
  refine f_get12 C 0 (v := .ref (B.1 + 114)) (by decide) tw_744 rfl zk_113 zb_113 rfl dX12_acts_5 ?_
  refine z_iconst C dX12_acts_8 ki_1 ?_
  refine f_ialdL C zk_114 zb_114 (by unfold vp_in; decide) (j := 1) (by decide) dX12_acts_9 ?_
  refine z_goto C 33 dX12_acts_10 (by decide) ?_
  refine z_iret C E rfl dX12_acts_33 rfl (Nat.le_refl _) ⟨rfl, rfl⟩
set_option maxRecDepth 100000 in
set_option maxHeartbeats 4000000 in
theorem c_X12_acts_1 (l : Launch) (B : zB) (s : zS) (t : zL)  : zD l B mX12_acts s t [.ref (B.1 + 113), .int 1] (some (.int (s 114 2))) s t := by
  refine z_met (by decide) (Nat.le_of_ble_eq_true rfl) ?_
  intro X hl C E hnm
  show Zf X B mX12_acts s t 0 [(0, .ref (B.1 + 113)), (1, .int 1)] []
  refine z_iload_n C dX12_acts_0 1 rfl rfl ?_
  refine z_if_ne C 13 dX12_acts_1 (by decide) (fun _ => ?_) (fun hbr => absurd hbr (by decide))
  refine z_iload_n C dX12_acts_13 1 rfl rfl ?_
  refine z_iconst C dX12_acts_14 ki_1 ?_
  refine z_icmp_ne C 27 dX12_acts_15 (by decide) (fun hbr => absurd (by decide) hbr) (fun _ => ?_)
  refine z_aload_n C dX12_acts_18 0 rfl rfl ?_
  refine f_get12 C 0 (v := .ref (B.1 + 114)) (by decide) tw_744 rfl zk_113 zb_113 rfl dX12_acts_19 ?_
  refine z_iconst C dX12_acts_22 ki_2 ?_
  refine f_ialdL C zk_114 zb_114 (by unfold vp_in; decide) (j := 2) (by decide) dX12_acts_23 ?_
  refine z_goto C 33 dX12_acts_24 (by decide) ?_
  refine z_iret C E rfl dX12_acts_33 rfl (Nat.le_refl _) ⟨rfl, rfl⟩
set_option maxRecDepth 100000 in
set_option maxHeartbeats 4000000 in
theorem c_X12_acts_bad (l : Launch) (B : zB) (s : zS) (t : zL) (w : Int32) (h0 : ¬ w = 0) (h1 : ¬ w = 1) : zD l B mX12_acts s t [.ref (B.1 + 113), .int w] (some (.int (-2))) (zu s 117 0 (s 117 0 + 1)) t := by
  refine z_met (by decide) (Nat.le_of_ble_eq_true rfl) ?_
  intro X hl C E hnm
  show Zf X B mX12_acts s t 0 [(0, .ref (B.1 + 113)), (1, .int w)] []
  refine z_iload_n C dX12_acts_0 1 rfl rfl ?_
  refine z_if_ne C 13 dX12_acts_1 (by decide) (fun _ => ?_) (fun hbr => absurd hbr h0)
  refine z_iload_n C dX12_acts_13 1 rfl rfl ?_
  refine z_iconst C dX12_acts_14 ki_1 ?_
  refine z_icmp_ne C 27 dX12_acts_15 (by decide) (fun _ => ?_) (fun hbr => absurd hbr h1)
  refine z_aload_n C dX12_acts_27 0 rfl rfl ?_
  refine z_bipush C dX12_acts_28 kb_m2 ?_
  refine f_callVr C hl (As := [.int (-2)]) (rest := []) (c_X12_bad l B s t (-2)) zb_113 (zg_12 zk_113) rfl (zCB (nA := 1) C rfl rfl tw_814 tw_13 tw_811 (by decide +kernel) ⟨Nat.le_of_ble_eq_true rfl, Nat.le_of_ble_eq_true rfl⟩) tw_813 tp_26 rfl rfl (Nat.le_of_ble_eq_true rfl) dX12_acts_30 (Nat.zero_le _) ?_
  refine z_iret C E rfl dX12_acts_33 rfl (Nat.le_refl _) ⟨rfl, rfl⟩
abbrev mX12_stops : zM := (yX12_stops, cX12_stops, 2, (some .int), { frames := 4, cells := 0, slots := 0, locals := 92 })
set_option maxRecDepth 100000 in
set_option maxHeartbeats 4000000 in
theorem c_X12_stops_bad (l : Launch) (B : zB) (s : zS) (t : zL) (b : Int32) (g : wIn b 255 = false) : zD l B mX12_stops s t [.ref (B.1 + 113), .int b] (some (.int (-2))) (zu s 117 0 (s 117 0 + 1)) t := by
  refine z_met (by decide) (Nat.le_of_ble_eq_true rfl) ?_
  intro X hl C E hnm
  show Zf X B mX12_stops s t 0 [(0, .ref (B.1 + 113)), (1, .int b)] []
  refine z_iload_n C dX12_stops_0 1 rfl rfl ?_
  refine f_callSr C hl (As := [.int b]) (rest := []) (c_X12_isBundle l B s t b) (zCB (nA := 1) C rfl rfl tw_826 tw_13 tw_824 (by decide +kernel) ⟨Nat.le_of_ble_eq_true rfl, Nat.le_of_ble_eq_true rfl⟩) tw_825 rfl rfl (Nat.le_of_ble_eq_true rfl) dX12_stops_1 (Nat.zero_le _) ?_
  refine z_ifb_ne C 14 dX12_stops_4 (by decide) (fun hbr => absurd hbr (by rw [g]; decide)) (fun _ => ?_)
  refine z_aload_n C dX12_stops_7 0 rfl rfl ?_
  refine z_bipush C dX12_stops_8 kb_m2 ?_
  refine f_callVr C hl (As := [.int (-2)]) (rest := []) (c_X12_bad l B s t (-2)) zb_113 (zg_12 zk_113) rfl (zCB (nA := 1) C rfl rfl tw_814 tw_13 tw_811 (by decide +kernel) ⟨Nat.le_of_ble_eq_true rfl, Nat.le_of_ble_eq_true rfl⟩) tw_813 tp_26 rfl rfl (Nat.le_of_ble_eq_true rfl) dX12_stops_10 (Nat.zero_le _) ?_
  refine z_iret C E rfl dX12_stops_13 rfl (Nat.le_refl _) ⟨rfl, rfl⟩
set_option maxRecDepth 100000 in
set_option maxHeartbeats 4000000 in
theorem c_X12_stops_ok (l : Launch) (B : zB) (s : zS) (t : zL) (N : Nat) (mo : mOk s N) (b : Int32) (g : wIn b 255 = true) : zD l B mX12_stops s t [.ref (B.1 + 113), .int b] (some (.int (mW s N b))) (wHand s N) t := by
  refine z_met (by decide) (Nat.le_of_ble_eq_true rfl) ?_
  intro X hl C E hnm
  show Zf X B mX12_stops s t 0 [(0, .ref (B.1 + 113)), (1, .int b)] []
  refine z_iload_n C dX12_stops_0 1 rfl rfl ?_
  refine f_callSr C hl (As := [.int b]) (rest := []) (c_X12_isBundle l B s t b) (zCB (nA := 1) C rfl rfl tw_826 tw_13 tw_824 (by decide +kernel) ⟨Nat.le_of_ble_eq_true rfl, Nat.le_of_ble_eq_true rfl⟩) tw_825 rfl rfl (Nat.le_of_ble_eq_true rfl) dX12_stops_1 (Nat.zero_le _) ?_
  refine z_ifb_ne C 14 dX12_stops_4 (by decide) (fun _ => ?_) (fun hbr => Bool.noConfusion (show false = true from hbr.symm.trans g))
  refine z_aload_n C dX12_stops_14 0 rfl rfl ?_
  refine f_callVv C hl (As := []) (rest := []) (c_X12_layHand l B s t N mo.1 mo.2.1) zb_113 (zg_12 zk_113) rfl (zCB (nA := 0) C rfl rfl tw_851 tw_13 tw_848 (by decide +kernel) ⟨Nat.le_of_ble_eq_true rfl, Nat.le_of_ble_eq_true rfl⟩) tw_850 tp_31 rfl rfl (Nat.le_of_ble_eq_true rfl) dX12_stops_15 (Nat.zero_le _) ?_
  refine z_aload_n C dX12_stops_18 0 rfl rfl ?_
  refine z_iload_n C dX12_stops_19 1 rfl rfl ?_
  refine f_callVr C hl (As := [.int b]) (rest := []) (c_X12_stopping l B (wHand s N) t N (mK s) (mL s) (mH s) (mS s) (s 114 6) (hd_hand mo) b (wIn_r8 g)) zb_113 (zg_12 zk_113) rfl (zCB (nA := 1) C rfl rfl tw_863 tw_13 tw_860 (by decide +kernel) ⟨Nat.le_of_ble_eq_true rfl, Nat.le_of_ble_eq_true rfl⟩) tw_862 tp_34 rfl rfl (Nat.le_of_ble_eq_true rfl) dX12_stops_20 (Nat.zero_le _) ?_
  refine z_iret C E rfl dX12_stops_23 rfl (Nat.le_refl _) ⟨rfl, rfl⟩
abbrev mX12_most : zM := (yX12_most, cX12_most, 1, (some .int), { frames := 5, cells := 0, slots := 0, locals := 115 })
set_option maxRecDepth 100000 in
set_option maxHeartbeats 4000000 in
theorem c_X12_most (l : Launch) (B : zB) (s : zS) (t : zL) (N : Nat) (mo : mOk s N) : zD l B mX12_most s t [.ref (B.1 + 113)] (some (.int (wBest (fun b => decide (mW s N b = 0)) (255 &&& ((s 114 1 ||| s 114 2) ^^^ (-1))) 255))) (wHand s N) t := by
  refine z_met (by decide) (Nat.le_of_ble_eq_true rfl) ?_
  intro X hl C E hnm
  show Zf X B mX12_most s t 0 [(0, .ref (B.1 + 113))] []
  refine z_aload_n C dX12_most_0 0 rfl rfl ?_
  refine f_callVv C hl (As := []) (rest := []) (c_X12_layHand l B s t N mo.1 mo.2.1) zb_113 (zg_12 zk_113) rfl (zCB (nA := 0) C rfl rfl tw_851 tw_13 tw_848 (by decide +kernel) ⟨Nat.le_of_ble_eq_true rfl, Nat.le_of_ble_eq_true rfl⟩) tw_850 tp_31 rfl rfl (Nat.le_of_ble_eq_true rfl) dX12_most_1 (Nat.zero_le _) ?_
  refine z_aload_n C dX12_most_4 0 rfl rfl ?_
  refine f_callVr C hl (As := []) (rest := []) (c_X12_mostFree l B (wHand s N) t N (mK s) (mL s) (mH s) (mS s) (s 114 6) (hd_hand mo)) zb_113 (zg_12 zk_113) rfl (zCB (nA := 0) C rfl rfl tw_930 tw_13 tw_927 (by decide +kernel) ⟨Nat.le_of_ble_eq_true rfl, Nat.le_of_ble_eq_true rfl⟩) tw_929 tp_40 rfl rfl (Nat.le_of_ble_eq_true rfl) dX12_most_5 (Nat.zero_le _) ?_
  refine z_iret C E rfl dX12_most_8 rfl (Nat.le_refl _) ⟨by rw [wHand_114]; rfl, rfl⟩
abbrev mX12_money : zM := (yX12_money, cX12_money, 6, (some .int), { frames := 4, cells := 0, slots := 0, locals := 92 })
set_option maxRecDepth 100000 in
set_option maxHeartbeats 4000000 in
theorem c_X12_money_bad (l : Launch) (B : zB) (s : zS) (t : zL) (a w : Int32) (h : (wIn a 200 && wIn w 2) = false) : zD l B mX12_money s t [.ref (B.1 + 113), .int a, .int w] (some (.int (-2))) (zu s 117 0 (s 117 0 + 1)) t := by
  refine z_met (by decide) (Nat.le_of_ble_eq_true rfl) ?_
  intro X hl C E hnm
  show Zf X B mX12_money s t 0 [(0, .ref (B.1 + 113)), (1, .int a), (2, .int w)] []
  refine z_iload_n C dX12_money_0 1 rfl rfl ?_
  refine z_i2l C dX12_money_1 ?_
  refine z_lconst C dX12_money_2 kl_0 ?_
  refine z_ldc2 C dX12_money_3 tw_935 ?_
  refine f_callSr C hl (As := [.long ((a : Int32).toInt64), .long 0, .long 200]) (rest := []) (c_X12_in0 l B s t a 200 ((a : Int32).toInt64) 200 rfl (by decide)) (zCB (nA := 3) C rfl rfl tw_810 tw_13 tw_808 (by decide +kernel) ⟨Nat.le_of_ble_eq_true rfl, Nat.le_of_ble_eq_true rfl⟩) tw_809 rfl rfl (Nat.le_of_ble_eq_true rfl) dX12_money_6 (Nat.zero_le _) ?_
  refine z_ifb_eq C 24 dX12_money_9 (by decide) (fun h9 => ?_) (fun h9 => ?_)
  · refine z_aload_n C dX12_money_24 0 rfl rfl ?_
    refine z_bipush C dX12_money_25 kb_m2 ?_
    refine f_callVr C hl (As := [.int (-2)]) (rest := []) (c_X12_bad l B s t (-2)) zb_113 (zg_12 zk_113) rfl (zCB (nA := 1) C rfl rfl tw_814 tw_13 tw_811 (by decide +kernel) ⟨Nat.le_of_ble_eq_true rfl, Nat.le_of_ble_eq_true rfl⟩) tw_813 tp_26 rfl rfl (Nat.le_of_ble_eq_true rfl) dX12_money_27 (Nat.zero_le _) ?_
    refine z_iret C E rfl dX12_money_30 rfl (Nat.le_refl _) ⟨rfl, rfl⟩
  · refine z_iload_n C dX12_money_12 2 rfl rfl ?_
    refine z_i2l C dX12_money_13 ?_
    refine z_lconst C dX12_money_14 kl_0 ?_
    refine z_ldc2 C dX12_money_15 tw_936 ?_
    refine f_callSr C hl (As := [.long ((w : Int32).toInt64), .long 0, .long 2]) (rest := []) (c_X12_in0 l B s t w 2 ((w : Int32).toInt64) 2 rfl (by decide)) (zCB (nA := 3) C rfl rfl tw_810 tw_13 tw_808 (by decide +kernel) ⟨Nat.le_of_ble_eq_true rfl, Nat.le_of_ble_eq_true rfl⟩) tw_809 rfl rfl (Nat.le_of_ble_eq_true rfl) dX12_money_18 (Nat.zero_le _) ?_
    refine z_ifb_ne C 31 dX12_money_21 (by decide) (fun h21 => ?_) (fun h21 => ?_)
    · exact absurd h (by rw [h9, h21]; decide)
    · refine z_aload_n C dX12_money_24 0 rfl rfl ?_
      refine z_bipush C dX12_money_25 kb_m2 ?_
      refine f_callVr C hl (As := [.int (-2)]) (rest := []) (c_X12_bad l B s t (-2)) zb_113 (zg_12 zk_113) rfl (zCB (nA := 1) C rfl rfl tw_814 tw_13 tw_811 (by decide +kernel) ⟨Nat.le_of_ble_eq_true rfl, Nat.le_of_ble_eq_true rfl⟩) tw_813 tp_26 rfl rfl (Nat.le_of_ble_eq_true rfl) dX12_money_27 (Nat.zero_le _) ?_
      refine z_iret C E rfl dX12_money_30 rfl (Nat.le_refl _) ⟨rfl, rfl⟩
set_option maxRecDepth 100000 in
set_option maxHeartbeats 4000000 in
theorem l_X12_money0 {l : Launch} {B : zB} {s : zS} {t : zL} {X : zX} (hl : X.2.1 = l) (C : zC X B mX12_money) (N : Nat) (K Lo Ha : Nat → Int32) (sl dy : Int32) (hd : wHd s N K Lo Ha sl dy) (a : Int32) (E : zE X B mX12_money 124 0 0 (zR B (some (.int (wBest (fun b => decide (wSum K (fun d => s 114 (9 + 4 * d + 3)) (wWho K Lo Ha sl dy b N) N ≤ a)) (255 &&& ((s 114 1 ||| s 114 2) ^^^ (-1))) 255))) s t)) : ∀ (m : Nat) (i : Nat) (q : Int32), i + m = 255 → q = wBest (fun b => decide (wSum K (fun d => s 114 (9 + 4 * d + 3)) (wWho K Lo Ha sl dy b N) N ≤ a)) (255 &&& ((s 114 1 ||| s 114 2) ^^^ (-1))) i → Zf X B mX12_money s t 40 [(4, .int (nI (i + 1))), (3, .int q), (0, .ref (B.1 + 113)), (1, .int a), (2, .int 0)] [] := by
  intro m
  induction m with
  | zero =>
    intro i q hi hq
    have h6 := hd.2.1
    obtain rfl : i = 255 := by omega
    refine z_iload C dX12_money_40 0 rfl ?_
    refine z_sipush C dX12_money_42 ks_255 ?_
    refine z_icmp_gt C 111 dX12_money_45 (by decide) (fun _ => ?_) (fun hbr => absurd (by decide) hbr)
    refine z_aload_n C dX12_money_111 2 rfl rfl ?_
    refine z_iload_n C dX12_money_112 1 rfl rfl ?_
    refine f_callVr C hl (As := [.int q]) (rest := []) (c_X12_stopping l B s t N K Lo Ha sl dy hd q (by rw [hq]; exact wBest_r8 _ _ _ (by decide))) zb_113 (zg_12 zk_113) rfl (zCB (nA := 1) C rfl rfl tw_863 tw_13 tw_860 (by decide +kernel) ⟨Nat.le_of_ble_eq_true rfl, Nat.le_of_ble_eq_true rfl⟩) tw_862 tp_34 rfl rfl (Nat.le_of_ble_eq_true rfl) dX12_money_113 (Nat.zero_le _) ?_
    refine z_istore C [(4, .int (wWho K Lo Ha sl dy q N)), (3, .int q), (0, .ref (B.1 + 113)), (1, .int a), (2, .int 0)] dX12_money_116 (by decide) rfl ?_
    refine z_iload_n C dX12_money_118 4 rfl rfl ?_
    refine z_if_ne C 126 dX12_money_119 (by decide) (fun hbr => absurd (by decide) hbr) (fun _ => ?_)
    refine z_iload_n C dX12_money_122 1 rfl rfl ?_
    refine z_goto C 142 dX12_money_123 (by decide) ?_
    refine z_iret C E rfl dX12_money_142 rfl (Nat.le_refl _) ⟨by rw [hq], rfl⟩
  | succ m ih =>
    intro i q hi0 hq
    have h6 := hd.2.1
    have hi : i < 255 := by omega
    have h8 : r8 (nI (i + 1)) := r8_of (by omega)
    have h9 : r8 q := by rw [hq]; exact wBest_r8 _ _ _ (by omega)
    refine z_iload C dX12_money_40 0 rfl ?_
    refine z_sipush C dX12_money_42 ks_255 ?_
    refine z_icmp_gt C 111 dX12_money_45 (by decide) (fun hbr => absurd hbr (show ¬ nI 255 < nI (i + 1) from nI_nlt (by omega) (by decide))) (fun _ => ?_)
    refine z_iload C dX12_money_48 0 rfl ?_
    refine z_aload_n C dX12_money_50 2 rfl rfl ?_
    refine f_callVr C hl (As := []) (rest := [.int (nI (i + 1))]) (c_X12_free l B s t) zb_113 (zg_12 zk_113) rfl (zCB (nA := 0) C rfl rfl tw_843 tw_13 tw_840 (by decide +kernel) ⟨Nat.le_of_ble_eq_true rfl, Nat.le_of_ble_eq_true rfl⟩) tw_842 tp_29 rfl rfl (Nat.le_of_ble_eq_true rfl) dX12_money_51 (Nat.zero_le _) ?_
    refine z_iconst C dX12_money_54 ki_m1 ?_
    refine z_ixor C dX12_money_55 ?_
    refine z_iand C dX12_money_56 ?_
    refine z_if_ne C 76 dX12_money_57 (by decide) (fun h57 => ?_) (fun h57 => ?_)
    · refine z_iconst C dX12_money_76 ki_0 ?_
      refine z_istore C [(5, .int 0), (4, .int (nI (i + 1))), (3, .int q), (0, .ref (B.1 + 113)), (1, .int a), (2, .int 0)] dX12_money_77 (by decide) rfl ?_
      refine z_iload C dX12_money_79 0 rfl ?_
      refine z_if_eq C 103 dX12_money_81 (by decide) (fun _ => ?_) (fun hbr => absurd (by decide) hbr)
      refine z_iload_n C dX12_money_103 2 rfl rfl ?_
      refine z_istore_n C [(3, .int q), (5, .int 0), (4, .int (nI (i + 1))), (0, .ref (B.1 + 113)), (1, .int a), (2, .int 0)] dX12_money_104 rfl (by decide) rfl ?_
      refine z_iinc C [(4, .int (nI (i + 1 + 1))), (3, .int q), (5, .int 0), (0, .ref (B.1 + 113)), (1, .int a), (2, .int 0)] dX12_money_105 2 rfl (nI_inc (i + 1)) (by decide) rfl ?_
      refine z_goto C 40 dX12_money_108 (by decide) ?_
      exact z_lv [0, 1, 3, 4, 5] rfl (ih (i + 1) _ (by omega) (wBest_n1 hq h57))
    · refine z_iload C dX12_money_60 0 rfl ?_
      refine f_callSr C hl (As := [.int (nI (i + 1))]) (rest := []) (c_X12_bits l B s t (nI (i + 1)) h8) (zCB (nA := 1) C rfl rfl tw_877 tw_13 tw_875 (by decide +kernel) ⟨Nat.le_of_ble_eq_true rfl, Nat.le_of_ble_eq_true rfl⟩) tw_876 rfl rfl (Nat.le_of_ble_eq_true rfl) dX12_money_62 (Nat.zero_le _) ?_
      refine z_iload_n C dX12_money_65 1 rfl rfl ?_
      refine f_callSr C hl (As := [.int q]) (rest := [.int (wPop (nI (i + 1)))]) (c_X12_bits l B s t q h9) (zCB (nA := 1) C rfl rfl tw_877 tw_13 tw_875 (by decide +kernel) ⟨Nat.le_of_ble_eq_true rfl, Nat.le_of_ble_eq_true rfl⟩) tw_876 rfl rfl (Nat.le_of_ble_eq_true rfl) dX12_money_66 (Nat.zero_le _) ?_
      refine z_icmp_le C 76 dX12_money_69 (by decide) (fun h69 => ?_) (fun h69 => ?_)
      · refine z_iconst C dX12_money_76 ki_0 ?_
        refine z_istore C [(5, .int 0), (4, .int (nI (i + 1))), (3, .int q), (0, .ref (B.1 + 113)), (1, .int a), (2, .int 0)] dX12_money_77 (by decide) rfl ?_
        refine z_iload C dX12_money_79 0 rfl ?_
        refine z_if_eq C 103 dX12_money_81 (by decide) (fun _ => ?_) (fun hbr => absurd (by decide) hbr)
        refine z_iload_n C dX12_money_103 2 rfl rfl ?_
        refine z_istore_n C [(3, .int q), (5, .int 0), (4, .int (nI (i + 1))), (0, .ref (B.1 + 113)), (1, .int a), (2, .int 0)] dX12_money_104 rfl (by decide) rfl ?_
        refine z_iinc C [(4, .int (nI (i + 1 + 1))), (3, .int q), (5, .int 0), (0, .ref (B.1 + 113)), (1, .int a), (2, .int 0)] dX12_money_105 2 rfl (nI_inc (i + 1)) (by decide) rfl ?_
        refine z_goto C 40 dX12_money_108 (by decide) ?_
        exact z_lv [0, 1, 3, 4, 5] rfl (ih (i + 1) _ (by omega) (wBest_n2 hq h69))
      · refine z_iconst C dX12_money_72 ki_1 ?_
        refine z_goto C 77 dX12_money_73 (by decide) ?_
        refine z_istore C [(5, .int 1), (4, .int (nI (i + 1))), (3, .int q), (0, .ref (B.1 + 113)), (1, .int a), (2, .int 0)] dX12_money_77 (by decide) rfl ?_
        refine z_iload C dX12_money_79 0 rfl ?_
        refine z_if_eq C 103 dX12_money_81 (by decide) (fun hbr => absurd hbr (by decide)) (fun _ => ?_)
        refine z_aload_n C dX12_money_84 3 rfl rfl ?_
        refine z_aload_n C dX12_money_85 3 rfl rfl ?_
        refine z_iload C dX12_money_86 1 rfl ?_
        refine f_callVr C hl (As := [.int (nI (i + 1))]) (rest := [.ref (B.1 + 113)]) (c_X12_stopping l B s t N K Lo Ha sl dy hd (nI (i + 1)) h8) zb_113 (zg_12 zk_113) rfl (zCB (nA := 1) C rfl rfl tw_863 tw_13 tw_860 (by decide +kernel) ⟨Nat.le_of_ble_eq_true rfl, Nat.le_of_ble_eq_true rfl⟩) tw_862 tp_34 rfl rfl (Nat.le_of_ble_eq_true rfl) dX12_money_88 (Nat.zero_le _) ?_
        refine f_callVr C hl (As := [.int (wWho K Lo Ha sl dy (nI (i + 1)) N)]) (rest := []) (c_X12_costOfAll l B s t N K Lo Ha sl dy hd (wWho K Lo Ha sl dy (nI (i + 1)) N) (wWho_r8 _ _ _ _ _ _ _ (by omega))) zb_113 (zg_12 zk_113) rfl (zCB (nA := 1) C rfl rfl tw_940 tw_13 tw_937 (by decide +kernel) ⟨Nat.le_of_ble_eq_true rfl, Nat.le_of_ble_eq_true rfl⟩) tw_939 tp_41 rfl rfl (Nat.le_of_ble_eq_true rfl) dX12_money_91 (Nat.zero_le _) ?_
        refine z_iload_n C dX12_money_94 4 rfl rfl ?_
        refine z_icmp_gt C 103 dX12_money_95 (by decide) (fun h95 => ?_) (fun h95 => ?_)
        · refine z_iload_n C dX12_money_103 2 rfl rfl ?_
          refine z_istore_n C [(3, .int q), (5, .int 1), (4, .int (nI (i + 1))), (0, .ref (B.1 + 113)), (1, .int a), (2, .int 0)] dX12_money_104 rfl (by decide) rfl ?_
          refine z_iinc C [(4, .int (nI (i + 1 + 1))), (3, .int q), (5, .int 1), (0, .ref (B.1 + 113)), (1, .int a), (2, .int 0)] dX12_money_105 2 rfl (nI_inc (i + 1)) (by decide) rfl ?_
          refine z_goto C 40 dX12_money_108 (by decide) ?_
          exact z_lv [0, 1, 3, 4, 5] rfl (ih (i + 1) _ (by omega) (wBest_n3 hq (decide_eq_false (Int32.not_le.mpr h95))))
        · refine z_iload C dX12_money_98 1 rfl ?_
          refine z_goto C 104 dX12_money_100 (by decide) ?_
          refine z_istore_n C [(3, .int (nI (i + 1))), (5, .int 1), (4, .int (nI (i + 1))), (0, .ref (B.1 + 113)), (1, .int a), (2, .int 0)] dX12_money_104 rfl (by decide) rfl ?_
          refine z_iinc C [(4, .int (nI (i + 1 + 1))), (3, .int (nI (i + 1))), (5, .int 1), (0, .ref (B.1 + 113)), (1, .int a), (2, .int 0)] dX12_money_105 2 rfl (nI_inc (i + 1)) (by decide) rfl ?_
          refine z_goto C 40 dX12_money_108 (by decide) ?_
          exact z_lv [0, 1, 3, 4, 5] rfl (ih (i + 1) _ (by omega) (wBest_y hq h57 h69 (decide_eq_true (Int32.not_lt.mp h95))))
set_option maxRecDepth 100000 in
set_option maxHeartbeats 4000000 in
theorem c_X12_money_0 (l : Launch) (B : zB) (s : zS) (t : zL) (N : Nat) (mo : mOk s N) (a : Int32) (g : wIn a 200 = true) : zD l B mX12_money s t [.ref (B.1 + 113), .int a, .int 0] (some (.int (wBest (fun b => decide (wSum (mK s) (mP s) (mW s N b) N ≤ a)) (255 &&& ((s 114 1 ||| s 114 2) ^^^ (-1))) 255))) (wHand s N) t := by
  refine z_met (by decide) (Nat.le_of_ble_eq_true rfl) ?_
  intro X hl C E hnm
  show Zf X B mX12_money s t 0 [(0, .ref (B.1 + 113)), (1, .int a), (2, .int 0)] []
  refine z_iload_n C dX12_money_0 1 rfl rfl ?_
  refine z_i2l C dX12_money_1 ?_
  refine z_lconst C dX12_money_2 kl_0 ?_
  refine z_ldc2 C dX12_money_3 tw_935 ?_
  refine f_callSr C hl (As := [.long ((a : Int32).toInt64), .long 0, .long 200]) (rest := []) (c_X12_in0 l B s t a 200 ((a : Int32).toInt64) 200 rfl (by decide)) (zCB (nA := 3) C rfl rfl tw_810 tw_13 tw_808 (by decide +kernel) ⟨Nat.le_of_ble_eq_true rfl, Nat.le_of_ble_eq_true rfl⟩) tw_809 rfl rfl (Nat.le_of_ble_eq_true rfl) dX12_money_6 (Nat.zero_le _) ?_
  refine z_ifb_eq C 24 dX12_money_9 (by decide) (fun hbr => absurd hbr (by rw [g]; decide)) (fun _ => ?_)
  refine z_iload_n C dX12_money_12 2 rfl rfl ?_
  refine z_i2l C dX12_money_13 ?_
  refine z_lconst C dX12_money_14 kl_0 ?_
  refine z_ldc2 C dX12_money_15 tw_936 ?_
  refine f_callSr C hl (As := [.long ((0 : Int32).toInt64), .long 0, .long 2]) (rest := []) (c_X12_in0 l B s t 0 2 ((0 : Int32).toInt64) 2 rfl (by decide)) (zCB (nA := 3) C rfl rfl tw_810 tw_13 tw_808 (by decide +kernel) ⟨Nat.le_of_ble_eq_true rfl, Nat.le_of_ble_eq_true rfl⟩) tw_809 rfl rfl (Nat.le_of_ble_eq_true rfl) dX12_money_18 (Nat.zero_le _) ?_
  refine z_ifb_ne C 31 dX12_money_21 (by decide) (fun _ => ?_) (fun hbr => Bool.noConfusion (show false = true from hbr.symm.trans (by decide)))
  refine z_iconst C dX12_money_31 ki_0 ?_
  refine z_istore_n C [(3, .int 0), (0, .ref (B.1 + 113)), (1, .int a), (2, .int 0)] dX12_money_32 rfl (by decide) rfl ?_
  refine z_aload_n C dX12_money_33 1 rfl rfl ?_
  refine f_callVv C hl (As := []) (rest := []) (c_X12_layHand l B s t N mo.1 mo.2.1) zb_113 (zg_12 zk_113) rfl (zCB (nA := 0) C rfl rfl tw_851 tw_13 tw_848 (by decide +kernel) ⟨Nat.le_of_ble_eq_true rfl, Nat.le_of_ble_eq_true rfl⟩) tw_850 tp_31 rfl rfl (Nat.le_of_ble_eq_true rfl) dX12_money_34 (Nat.zero_le _) ?_
  refine z_iconst C dX12_money_37 ki_1 ?_
  refine z_istore C [(4, .int 1), (3, .int 0), (0, .ref (B.1 + 113)), (1, .int a), (2, .int 0)] dX12_money_38 (by decide) rfl ?_
  refine z_lv (lv2 := [(4, .int (nI (0 + 1))), (3, .int 0), (0, .ref (B.1 + 113)), (1, .int a), (2, .int 0)]) [0, 1, 2, 3, 4] rfl (l_X12_money0 (s := (wHand s N)) hl C N (mK s) (mL s) (mH s) (mS s) (s 114 6) (hd_hand mo) a ?_ 255 0 0 (by omega) rfl)
  rw [wHand_114]
  exact E
set_option maxRecDepth 100000 in
set_option maxHeartbeats 4000000 in
theorem l_X12_money1 {l : Launch} {B : zB} {s : zS} {t : zL} {X : zX} (hl : X.2.1 = l) (C : zC X B mX12_money) (N : Nat) (K Lo Ha : Nat → Int32) (sl dy : Int32) (hd : wHd s N K Lo Ha sl dy) (a : Int32) (E : zE X B mX12_money 124 0 0 (zR B (some (.int (wSum K (fun d => s 114 (9 + 4 * d + 3)) (wWho K Lo Ha sl dy (wBest (fun b => decide (wSum K (fun d => s 114 (9 + 4 * d + 3)) (wWho K Lo Ha sl dy b N) N ≤ a)) (255 &&& ((s 114 1 ||| s 114 2) ^^^ (-1))) 255) N) N))) s t)) : ∀ (m : Nat) (i : Nat) (q : Int32), i + m = 255 → q = wBest (fun b => decide (wSum K (fun d => s 114 (9 + 4 * d + 3)) (wWho K Lo Ha sl dy b N) N ≤ a)) (255 &&& ((s 114 1 ||| s 114 2) ^^^ (-1))) i → Zf X B mX12_money s t 40 [(4, .int (nI (i + 1))), (3, .int q), (0, .ref (B.1 + 113)), (1, .int a), (2, .int 1)] [] := by
  intro m
  induction m with
  | zero =>
    intro i q hi hq
    have h6 := hd.2.1
    obtain rfl : i = 255 := by omega
    refine z_iload C dX12_money_40 0 rfl ?_
    refine z_sipush C dX12_money_42 ks_255 ?_
    refine z_icmp_gt C 111 dX12_money_45 (by decide) (fun _ => ?_) (fun hbr => absurd (by decide) hbr)
    refine z_aload_n C dX12_money_111 2 rfl rfl ?_
    refine z_iload_n C dX12_money_112 1 rfl rfl ?_
    refine f_callVr C hl (As := [.int q]) (rest := []) (c_X12_stopping l B s t N K Lo Ha sl dy hd q (by rw [hq]; exact wBest_r8 _ _ _ (by decide))) zb_113 (zg_12 zk_113) rfl (zCB (nA := 1) C rfl rfl tw_863 tw_13 tw_860 (by decide +kernel) ⟨Nat.le_of_ble_eq_true rfl, Nat.le_of_ble_eq_true rfl⟩) tw_862 tp_34 rfl rfl (Nat.le_of_ble_eq_true rfl) dX12_money_113 (Nat.zero_le _) ?_
    refine z_istore C [(4, .int (wWho K Lo Ha sl dy q N)), (3, .int q), (0, .ref (B.1 + 113)), (1, .int a), (2, .int 1)] dX12_money_116 (by decide) rfl ?_
    refine z_iload_n C dX12_money_118 4 rfl rfl ?_
    refine z_if_ne C 126 dX12_money_119 (by decide) (fun _ => ?_) (fun hbr => absurd hbr (by decide))
    refine z_iload_n C dX12_money_126 4 rfl rfl ?_
    refine z_iconst C dX12_money_127 ki_1 ?_
    refine z_icmp_ne C 140 dX12_money_128 (by decide) (fun hbr => absurd (by decide) hbr) (fun _ => ?_)
    refine z_aload_n C dX12_money_131 2 rfl rfl ?_
    refine z_iload C dX12_money_132 0 rfl ?_
    refine f_callVr C hl (As := [.int (wWho K Lo Ha sl dy q N)]) (rest := []) (c_X12_costOfAll l B s t N K Lo Ha sl dy hd (wWho K Lo Ha sl dy q N) (wWho_r8 _ _ _ _ _ _ _ (by omega))) zb_113 (zg_12 zk_113) rfl (zCB (nA := 1) C rfl rfl tw_940 tw_13 tw_937 (by decide +kernel) ⟨Nat.le_of_ble_eq_true rfl, Nat.le_of_ble_eq_true rfl⟩) tw_939 tp_41 rfl rfl (Nat.le_of_ble_eq_true rfl) dX12_money_134 (Nat.zero_le _) ?_
    refine z_goto C 142 dX12_money_137 (by decide) ?_
    refine z_iret C E rfl dX12_money_142 rfl (Nat.le_refl _) ⟨by rw [hq], rfl⟩
  | succ m ih =>
    intro i q hi0 hq
    have h6 := hd.2.1
    have hi : i < 255 := by omega
    have h8 : r8 (nI (i + 1)) := r8_of (by omega)
    have h9 : r8 q := by rw [hq]; exact wBest_r8 _ _ _ (by omega)
    refine z_iload C dX12_money_40 0 rfl ?_
    refine z_sipush C dX12_money_42 ks_255 ?_
    refine z_icmp_gt C 111 dX12_money_45 (by decide) (fun hbr => absurd hbr (show ¬ nI 255 < nI (i + 1) from nI_nlt (by omega) (by decide))) (fun _ => ?_)
    refine z_iload C dX12_money_48 0 rfl ?_
    refine z_aload_n C dX12_money_50 2 rfl rfl ?_
    refine f_callVr C hl (As := []) (rest := [.int (nI (i + 1))]) (c_X12_free l B s t) zb_113 (zg_12 zk_113) rfl (zCB (nA := 0) C rfl rfl tw_843 tw_13 tw_840 (by decide +kernel) ⟨Nat.le_of_ble_eq_true rfl, Nat.le_of_ble_eq_true rfl⟩) tw_842 tp_29 rfl rfl (Nat.le_of_ble_eq_true rfl) dX12_money_51 (Nat.zero_le _) ?_
    refine z_iconst C dX12_money_54 ki_m1 ?_
    refine z_ixor C dX12_money_55 ?_
    refine z_iand C dX12_money_56 ?_
    refine z_if_ne C 76 dX12_money_57 (by decide) (fun h57 => ?_) (fun h57 => ?_)
    · refine z_iconst C dX12_money_76 ki_0 ?_
      refine z_istore C [(5, .int 0), (4, .int (nI (i + 1))), (3, .int q), (0, .ref (B.1 + 113)), (1, .int a), (2, .int 1)] dX12_money_77 (by decide) rfl ?_
      refine z_iload C dX12_money_79 0 rfl ?_
      refine z_if_eq C 103 dX12_money_81 (by decide) (fun _ => ?_) (fun hbr => absurd (by decide) hbr)
      refine z_iload_n C dX12_money_103 2 rfl rfl ?_
      refine z_istore_n C [(3, .int q), (5, .int 0), (4, .int (nI (i + 1))), (0, .ref (B.1 + 113)), (1, .int a), (2, .int 1)] dX12_money_104 rfl (by decide) rfl ?_
      refine z_iinc C [(4, .int (nI (i + 1 + 1))), (3, .int q), (5, .int 0), (0, .ref (B.1 + 113)), (1, .int a), (2, .int 1)] dX12_money_105 2 rfl (nI_inc (i + 1)) (by decide) rfl ?_
      refine z_goto C 40 dX12_money_108 (by decide) ?_
      exact z_lv [0, 1, 3, 4, 5] rfl (ih (i + 1) _ (by omega) (wBest_n1 hq h57))
    · refine z_iload C dX12_money_60 0 rfl ?_
      refine f_callSr C hl (As := [.int (nI (i + 1))]) (rest := []) (c_X12_bits l B s t (nI (i + 1)) h8) (zCB (nA := 1) C rfl rfl tw_877 tw_13 tw_875 (by decide +kernel) ⟨Nat.le_of_ble_eq_true rfl, Nat.le_of_ble_eq_true rfl⟩) tw_876 rfl rfl (Nat.le_of_ble_eq_true rfl) dX12_money_62 (Nat.zero_le _) ?_
      refine z_iload_n C dX12_money_65 1 rfl rfl ?_
      refine f_callSr C hl (As := [.int q]) (rest := [.int (wPop (nI (i + 1)))]) (c_X12_bits l B s t q h9) (zCB (nA := 1) C rfl rfl tw_877 tw_13 tw_875 (by decide +kernel) ⟨Nat.le_of_ble_eq_true rfl, Nat.le_of_ble_eq_true rfl⟩) tw_876 rfl rfl (Nat.le_of_ble_eq_true rfl) dX12_money_66 (Nat.zero_le _) ?_
      refine z_icmp_le C 76 dX12_money_69 (by decide) (fun h69 => ?_) (fun h69 => ?_)
      · refine z_iconst C dX12_money_76 ki_0 ?_
        refine z_istore C [(5, .int 0), (4, .int (nI (i + 1))), (3, .int q), (0, .ref (B.1 + 113)), (1, .int a), (2, .int 1)] dX12_money_77 (by decide) rfl ?_
        refine z_iload C dX12_money_79 0 rfl ?_
        refine z_if_eq C 103 dX12_money_81 (by decide) (fun _ => ?_) (fun hbr => absurd (by decide) hbr)
        refine z_iload_n C dX12_money_103 2 rfl rfl ?_
        refine z_istore_n C [(3, .int q), (5, .int 0), (4, .int (nI (i + 1))), (0, .ref (B.1 + 113)), (1, .int a), (2, .int 1)] dX12_money_104 rfl (by decide) rfl ?_
        refine z_iinc C [(4, .int (nI (i + 1 + 1))), (3, .int q), (5, .int 0), (0, .ref (B.1 + 113)), (1, .int a), (2, .int 1)] dX12_money_105 2 rfl (nI_inc (i + 1)) (by decide) rfl ?_
        refine z_goto C 40 dX12_money_108 (by decide) ?_
        exact z_lv [0, 1, 3, 4, 5] rfl (ih (i + 1) _ (by omega) (wBest_n2 hq h69))
      · refine z_iconst C dX12_money_72 ki_1 ?_
        refine z_goto C 77 dX12_money_73 (by decide) ?_
        refine z_istore C [(5, .int 1), (4, .int (nI (i + 1))), (3, .int q), (0, .ref (B.1 + 113)), (1, .int a), (2, .int 1)] dX12_money_77 (by decide) rfl ?_
        refine z_iload C dX12_money_79 0 rfl ?_
        refine z_if_eq C 103 dX12_money_81 (by decide) (fun hbr => absurd hbr (by decide)) (fun _ => ?_)
        refine z_aload_n C dX12_money_84 3 rfl rfl ?_
        refine z_aload_n C dX12_money_85 3 rfl rfl ?_
        refine z_iload C dX12_money_86 1 rfl ?_
        refine f_callVr C hl (As := [.int (nI (i + 1))]) (rest := [.ref (B.1 + 113)]) (c_X12_stopping l B s t N K Lo Ha sl dy hd (nI (i + 1)) h8) zb_113 (zg_12 zk_113) rfl (zCB (nA := 1) C rfl rfl tw_863 tw_13 tw_860 (by decide +kernel) ⟨Nat.le_of_ble_eq_true rfl, Nat.le_of_ble_eq_true rfl⟩) tw_862 tp_34 rfl rfl (Nat.le_of_ble_eq_true rfl) dX12_money_88 (Nat.zero_le _) ?_
        refine f_callVr C hl (As := [.int (wWho K Lo Ha sl dy (nI (i + 1)) N)]) (rest := []) (c_X12_costOfAll l B s t N K Lo Ha sl dy hd (wWho K Lo Ha sl dy (nI (i + 1)) N) (wWho_r8 _ _ _ _ _ _ _ (by omega))) zb_113 (zg_12 zk_113) rfl (zCB (nA := 1) C rfl rfl tw_940 tw_13 tw_937 (by decide +kernel) ⟨Nat.le_of_ble_eq_true rfl, Nat.le_of_ble_eq_true rfl⟩) tw_939 tp_41 rfl rfl (Nat.le_of_ble_eq_true rfl) dX12_money_91 (Nat.zero_le _) ?_
        refine z_iload_n C dX12_money_94 4 rfl rfl ?_
        refine z_icmp_gt C 103 dX12_money_95 (by decide) (fun h95 => ?_) (fun h95 => ?_)
        · refine z_iload_n C dX12_money_103 2 rfl rfl ?_
          refine z_istore_n C [(3, .int q), (5, .int 1), (4, .int (nI (i + 1))), (0, .ref (B.1 + 113)), (1, .int a), (2, .int 1)] dX12_money_104 rfl (by decide) rfl ?_
          refine z_iinc C [(4, .int (nI (i + 1 + 1))), (3, .int q), (5, .int 1), (0, .ref (B.1 + 113)), (1, .int a), (2, .int 1)] dX12_money_105 2 rfl (nI_inc (i + 1)) (by decide) rfl ?_
          refine z_goto C 40 dX12_money_108 (by decide) ?_
          exact z_lv [0, 1, 3, 4, 5] rfl (ih (i + 1) _ (by omega) (wBest_n3 hq (decide_eq_false (Int32.not_le.mpr h95))))
        · refine z_iload C dX12_money_98 1 rfl ?_
          refine z_goto C 104 dX12_money_100 (by decide) ?_
          refine z_istore_n C [(3, .int (nI (i + 1))), (5, .int 1), (4, .int (nI (i + 1))), (0, .ref (B.1 + 113)), (1, .int a), (2, .int 1)] dX12_money_104 rfl (by decide) rfl ?_
          refine z_iinc C [(4, .int (nI (i + 1 + 1))), (3, .int (nI (i + 1))), (5, .int 1), (0, .ref (B.1 + 113)), (1, .int a), (2, .int 1)] dX12_money_105 2 rfl (nI_inc (i + 1)) (by decide) rfl ?_
          refine z_goto C 40 dX12_money_108 (by decide) ?_
          exact z_lv [0, 1, 3, 4, 5] rfl (ih (i + 1) _ (by omega) (wBest_y hq h57 h69 (decide_eq_true (Int32.not_lt.mp h95))))
set_option maxRecDepth 100000 in
set_option maxHeartbeats 4000000 in
theorem c_X12_money_1 (l : Launch) (B : zB) (s : zS) (t : zL) (N : Nat) (mo : mOk s N) (a : Int32) (g : wIn a 200 = true) : zD l B mX12_money s t [.ref (B.1 + 113), .int a, .int 1] (some (.int (wSum (mK s) (mP s) (mW s N (wBest (fun b => decide (wSum (mK s) (mP s) (mW s N b) N ≤ a)) (255 &&& ((s 114 1 ||| s 114 2) ^^^ (-1))) 255)) N))) (wHand s N) t := by
  refine z_met (by decide) (Nat.le_of_ble_eq_true rfl) ?_
  intro X hl C E hnm
  show Zf X B mX12_money s t 0 [(0, .ref (B.1 + 113)), (1, .int a), (2, .int 1)] []
  refine z_iload_n C dX12_money_0 1 rfl rfl ?_
  refine z_i2l C dX12_money_1 ?_
  refine z_lconst C dX12_money_2 kl_0 ?_
  refine z_ldc2 C dX12_money_3 tw_935 ?_
  refine f_callSr C hl (As := [.long ((a : Int32).toInt64), .long 0, .long 200]) (rest := []) (c_X12_in0 l B s t a 200 ((a : Int32).toInt64) 200 rfl (by decide)) (zCB (nA := 3) C rfl rfl tw_810 tw_13 tw_808 (by decide +kernel) ⟨Nat.le_of_ble_eq_true rfl, Nat.le_of_ble_eq_true rfl⟩) tw_809 rfl rfl (Nat.le_of_ble_eq_true rfl) dX12_money_6 (Nat.zero_le _) ?_
  refine z_ifb_eq C 24 dX12_money_9 (by decide) (fun hbr => absurd hbr (by rw [g]; decide)) (fun _ => ?_)
  refine z_iload_n C dX12_money_12 2 rfl rfl ?_
  refine z_i2l C dX12_money_13 ?_
  refine z_lconst C dX12_money_14 kl_0 ?_
  refine z_ldc2 C dX12_money_15 tw_936 ?_
  refine f_callSr C hl (As := [.long ((1 : Int32).toInt64), .long 0, .long 2]) (rest := []) (c_X12_in0 l B s t 1 2 ((1 : Int32).toInt64) 2 rfl (by decide)) (zCB (nA := 3) C rfl rfl tw_810 tw_13 tw_808 (by decide +kernel) ⟨Nat.le_of_ble_eq_true rfl, Nat.le_of_ble_eq_true rfl⟩) tw_809 rfl rfl (Nat.le_of_ble_eq_true rfl) dX12_money_18 (Nat.zero_le _) ?_
  refine z_ifb_ne C 31 dX12_money_21 (by decide) (fun _ => ?_) (fun hbr => Bool.noConfusion (show false = true from hbr.symm.trans (by decide)))
  refine z_iconst C dX12_money_31 ki_0 ?_
  refine z_istore_n C [(3, .int 0), (0, .ref (B.1 + 113)), (1, .int a), (2, .int 1)] dX12_money_32 rfl (by decide) rfl ?_
  refine z_aload_n C dX12_money_33 1 rfl rfl ?_
  refine f_callVv C hl (As := []) (rest := []) (c_X12_layHand l B s t N mo.1 mo.2.1) zb_113 (zg_12 zk_113) rfl (zCB (nA := 0) C rfl rfl tw_851 tw_13 tw_848 (by decide +kernel) ⟨Nat.le_of_ble_eq_true rfl, Nat.le_of_ble_eq_true rfl⟩) tw_850 tp_31 rfl rfl (Nat.le_of_ble_eq_true rfl) dX12_money_34 (Nat.zero_le _) ?_
  refine z_iconst C dX12_money_37 ki_1 ?_
  refine z_istore C [(4, .int 1), (3, .int 0), (0, .ref (B.1 + 113)), (1, .int a), (2, .int 1)] dX12_money_38 (by decide) rfl ?_
  refine z_lv (lv2 := [(4, .int (nI (0 + 1))), (3, .int 0), (0, .ref (B.1 + 113)), (1, .int a), (2, .int 1)]) [0, 1, 2, 3, 4] rfl (l_X12_money1 (s := (wHand s N)) hl C N (mK s) (mL s) (mH s) (mS s) (s 114 6) (hd_hand mo) a ?_ 255 0 0 (by omega) rfl)
  rw [wHand_114]
  exact E
set_option maxRecDepth 100000 in
set_option maxHeartbeats 4000000 in
theorem l_X12_money2 {l : Launch} {B : zB} {s : zS} {t : zL} {X : zX} (hl : X.2.1 = l) (C : zC X B mX12_money) (N : Nat) (K Lo Ha : Nat → Int32) (sl dy : Int32) (hd : wHd s N K Lo Ha sl dy) (a : Int32) (E : zE X B mX12_money 124 0 0 (zR B (some (.int (wWho K Lo Ha sl dy (wBest (fun b => decide (wSum K (fun d => s 114 (9 + 4 * d + 3)) (wWho K Lo Ha sl dy b N) N ≤ a)) (255 &&& ((s 114 1 ||| s 114 2) ^^^ (-1))) 255) N))) s t)) : ∀ (m : Nat) (i : Nat) (q : Int32), i + m = 255 → q = wBest (fun b => decide (wSum K (fun d => s 114 (9 + 4 * d + 3)) (wWho K Lo Ha sl dy b N) N ≤ a)) (255 &&& ((s 114 1 ||| s 114 2) ^^^ (-1))) i → Zf X B mX12_money s t 40 [(4, .int (nI (i + 1))), (3, .int q), (0, .ref (B.1 + 113)), (1, .int a), (2, .int 2)] [] := by
  intro m
  induction m with
  | zero =>
    intro i q hi hq
    have h6 := hd.2.1
    obtain rfl : i = 255 := by omega
    refine z_iload C dX12_money_40 0 rfl ?_
    refine z_sipush C dX12_money_42 ks_255 ?_
    refine z_icmp_gt C 111 dX12_money_45 (by decide) (fun _ => ?_) (fun hbr => absurd (by decide) hbr)
    refine z_aload_n C dX12_money_111 2 rfl rfl ?_
    refine z_iload_n C dX12_money_112 1 rfl rfl ?_
    refine f_callVr C hl (As := [.int q]) (rest := []) (c_X12_stopping l B s t N K Lo Ha sl dy hd q (by rw [hq]; exact wBest_r8 _ _ _ (by decide))) zb_113 (zg_12 zk_113) rfl (zCB (nA := 1) C rfl rfl tw_863 tw_13 tw_860 (by decide +kernel) ⟨Nat.le_of_ble_eq_true rfl, Nat.le_of_ble_eq_true rfl⟩) tw_862 tp_34 rfl rfl (Nat.le_of_ble_eq_true rfl) dX12_money_113 (Nat.zero_le _) ?_
    refine z_istore C [(4, .int (wWho K Lo Ha sl dy q N)), (3, .int q), (0, .ref (B.1 + 113)), (1, .int a), (2, .int 2)] dX12_money_116 (by decide) rfl ?_
    refine z_iload_n C dX12_money_118 4 rfl rfl ?_
    refine z_if_ne C 126 dX12_money_119 (by decide) (fun _ => ?_) (fun hbr => absurd hbr (by decide))
    refine z_iload_n C dX12_money_126 4 rfl rfl ?_
    refine z_iconst C dX12_money_127 ki_1 ?_
    refine z_icmp_ne C 140 dX12_money_128 (by decide) (fun _ => ?_) (fun hbr => absurd hbr (by decide))
    refine z_iload C dX12_money_140 0 rfl ?_
    refine z_iret C E rfl dX12_money_142 rfl (Nat.le_refl _) ⟨by rw [hq], rfl⟩
  | succ m ih =>
    intro i q hi0 hq
    have h6 := hd.2.1
    have hi : i < 255 := by omega
    have h8 : r8 (nI (i + 1)) := r8_of (by omega)
    have h9 : r8 q := by rw [hq]; exact wBest_r8 _ _ _ (by omega)
    refine z_iload C dX12_money_40 0 rfl ?_
    refine z_sipush C dX12_money_42 ks_255 ?_
    refine z_icmp_gt C 111 dX12_money_45 (by decide) (fun hbr => absurd hbr (show ¬ nI 255 < nI (i + 1) from nI_nlt (by omega) (by decide))) (fun _ => ?_)
    refine z_iload C dX12_money_48 0 rfl ?_
    refine z_aload_n C dX12_money_50 2 rfl rfl ?_
    refine f_callVr C hl (As := []) (rest := [.int (nI (i + 1))]) (c_X12_free l B s t) zb_113 (zg_12 zk_113) rfl (zCB (nA := 0) C rfl rfl tw_843 tw_13 tw_840 (by decide +kernel) ⟨Nat.le_of_ble_eq_true rfl, Nat.le_of_ble_eq_true rfl⟩) tw_842 tp_29 rfl rfl (Nat.le_of_ble_eq_true rfl) dX12_money_51 (Nat.zero_le _) ?_
    refine z_iconst C dX12_money_54 ki_m1 ?_
    refine z_ixor C dX12_money_55 ?_
    refine z_iand C dX12_money_56 ?_
    refine z_if_ne C 76 dX12_money_57 (by decide) (fun h57 => ?_) (fun h57 => ?_)
    · refine z_iconst C dX12_money_76 ki_0 ?_
      refine z_istore C [(5, .int 0), (4, .int (nI (i + 1))), (3, .int q), (0, .ref (B.1 + 113)), (1, .int a), (2, .int 2)] dX12_money_77 (by decide) rfl ?_
      refine z_iload C dX12_money_79 0 rfl ?_
      refine z_if_eq C 103 dX12_money_81 (by decide) (fun _ => ?_) (fun hbr => absurd (by decide) hbr)
      refine z_iload_n C dX12_money_103 2 rfl rfl ?_
      refine z_istore_n C [(3, .int q), (5, .int 0), (4, .int (nI (i + 1))), (0, .ref (B.1 + 113)), (1, .int a), (2, .int 2)] dX12_money_104 rfl (by decide) rfl ?_
      refine z_iinc C [(4, .int (nI (i + 1 + 1))), (3, .int q), (5, .int 0), (0, .ref (B.1 + 113)), (1, .int a), (2, .int 2)] dX12_money_105 2 rfl (nI_inc (i + 1)) (by decide) rfl ?_
      refine z_goto C 40 dX12_money_108 (by decide) ?_
      exact z_lv [0, 1, 3, 4, 5] rfl (ih (i + 1) _ (by omega) (wBest_n1 hq h57))
    · refine z_iload C dX12_money_60 0 rfl ?_
      refine f_callSr C hl (As := [.int (nI (i + 1))]) (rest := []) (c_X12_bits l B s t (nI (i + 1)) h8) (zCB (nA := 1) C rfl rfl tw_877 tw_13 tw_875 (by decide +kernel) ⟨Nat.le_of_ble_eq_true rfl, Nat.le_of_ble_eq_true rfl⟩) tw_876 rfl rfl (Nat.le_of_ble_eq_true rfl) dX12_money_62 (Nat.zero_le _) ?_
      refine z_iload_n C dX12_money_65 1 rfl rfl ?_
      refine f_callSr C hl (As := [.int q]) (rest := [.int (wPop (nI (i + 1)))]) (c_X12_bits l B s t q h9) (zCB (nA := 1) C rfl rfl tw_877 tw_13 tw_875 (by decide +kernel) ⟨Nat.le_of_ble_eq_true rfl, Nat.le_of_ble_eq_true rfl⟩) tw_876 rfl rfl (Nat.le_of_ble_eq_true rfl) dX12_money_66 (Nat.zero_le _) ?_
      refine z_icmp_le C 76 dX12_money_69 (by decide) (fun h69 => ?_) (fun h69 => ?_)
      · refine z_iconst C dX12_money_76 ki_0 ?_
        refine z_istore C [(5, .int 0), (4, .int (nI (i + 1))), (3, .int q), (0, .ref (B.1 + 113)), (1, .int a), (2, .int 2)] dX12_money_77 (by decide) rfl ?_
        refine z_iload C dX12_money_79 0 rfl ?_
        refine z_if_eq C 103 dX12_money_81 (by decide) (fun _ => ?_) (fun hbr => absurd (by decide) hbr)
        refine z_iload_n C dX12_money_103 2 rfl rfl ?_
        refine z_istore_n C [(3, .int q), (5, .int 0), (4, .int (nI (i + 1))), (0, .ref (B.1 + 113)), (1, .int a), (2, .int 2)] dX12_money_104 rfl (by decide) rfl ?_
        refine z_iinc C [(4, .int (nI (i + 1 + 1))), (3, .int q), (5, .int 0), (0, .ref (B.1 + 113)), (1, .int a), (2, .int 2)] dX12_money_105 2 rfl (nI_inc (i + 1)) (by decide) rfl ?_
        refine z_goto C 40 dX12_money_108 (by decide) ?_
        exact z_lv [0, 1, 3, 4, 5] rfl (ih (i + 1) _ (by omega) (wBest_n2 hq h69))
      · refine z_iconst C dX12_money_72 ki_1 ?_
        refine z_goto C 77 dX12_money_73 (by decide) ?_
        refine z_istore C [(5, .int 1), (4, .int (nI (i + 1))), (3, .int q), (0, .ref (B.1 + 113)), (1, .int a), (2, .int 2)] dX12_money_77 (by decide) rfl ?_
        refine z_iload C dX12_money_79 0 rfl ?_
        refine z_if_eq C 103 dX12_money_81 (by decide) (fun hbr => absurd hbr (by decide)) (fun _ => ?_)
        refine z_aload_n C dX12_money_84 3 rfl rfl ?_
        refine z_aload_n C dX12_money_85 3 rfl rfl ?_
        refine z_iload C dX12_money_86 1 rfl ?_
        refine f_callVr C hl (As := [.int (nI (i + 1))]) (rest := [.ref (B.1 + 113)]) (c_X12_stopping l B s t N K Lo Ha sl dy hd (nI (i + 1)) h8) zb_113 (zg_12 zk_113) rfl (zCB (nA := 1) C rfl rfl tw_863 tw_13 tw_860 (by decide +kernel) ⟨Nat.le_of_ble_eq_true rfl, Nat.le_of_ble_eq_true rfl⟩) tw_862 tp_34 rfl rfl (Nat.le_of_ble_eq_true rfl) dX12_money_88 (Nat.zero_le _) ?_
        refine f_callVr C hl (As := [.int (wWho K Lo Ha sl dy (nI (i + 1)) N)]) (rest := []) (c_X12_costOfAll l B s t N K Lo Ha sl dy hd (wWho K Lo Ha sl dy (nI (i + 1)) N) (wWho_r8 _ _ _ _ _ _ _ (by omega))) zb_113 (zg_12 zk_113) rfl (zCB (nA := 1) C rfl rfl tw_940 tw_13 tw_937 (by decide +kernel) ⟨Nat.le_of_ble_eq_true rfl, Nat.le_of_ble_eq_true rfl⟩) tw_939 tp_41 rfl rfl (Nat.le_of_ble_eq_true rfl) dX12_money_91 (Nat.zero_le _) ?_
        refine z_iload_n C dX12_money_94 4 rfl rfl ?_
        refine z_icmp_gt C 103 dX12_money_95 (by decide) (fun h95 => ?_) (fun h95 => ?_)
        · refine z_iload_n C dX12_money_103 2 rfl rfl ?_
          refine z_istore_n C [(3, .int q), (5, .int 1), (4, .int (nI (i + 1))), (0, .ref (B.1 + 113)), (1, .int a), (2, .int 2)] dX12_money_104 rfl (by decide) rfl ?_
          refine z_iinc C [(4, .int (nI (i + 1 + 1))), (3, .int q), (5, .int 1), (0, .ref (B.1 + 113)), (1, .int a), (2, .int 2)] dX12_money_105 2 rfl (nI_inc (i + 1)) (by decide) rfl ?_
          refine z_goto C 40 dX12_money_108 (by decide) ?_
          exact z_lv [0, 1, 3, 4, 5] rfl (ih (i + 1) _ (by omega) (wBest_n3 hq (decide_eq_false (Int32.not_le.mpr h95))))
        · refine z_iload C dX12_money_98 1 rfl ?_
          refine z_goto C 104 dX12_money_100 (by decide) ?_
          refine z_istore_n C [(3, .int (nI (i + 1))), (5, .int 1), (4, .int (nI (i + 1))), (0, .ref (B.1 + 113)), (1, .int a), (2, .int 2)] dX12_money_104 rfl (by decide) rfl ?_
          refine z_iinc C [(4, .int (nI (i + 1 + 1))), (3, .int (nI (i + 1))), (5, .int 1), (0, .ref (B.1 + 113)), (1, .int a), (2, .int 2)] dX12_money_105 2 rfl (nI_inc (i + 1)) (by decide) rfl ?_
          refine z_goto C 40 dX12_money_108 (by decide) ?_
          exact z_lv [0, 1, 3, 4, 5] rfl (ih (i + 1) _ (by omega) (wBest_y hq h57 h69 (decide_eq_true (Int32.not_lt.mp h95))))
set_option maxRecDepth 100000 in
set_option maxHeartbeats 4000000 in
theorem c_X12_money_2 (l : Launch) (B : zB) (s : zS) (t : zL) (N : Nat) (mo : mOk s N) (a : Int32) (g : wIn a 200 = true) : zD l B mX12_money s t [.ref (B.1 + 113), .int a, .int 2] (some (.int (mW s N (wBest (fun b => decide (wSum (mK s) (mP s) (mW s N b) N ≤ a)) (255 &&& ((s 114 1 ||| s 114 2) ^^^ (-1))) 255)))) (wHand s N) t := by
  refine z_met (by decide) (Nat.le_of_ble_eq_true rfl) ?_
  intro X hl C E hnm
  show Zf X B mX12_money s t 0 [(0, .ref (B.1 + 113)), (1, .int a), (2, .int 2)] []
  refine z_iload_n C dX12_money_0 1 rfl rfl ?_
  refine z_i2l C dX12_money_1 ?_
  refine z_lconst C dX12_money_2 kl_0 ?_
  refine z_ldc2 C dX12_money_3 tw_935 ?_
  refine f_callSr C hl (As := [.long ((a : Int32).toInt64), .long 0, .long 200]) (rest := []) (c_X12_in0 l B s t a 200 ((a : Int32).toInt64) 200 rfl (by decide)) (zCB (nA := 3) C rfl rfl tw_810 tw_13 tw_808 (by decide +kernel) ⟨Nat.le_of_ble_eq_true rfl, Nat.le_of_ble_eq_true rfl⟩) tw_809 rfl rfl (Nat.le_of_ble_eq_true rfl) dX12_money_6 (Nat.zero_le _) ?_
  refine z_ifb_eq C 24 dX12_money_9 (by decide) (fun hbr => absurd hbr (by rw [g]; decide)) (fun _ => ?_)
  refine z_iload_n C dX12_money_12 2 rfl rfl ?_
  refine z_i2l C dX12_money_13 ?_
  refine z_lconst C dX12_money_14 kl_0 ?_
  refine z_ldc2 C dX12_money_15 tw_936 ?_
  refine f_callSr C hl (As := [.long ((2 : Int32).toInt64), .long 0, .long 2]) (rest := []) (c_X12_in0 l B s t 2 2 ((2 : Int32).toInt64) 2 rfl (by decide)) (zCB (nA := 3) C rfl rfl tw_810 tw_13 tw_808 (by decide +kernel) ⟨Nat.le_of_ble_eq_true rfl, Nat.le_of_ble_eq_true rfl⟩) tw_809 rfl rfl (Nat.le_of_ble_eq_true rfl) dX12_money_18 (Nat.zero_le _) ?_
  refine z_ifb_ne C 31 dX12_money_21 (by decide) (fun _ => ?_) (fun hbr => Bool.noConfusion (show false = true from hbr.symm.trans (by decide)))
  refine z_iconst C dX12_money_31 ki_0 ?_
  refine z_istore_n C [(3, .int 0), (0, .ref (B.1 + 113)), (1, .int a), (2, .int 2)] dX12_money_32 rfl (by decide) rfl ?_
  refine z_aload_n C dX12_money_33 1 rfl rfl ?_
  refine f_callVv C hl (As := []) (rest := []) (c_X12_layHand l B s t N mo.1 mo.2.1) zb_113 (zg_12 zk_113) rfl (zCB (nA := 0) C rfl rfl tw_851 tw_13 tw_848 (by decide +kernel) ⟨Nat.le_of_ble_eq_true rfl, Nat.le_of_ble_eq_true rfl⟩) tw_850 tp_31 rfl rfl (Nat.le_of_ble_eq_true rfl) dX12_money_34 (Nat.zero_le _) ?_
  refine z_iconst C dX12_money_37 ki_1 ?_
  refine z_istore C [(4, .int 1), (3, .int 0), (0, .ref (B.1 + 113)), (1, .int a), (2, .int 2)] dX12_money_38 (by decide) rfl ?_
  refine z_lv (lv2 := [(4, .int (nI (0 + 1))), (3, .int 0), (0, .ref (B.1 + 113)), (1, .int a), (2, .int 2)]) [0, 1, 2, 3, 4] rfl (l_X12_money2 (s := (wHand s N)) hl C N (mK s) (mL s) (mH s) (mS s) (s 114 6) (hd_hand mo) a ?_ 255 0 0 (by omega) rfl)
  rw [wHand_114]
  exact E
abbrev mX12_tied : zM := (yX12_tied, cX12_tied, 4, (some .int), { frames := 4, cells := 0, slots := 0, locals := 92 })
set_option maxRecDepth 100000 in
set_option maxHeartbeats 4000000 in
theorem c_X12_tied_bad (l : Launch) (B : zB) (s : zS) (t : zL) (b : Int32) (h : wIn b 255 = true → ¬ 2 ≤ wPop b) : zD l B mX12_tied s t [.ref (B.1 + 113), .int b] (some (.int (-2))) (zu s 117 0 (s 117 0 + 1)) t := by
  refine z_met (by decide) (Nat.le_of_ble_eq_true rfl) ?_
  intro X hl C E hnm
  show Zf X B mX12_tied s t 0 [(0, .ref (B.1 + 113)), (1, .int b)] []
  refine z_iload_n C dX12_tied_0 1 rfl rfl ?_
  refine f_callSr C hl (As := [.int b]) (rest := []) (c_X12_isBundle l B s t b) (zCB (nA := 1) C rfl rfl tw_826 tw_13 tw_824 (by decide +kernel) ⟨Nat.le_of_ble_eq_true rfl, Nat.le_of_ble_eq_true rfl⟩) tw_825 rfl rfl (Nat.le_of_ble_eq_true rfl) dX12_tied_1 (Nat.zero_le _) ?_
  refine z_ifb_eq C 15 dX12_tied_4 (by decide) (fun h4 => ?_) (fun h4 => ?_)
  · refine z_aload_n C dX12_tied_15 0 rfl rfl ?_
    refine z_bipush C dX12_tied_16 kb_m2 ?_
    refine f_callVr C hl (As := [.int (-2)]) (rest := []) (c_X12_bad l B s t (-2)) zb_113 (zg_12 zk_113) rfl (zCB (nA := 1) C rfl rfl tw_814 tw_13 tw_811 (by decide +kernel) ⟨Nat.le_of_ble_eq_true rfl, Nat.le_of_ble_eq_true rfl⟩) tw_813 tp_26 rfl rfl (Nat.le_of_ble_eq_true rfl) dX12_tied_18 (Nat.zero_le _) ?_
    refine z_iret C E rfl dX12_tied_21 rfl (Nat.le_refl _) ⟨rfl, rfl⟩
  · refine z_iload_n C dX12_tied_7 1 rfl rfl ?_
    refine f_callSr C hl (As := [.int b]) (rest := []) (c_X12_bits l B s t b (wIn_r8 h4)) (zCB (nA := 1) C rfl rfl tw_877 tw_13 tw_875 (by decide +kernel) ⟨Nat.le_of_ble_eq_true rfl, Nat.le_of_ble_eq_true rfl⟩) tw_876 rfl rfl (Nat.le_of_ble_eq_true rfl) dX12_tied_8 (Nat.zero_le _) ?_
    refine z_iconst C dX12_tied_11 ki_2 ?_
    refine z_icmp_ge C 22 dX12_tied_12 (by decide) (fun h12 => ?_) (fun h12 => ?_)
    · exact absurd h12 (h h4)
    · refine z_aload_n C dX12_tied_15 0 rfl rfl ?_
      refine z_bipush C dX12_tied_16 kb_m2 ?_
      refine f_callVr C hl (As := [.int (-2)]) (rest := []) (c_X12_bad l B s t (-2)) zb_113 (zg_12 zk_113) rfl (zCB (nA := 1) C rfl rfl tw_814 tw_13 tw_811 (by decide +kernel) ⟨Nat.le_of_ble_eq_true rfl, Nat.le_of_ble_eq_true rfl⟩) tw_813 tp_26 rfl rfl (Nat.le_of_ble_eq_true rfl) dX12_tied_18 (Nat.zero_le _) ?_
      refine z_iret C E rfl dX12_tied_21 rfl (Nat.le_refl _) ⟨rfl, rfl⟩
set_option maxRecDepth 100000 in
set_option maxHeartbeats 4000000 in
theorem l_X12_tied {l : Launch} {B : zB} {s : zS} {t : zL} {X : zX} (hl : X.2.1 = l) (C : zC X B mX12_tied) (N : Nat) (K Lo Ha : Nat → Int32) (sl dy : Int32) (hd : wHd s N K Lo Ha sl dy) (b : Int32) (bn : Nat) (hbn : bn < 256) (eb : b = nI bn) (r : Int32) (E : zE X B mX12_tied 124 0 0 (zR B (some (.int r)) s t)) : ∀ (m : Nat) (j : Nat), j + m = bn → wFind (fun j => (decide (nI j &&& (b ^^^ (-1)) = 0) && decide (¬ nI j &&& (b &&& (-b)) = 0)) && (decide (wWho K Lo Ha sl dy (nI j) N = 0) && decide (wWho K Lo Ha sl dy (b &&& (nI j ^^^ (-1))) N = 0))) m j = r → Zf X B mX12_tied s t 28 [(2, .int (nI j)), (0, .ref (B.1 + 113)), (1, .int b)] [] := by
  intro m
  induction m with
  | zero =>
    intro j hj hr
    refine z_iload_n C dX12_tied_28 0 rfl rfl ?_
    refine z_iload_n C dX12_tied_29 2 rfl rfl ?_
    refine z_icmp_ge C 88 dX12_tied_30 (by decide) (fun _ => ?_) (fun hbr => absurd (by rw [eb]; exact nI_le (by omega) (by omega)) hbr)
    refine z_iconst C dX12_tied_88 ki_m1 ?_
    refine z_iret C E rfl dX12_tied_89 rfl (Nat.le_refl _) ⟨by rw [← hr]; rfl, rfl⟩
  | succ m ih =>
    intro j hj hr
    refine z_iload_n C dX12_tied_28 0 rfl rfl ?_
    refine z_iload_n C dX12_tied_29 2 rfl rfl ?_
    refine z_icmp_ge C 88 dX12_tied_30 (by decide) (fun hbr => absurd hbr (by rw [eb]; exact nI_ge (by omega) (by omega))) (fun _ => ?_)
    refine z_iload_n C dX12_tied_33 0 rfl rfl ?_
    refine z_iload_n C dX12_tied_34 2 rfl rfl ?_
    refine z_iconst C dX12_tied_35 ki_m1 ?_
    refine z_ixor C dX12_tied_36 ?_
    refine z_iand C dX12_tied_37 ?_
    refine z_if_ne C 54 dX12_tied_38 (by decide) (fun h38 => ?_) (fun h38 => ?_)
    · refine z_iconst C dX12_tied_54 ki_0 ?_
      refine z_istore_n C [(3, .int 0), (2, .int (nI j)), (0, .ref (B.1 + 113)), (1, .int b)] dX12_tied_55 rfl (by decide) rfl ?_
      refine z_iload_n C dX12_tied_56 0 rfl rfl ?_
      refine z_if_eq C 82 dX12_tied_57 (by decide) (fun _ => ?_) (fun hbr => absurd (by decide) hbr)
      refine z_iinc C [(2, .int (nI (j + 1))), (3, .int 0), (0, .ref (B.1 + 113)), (1, .int b)] dX12_tied_82 1 rfl (nI_inc j) (by decide) rfl ?_
      refine z_goto C 28 dX12_tied_85 (by decide) ?_
      exact z_lv [0, 2, 3] rfl (ih (j + 1) (by omega) (by rw [← hr, wFind, if_neg]; intro q; simp only [Bool.and_eq_true, decide_eq_true_eq] at q; exact h38 q.1.1))
    · refine z_iload_n C dX12_tied_41 0 rfl rfl ?_
      refine z_iload_n C dX12_tied_42 2 rfl rfl ?_
      refine z_iand C dX12_tied_43 ?_
      refine z_iload_n C dX12_tied_44 2 rfl rfl ?_
      refine z_ineg C dX12_tied_45 ?_
      refine z_iand C dX12_tied_46 ?_
      refine f_topi (y := nI j &&& (b &&& (-b))) (Int32.and_assoc _ _ _) ?_
      refine z_if_eq C 54 dX12_tied_47 (by decide) (fun h47 => ?_) (fun h47 => ?_)
      · refine z_iconst C dX12_tied_54 ki_0 ?_
        refine z_istore_n C [(3, .int 0), (2, .int (nI j)), (0, .ref (B.1 + 113)), (1, .int b)] dX12_tied_55 rfl (by decide) rfl ?_
        refine z_iload_n C dX12_tied_56 0 rfl rfl ?_
        refine z_if_eq C 82 dX12_tied_57 (by decide) (fun _ => ?_) (fun hbr => absurd (by decide) hbr)
        refine z_iinc C [(2, .int (nI (j + 1))), (3, .int 0), (0, .ref (B.1 + 113)), (1, .int b)] dX12_tied_82 1 rfl (nI_inc j) (by decide) rfl ?_
        refine z_goto C 28 dX12_tied_85 (by decide) ?_
        exact z_lv [0, 2, 3] rfl (ih (j + 1) (by omega) (by rw [← hr, wFind, if_neg]; intro q; simp only [Bool.and_eq_true, decide_eq_true_eq] at q; exact q.1.2 h47))
      · refine z_iconst C dX12_tied_50 ki_1 ?_
        refine z_goto C 55 dX12_tied_51 (by decide) ?_
        refine z_istore_n C [(3, .int 1), (2, .int (nI j)), (0, .ref (B.1 + 113)), (1, .int b)] dX12_tied_55 rfl (by decide) rfl ?_
        refine z_iload_n C dX12_tied_56 0 rfl rfl ?_
        refine z_if_eq C 82 dX12_tied_57 (by decide) (fun hbr => absurd hbr (by decide)) (fun _ => ?_)
        refine z_aload_n C dX12_tied_60 2 rfl rfl ?_
        refine z_iload_n C dX12_tied_61 1 rfl rfl ?_
        refine f_callVr C hl (As := [.int (nI j)]) (rest := []) (c_X12_stopping l B s t N K Lo Ha sl dy hd (nI j) (r8_of (by omega))) zb_113 (zg_12 zk_113) rfl (zCB (nA := 1) C rfl rfl tw_863 tw_13 tw_860 (by decide +kernel) ⟨Nat.le_of_ble_eq_true rfl, Nat.le_of_ble_eq_true rfl⟩) tw_862 tp_34 rfl rfl (Nat.le_of_ble_eq_true rfl) dX12_tied_62 (Nat.zero_le _) ?_
        refine z_if_ne C 82 dX12_tied_65 (by decide) (fun h65 => ?_) (fun h65 => ?_)
        · refine z_iinc C [(2, .int (nI (j + 1))), (3, .int 1), (0, .ref (B.1 + 113)), (1, .int b)] dX12_tied_82 1 rfl (nI_inc j) (by decide) rfl ?_
          refine z_goto C 28 dX12_tied_85 (by decide) ?_
          exact z_lv [0, 2, 3] rfl (ih (j + 1) (by omega) (by rw [← hr, wFind, if_neg]; intro q; simp only [Bool.and_eq_true, decide_eq_true_eq] at q; exact h65 q.2.1))
        · refine z_aload_n C dX12_tied_68 2 rfl rfl ?_
          refine z_iload_n C dX12_tied_69 3 rfl rfl ?_
          refine z_iload_n C dX12_tied_70 1 rfl rfl ?_
          refine z_iconst C dX12_tied_71 ki_m1 ?_
          refine z_ixor C dX12_tied_72 ?_
          refine z_iand C dX12_tied_73 ?_
          refine f_callVr C hl (As := [.int (b &&& ((nI j) ^^^ (-1)))]) (rest := []) (c_X12_stopping l B s t N K Lo Ha sl dy hd (b &&& ((nI j) ^^^ (-1))) (r8_and (by rw [eb]; exact r8_of hbn))) zb_113 (zg_12 zk_113) rfl (zCB (nA := 1) C rfl rfl tw_863 tw_13 tw_860 (by decide +kernel) ⟨Nat.le_of_ble_eq_true rfl, Nat.le_of_ble_eq_true rfl⟩) tw_862 tp_34 rfl rfl (Nat.le_of_ble_eq_true rfl) dX12_tied_74 (Nat.zero_le _) ?_
          refine z_if_ne C 82 dX12_tied_77 (by decide) (fun h77 => ?_) (fun h77 => ?_)
          · refine z_iinc C [(2, .int (nI (j + 1))), (3, .int 1), (0, .ref (B.1 + 113)), (1, .int b)] dX12_tied_82 1 rfl (nI_inc j) (by decide) rfl ?_
            refine z_goto C 28 dX12_tied_85 (by decide) ?_
            exact z_lv [0, 2, 3] rfl (ih (j + 1) (by omega) (by rw [← hr, wFind, if_neg]; intro q; simp only [Bool.and_eq_true, decide_eq_true_eq] at q; exact h77 q.2.2))
          · refine z_iload_n C dX12_tied_80 1 rfl rfl ?_
            refine z_iret C E rfl dX12_tied_81 rfl (Nat.le_refl _) ⟨by rw [← hr, wFind, if_pos (by simp only [Bool.and_eq_true, decide_eq_true_eq]; exact ⟨⟨h38, h47⟩, h65, h77⟩)], rfl⟩
set_option maxRecDepth 100000 in
set_option maxHeartbeats 4000000 in
theorem c_X12_tied_ok (l : Launch) (B : zB) (s : zS) (t : zL) (N : Nat) (mo : mOk s N) (b : Int32) (g1 : wIn b 255 = true) (g2 : 2 ≤ wPop b) (bn : Nat) (hbn : bn < 256) (hb1 : 1 ≤ bn) (eb : b = nI bn) : zD l B mX12_tied s t [.ref (B.1 + 113), .int b] (some (.int (wFind (fun j => (decide (nI j &&& (b ^^^ (-1)) = 0) && decide (¬ nI j &&& (b &&& (-b)) = 0)) && (decide (mW s N (nI j) = 0) && decide (mW s N (b &&& (nI j ^^^ (-1))) = 0))) (bn - 1) 1))) (wHand s N) t := by
  refine z_met (by decide) (Nat.le_of_ble_eq_true rfl) ?_
  intro X hl C E hnm
  show Zf X B mX12_tied s t 0 [(0, .ref (B.1 + 113)), (1, .int b)] []
  refine z_iload_n C dX12_tied_0 1 rfl rfl ?_
  refine f_callSr C hl (As := [.int b]) (rest := []) (c_X12_isBundle l B s t b) (zCB (nA := 1) C rfl rfl tw_826 tw_13 tw_824 (by decide +kernel) ⟨Nat.le_of_ble_eq_true rfl, Nat.le_of_ble_eq_true rfl⟩) tw_825 rfl rfl (Nat.le_of_ble_eq_true rfl) dX12_tied_1 (Nat.zero_le _) ?_
  refine z_ifb_eq C 15 dX12_tied_4 (by decide) (fun hbr => absurd hbr (by rw [g1]; decide)) (fun _ => ?_)
  refine z_iload_n C dX12_tied_7 1 rfl rfl ?_
  refine f_callSr C hl (As := [.int b]) (rest := []) (c_X12_bits l B s t b (wIn_r8 g1)) (zCB (nA := 1) C rfl rfl tw_877 tw_13 tw_875 (by decide +kernel) ⟨Nat.le_of_ble_eq_true rfl, Nat.le_of_ble_eq_true rfl⟩) tw_876 rfl rfl (Nat.le_of_ble_eq_true rfl) dX12_tied_8 (Nat.zero_le _) ?_
  refine z_iconst C dX12_tied_11 ki_2 ?_
  refine z_icmp_ge C 22 dX12_tied_12 (by decide) (fun _ => ?_) (fun hbr => absurd g2 hbr)
  refine z_aload_n C dX12_tied_22 0 rfl rfl ?_
  refine f_callVv C hl (As := []) (rest := []) (c_X12_layHand l B s t N mo.1 mo.2.1) zb_113 (zg_12 zk_113) rfl (zCB (nA := 0) C rfl rfl tw_851 tw_13 tw_848 (by decide +kernel) ⟨Nat.le_of_ble_eq_true rfl, Nat.le_of_ble_eq_true rfl⟩) tw_850 tp_31 rfl rfl (Nat.le_of_ble_eq_true rfl) dX12_tied_23 (Nat.zero_le _) ?_
  refine z_iconst C dX12_tied_26 ki_1 ?_
  refine z_istore_n C [(2, .int 1), (0, .ref (B.1 + 113)), (1, .int b)] dX12_tied_27 rfl (by decide) rfl ?_
  exact z_lv (lv2 := [(2, .int (nI 1)), (0, .ref (B.1 + 113)), (1, .int b)]) [0, 1, 2] rfl (l_X12_tied (s := (wHand s N)) hl C N (mK s) (mL s) (mH s) (mS s) (s 114 6) (hd_hand mo) b bn hbn eb _ E (bn - 1) 1 (by omega) rfl)
abbrev mX12_alone : zM := (yX12_alone, cX12_alone, 3, (some .int), { frames := 4, cells := 0, slots := 0, locals := 92 })
set_option maxRecDepth 100000 in
set_option maxHeartbeats 4000000 in
theorem l_X12_alone {l : Launch} {B : zB} {s : zS} {t : zL} {X : zX} (hl : X.2.1 = l) (C : zC X B mX12_alone) (N : Nat) (K Lo Ha : Nat → Int32) (sl dy : Int32) (hd : wHd s N K Lo Ha sl dy) (E : zE X B mX12_alone 124 0 0 (zR B (some (.int (wCol (fun q => decide (wWho K Lo Ha sl dy (wBit (nI q)) N = 0)) 8))) s t)) : ∀ (m : Nat) (i : Nat) (a : Int32), i + m = 8 → a = wCol (fun q => decide (wWho K Lo Ha sl dy (wBit (nI q)) N = 0)) i → Zf X B mX12_alone s t 8 [(2, .int (nI i)), (1, .int a), (0, .ref (B.1 + 113))] [] := by
  intro m
  induction m with
  | zero =>
    intro i a hi ha
    obtain rfl : i = 8 := by omega
    refine z_iload_n C dX12_alone_8 0 rfl rfl ?_
    refine z_bipush C dX12_alone_9 kb_8 ?_
    refine z_icmp_ge C 40 dX12_alone_11 (by decide) (fun _ => ?_) (fun hbr => absurd (by decide) hbr)
    refine z_iload_n C dX12_alone_40 1 rfl rfl ?_
    refine z_iret C E rfl dX12_alone_41 rfl (Nat.le_refl _) ⟨by rw [ha], rfl⟩
  | succ m ih =>
    intro i a hi0 ha
    have hi : i < 8 := by omega
    refine z_iload_n C dX12_alone_8 0 rfl rfl ?_
    refine z_bipush C dX12_alone_9 kb_8 ?_
    refine z_icmp_ge C 40 dX12_alone_11 (by decide) (fun hbr => absurd hbr (show ¬ nI 8 ≤ nI i from nI_ge hi (by decide))) (fun _ => ?_)
    refine z_iload_n C dX12_alone_14 1 rfl rfl ?_
    refine z_aload_n C dX12_alone_15 2 rfl rfl ?_
    refine z_iconst C dX12_alone_16 ki_1 ?_
    refine z_iload_n C dX12_alone_17 0 rfl rfl ?_
    refine z_ishl C dX12_alone_18 ?_
    refine f_topi (y := wBit (nI i)) (wBit_nI (by omega)).symm ?_
    refine f_callVr C hl (As := [.int (wBit (nI i))]) (rest := [.int a]) (c_X12_stopping l B s t N K Lo Ha sl dy hd (wBit (nI i)) (wBit_r hi)) zb_113 (zg_12 zk_113) rfl (zCB (nA := 1) C rfl rfl tw_863 tw_13 tw_860 (by decide +kernel) ⟨Nat.le_of_ble_eq_true rfl, Nat.le_of_ble_eq_true rfl⟩) tw_862 tp_34 rfl rfl (Nat.le_of_ble_eq_true rfl) dX12_alone_19 (Nat.zero_le _) ?_
    refine z_if_ne C 31 dX12_alone_22 (by decide) (fun h22 => ?_) (fun h22 => ?_)
    · refine z_iconst C dX12_alone_31 ki_0 ?_
      refine z_ior C dX12_alone_32 ?_
      refine z_istore_n C [(1, .int (a ||| 0)), (2, .int (nI i)), (0, .ref (B.1 + 113))] dX12_alone_33 rfl (by decide) rfl ?_
      refine z_iinc C [(2, .int (nI (i + 1))), (1, .int (a ||| 0)), (0, .ref (B.1 + 113))] dX12_alone_34 1 rfl (nI_inc i) (by decide) rfl ?_
      refine z_goto C 8 dX12_alone_37 (by decide) ?_
      exact z_lv [0, 1, 2] rfl (ih (i + 1) _ (by omega) (by rw [Int32.or_zero]; exact wCol_n ha (decide_eq_false h22)))
    · refine z_iconst C dX12_alone_25 ki_1 ?_
      refine z_iload_n C dX12_alone_26 0 rfl rfl ?_
      refine z_ishl C dX12_alone_27 ?_
      refine z_goto C 32 dX12_alone_28 (by decide) ?_
      refine f_topi (y := wBit (nI i)) (wBit_nI (by omega)).symm ?_
      refine z_ior C dX12_alone_32 ?_
      refine z_istore_n C [(1, .int (a ||| (wBit (nI i)))), (2, .int (nI i)), (0, .ref (B.1 + 113))] dX12_alone_33 rfl (by decide) rfl ?_
      refine z_iinc C [(2, .int (nI (i + 1))), (1, .int (a ||| (wBit (nI i)))), (0, .ref (B.1 + 113))] dX12_alone_34 1 rfl (nI_inc i) (by decide) rfl ?_
      refine z_goto C 8 dX12_alone_37 (by decide) ?_
      exact z_lv [0, 1, 2] rfl (ih (i + 1) _ (by omega) (wCol_y ha (decide_eq_true h22)))
set_option maxRecDepth 100000 in
set_option maxHeartbeats 4000000 in
theorem c_X12_alone (l : Launch) (B : zB) (s : zS) (t : zL) (N : Nat) (mo : mOk s N) : zD l B mX12_alone s t [.ref (B.1 + 113)] (some (.int (wCol (fun q => decide (mW s N (wBit (nI q)) = 0)) 8))) (wHand s N) t := by
  refine z_met (by decide) (Nat.le_of_ble_eq_true rfl) ?_
  intro X hl C E hnm
  show Zf X B mX12_alone s t 0 [(0, .ref (B.1 + 113))] []
  refine z_iconst C dX12_alone_0 ki_0 ?_
  refine z_istore_n C [(1, .int 0), (0, .ref (B.1 + 113))] dX12_alone_1 rfl (by decide) rfl ?_
  refine z_aload_n C dX12_alone_2 1 rfl rfl ?_
  refine f_callVv C hl (As := []) (rest := []) (c_X12_layHand l B s t N mo.1 mo.2.1) zb_113 (zg_12 zk_113) rfl (zCB (nA := 0) C rfl rfl tw_851 tw_13 tw_848 (by decide +kernel) ⟨Nat.le_of_ble_eq_true rfl, Nat.le_of_ble_eq_true rfl⟩) tw_850 tp_31 rfl rfl (Nat.le_of_ble_eq_true rfl) dX12_alone_3 (Nat.zero_le _) ?_
  refine z_iconst C dX12_alone_6 ki_0 ?_
  refine z_istore_n C [(2, .int 0), (1, .int 0), (0, .ref (B.1 + 113))] dX12_alone_7 rfl (by decide) rfl ?_
  exact z_lv [0, 1, 2] rfl (l_X12_alone (s := (wHand s N)) hl C N (mK s) (mL s) (mH s) (mS s) (s 114 6) (hd_hand mo) E 8 0 0 (by omega) rfl)
abbrev mX12_league : zM := (yX12_league, cX12_league, 5, (some .int), { frames := 2, cells := 0, slots := 0, locals := 45 })
set_option maxRecDepth 100000 in
set_option maxHeartbeats 4000000 in
theorem l_X12_league_in {l : Launch} {B : zB} {s : zS} {t : zL} {X : zX} (hl : X.2.1 = l) (C : zC X B mX12_league) (N : Nat) (K Lo Ha : Nat → Int32) (sl dy : Int32) (hd : wHd s N K Lo Ha sl dy) (i : Nat) (hi : i < 8) (a : Int32) (ha : a = wCol (fun q => decide (¬ 2 * wGlad K Lo Ha (wBit (nI q)) N ≤ nI N)) i) (kk : ∀ a : Int32, a = wCol (fun q => decide (¬ 2 * wGlad K Lo Ha (wBit (nI q)) N ≤ nI N)) (i + 1) → Zf X B mX12_league s t 8 [(2, .int (nI (i + 1))), (1, .int a), (0, .ref (B.1 + 113))] []) (E : zE X B mX12_league 124 0 0 (zR B (some (.int (wCol (fun q => decide (¬ 2 * wGlad K Lo Ha (wBit (nI q)) N ≤ nI N)) 8))) s t)) : ∀ (m : Nat) (j : Nat) (c : Int32), j + m = N → c = wGlad K Lo Ha (wBit (nI i)) j → Zf X B mX12_league s t 19 [(4, .int (nI j)), (3, .int c), (2, .int (nI i)), (1, .int a), (0, .ref (B.1 + 113))] [] := by
  intro m
  induction m with
  | zero =>
    intro j c hj hc
    have h6 := hd.2.1
    refine z_iload C dX12_league_19 0 rfl ?_
    refine z_aload_n C dX12_league_21 4 rfl rfl ?_
    refine f_callVr C hl (As := []) (rest := [.int (nI j)]) (c_X12_many l B s t) zb_113 (zg_12 zk_113) rfl (zCB (nA := 0) C rfl rfl tw_818 tw_13 tw_815 (by decide +kernel) ⟨Nat.le_of_ble_eq_true rfl, Nat.le_of_ble_eq_true rfl⟩) tw_817 tp_27 rfl rfl (Nat.le_of_ble_eq_true rfl) dX12_league_22 (Nat.zero_le _) ?_
    refine f_topi (y := nI N) hd.1 ?_
    refine z_icmp_ge C 54 dX12_league_25 (by decide) (fun _ => ?_) (fun hbr => absurd (nI_le (by omega) (by omega)) hbr)
    refine z_iload_n C dX12_league_54 3 rfl rfl ?_
    refine z_iconst C dX12_league_55 ki_2 ?_
    refine z_iload_n C dX12_league_56 1 rfl rfl ?_
    refine z_imul C dX12_league_57 ?_
    refine z_aload_n C dX12_league_58 4 rfl rfl ?_
    refine f_callVr C hl (As := []) (rest := [.int (2 * c), .int a]) (c_X12_many l B s t) zb_113 (zg_12 zk_113) rfl (zCB (nA := 0) C rfl rfl tw_818 tw_13 tw_815 (by decide +kernel) ⟨Nat.le_of_ble_eq_true rfl, Nat.le_of_ble_eq_true rfl⟩) tw_817 tp_27 rfl rfl (Nat.le_of_ble_eq_true rfl) dX12_league_59 (Nat.zero_le _) ?_
    refine f_topi (y := nI N) hd.1 ?_
    refine z_icmp_le C 71 dX12_league_62 (by decide) (fun h62 => ?_) (fun h62 => ?_)
    · refine z_iconst C dX12_league_71 ki_0 ?_
      refine z_ior C dX12_league_72 ?_
      refine z_istore_n C [(1, .int (a ||| 0)), (4, .int (nI j)), (3, .int c), (2, .int (nI i)), (0, .ref (B.1 + 113))] dX12_league_73 rfl (by decide) rfl ?_
      refine z_iinc C [(2, .int (nI (i + 1))), (1, .int (a ||| 0)), (4, .int (nI j)), (3, .int c), (0, .ref (B.1 + 113))] dX12_league_74 3 rfl (nI_inc i) (by decide) rfl ?_
      refine z_goto C 8 dX12_league_77 (by decide) ?_
      exact z_lv [0, 1, 4] rfl (kk _ (by rw [Int32.or_zero]; exact wCol_n ha (decide_eq_false (fun q => q (by rw [hc, show j = N by omega] at h62; exact h62)))))
    · refine z_iconst C dX12_league_65 ki_1 ?_
      refine z_iload_n C dX12_league_66 2 rfl rfl ?_
      refine z_ishl C dX12_league_67 ?_
      refine z_goto C 72 dX12_league_68 (by decide) ?_
      refine f_topi (y := wBit (nI i)) (wBit_nI (by omega)).symm ?_
      refine z_ior C dX12_league_72 ?_
      refine z_istore_n C [(1, .int (a ||| (wBit (nI i)))), (4, .int (nI j)), (3, .int c), (2, .int (nI i)), (0, .ref (B.1 + 113))] dX12_league_73 rfl (by decide) rfl ?_
      refine z_iinc C [(2, .int (nI (i + 1))), (1, .int (a ||| (wBit (nI i)))), (4, .int (nI j)), (3, .int c), (0, .ref (B.1 + 113))] dX12_league_74 3 rfl (nI_inc i) (by decide) rfl ?_
      refine z_goto C 8 dX12_league_77 (by decide) ?_
      exact z_lv [0, 1, 4] rfl (kk _ (wCol_y ha (decide_eq_true (by rw [hc, show j = N by omega] at h62; exact h62))))
  | succ m ih =>
    intro j c hj hc
    have h6 := hd.2.1
    have hj2 : j < N := by omega
    refine z_iload C dX12_league_19 0 rfl ?_
    refine z_aload_n C dX12_league_21 4 rfl rfl ?_
    refine f_callVr C hl (As := []) (rest := [.int (nI j)]) (c_X12_many l B s t) zb_113 (zg_12 zk_113) rfl (zCB (nA := 0) C rfl rfl tw_818 tw_13 tw_815 (by decide +kernel) ⟨Nat.le_of_ble_eq_true rfl, Nat.le_of_ble_eq_true rfl⟩) tw_817 tp_27 rfl rfl (Nat.le_of_ble_eq_true rfl) dX12_league_22 (Nat.zero_le _) ?_
    refine f_topi (y := nI N) hd.1 ?_
    refine z_icmp_ge C 54 dX12_league_25 (by decide) (fun hbr => absurd hbr (nI_ge hj2 (by omega))) (fun _ => ?_)
    refine z_iload_n C dX12_league_28 1 rfl rfl ?_
    refine z_aload_n C dX12_league_29 4 rfl rfl ?_
    refine z_iload C dX12_league_30 0 rfl ?_
    refine z_iconst C dX12_league_32 ki_1 ?_
    refine z_iload_n C dX12_league_33 2 rfl rfl ?_
    refine z_ishl C dX12_league_34 ?_
    refine f_topi (y := wBit (nI i)) (wBit_nI (by omega)).symm ?_
    refine f_callVr C hl (As := [.int (nI j), .int (wBit (nI i))]) (rest := [.int c]) (c_X12_joyOf l B s t j (by omega) (K j) (Lo j) (Ha j) (hd.2.2.1 j hj2).1 (hd.2.2.1 j hj2).2.1 (hd.2.2.1 j hj2).2.2 (wBit (nI i)) (wBit_r hi)) zb_113 (zg_12 zk_113) rfl (zCB (nA := 2) C rfl rfl tw_874 tw_13 tw_871 (by decide +kernel) ⟨Nat.le_of_ble_eq_true rfl, Nat.le_of_ble_eq_true rfl⟩) tw_873 tp_36 rfl rfl (Nat.le_of_ble_eq_true rfl) dX12_league_35 (Nat.zero_le _) ?_
    refine z_if_le C 45 dX12_league_38 (by decide) (fun h38 => ?_) (fun h38 => ?_)
    · refine z_iconst C dX12_league_45 ki_0 ?_
      refine z_iadd C dX12_league_46 ?_
      refine z_istore_n C [(3, .int (c + 0)), (4, .int (nI j)), (2, .int (nI i)), (1, .int a), (0, .ref (B.1 + 113))] dX12_league_47 rfl (by decide) rfl ?_
      refine z_iinc C [(4, .int (nI (j + 1))), (3, .int (c + 0)), (2, .int (nI i)), (1, .int a), (0, .ref (B.1 + 113))] dX12_league_48 1 rfl (nI_inc j) (by decide) rfl ?_
      refine z_goto C 19 dX12_league_51 (by decide) ?_
      exact z_lv [0, 1, 2, 3, 4] rfl (ih (j + 1) _ (by omega) (by rw [wGlad, ← hc]; exact congrArg (fun z => c + z) (zi_n (Int32.not_lt.mpr h38))))
    · refine z_iconst C dX12_league_41 ki_1 ?_
      refine z_goto C 46 dX12_league_42 (by decide) ?_
      refine z_iadd C dX12_league_46 ?_
      refine z_istore_n C [(3, .int (c + 1)), (4, .int (nI j)), (2, .int (nI i)), (1, .int a), (0, .ref (B.1 + 113))] dX12_league_47 rfl (by decide) rfl ?_
      refine z_iinc C [(4, .int (nI (j + 1))), (3, .int (c + 1)), (2, .int (nI i)), (1, .int a), (0, .ref (B.1 + 113))] dX12_league_48 1 rfl (nI_inc j) (by decide) rfl ?_
      refine z_goto C 19 dX12_league_51 (by decide) ?_
      exact z_lv [0, 1, 2, 3, 4] rfl (ih (j + 1) _ (by omega) (by rw [wGlad, ← hc]; exact congrArg (fun z => c + z) (zi_p (Int32.not_le.mp h38))))
set_option maxRecDepth 100000 in
set_option maxHeartbeats 4000000 in
theorem l_X12_league {l : Launch} {B : zB} {s : zS} {t : zL} {X : zX} (hl : X.2.1 = l) (C : zC X B mX12_league) (N : Nat) (K Lo Ha : Nat → Int32) (sl dy : Int32) (hd : wHd s N K Lo Ha sl dy) (E : zE X B mX12_league 124 0 0 (zR B (some (.int (wCol (fun q => decide (¬ 2 * wGlad K Lo Ha (wBit (nI q)) N ≤ nI N)) 8))) s t)) : ∀ (m : Nat) (i : Nat) (a : Int32), i + m = 8 → a = wCol (fun q => decide (¬ 2 * wGlad K Lo Ha (wBit (nI q)) N ≤ nI N)) i → Zf X B mX12_league s t 8 [(2, .int (nI i)), (1, .int a), (0, .ref (B.1 + 113))] [] := by
  intro m
  induction m with
  | zero =>
    intro i a hi ha
    obtain rfl : i = 8 := by omega
    refine z_iload_n C dX12_league_8 0 rfl rfl ?_
    refine z_bipush C dX12_league_9 kb_8 ?_
    refine z_icmp_ge C 80 dX12_league_11 (by decide) (fun _ => ?_) (fun hbr => absurd (by decide) hbr)
    refine z_iload_n C dX12_league_80 1 rfl rfl ?_
    refine z_iret C E rfl dX12_league_81 rfl (Nat.le_refl _) ⟨by rw [ha], rfl⟩
  | succ m ih =>
    intro i a hi0 ha
    have hi : i < 8 := by omega
    refine z_iload_n C dX12_league_8 0 rfl rfl ?_
    refine z_bipush C dX12_league_9 kb_8 ?_
    refine z_icmp_ge C 80 dX12_league_11 (by decide) (fun hbr => absurd hbr (show ¬ nI 8 ≤ nI i from nI_ge hi (by decide))) (fun _ => ?_)
    refine z_iconst C dX12_league_14 ki_0 ?_
    refine z_istore_n C [(3, .int 0), (2, .int (nI i)), (1, .int a), (0, .ref (B.1 + 113))] dX12_league_15 rfl (by decide) rfl ?_
    refine z_iconst C dX12_league_16 ki_0 ?_
    refine z_istore C [(4, .int 0), (3, .int 0), (2, .int (nI i)), (1, .int a), (0, .ref (B.1 + 113))] dX12_league_17 (by decide) rfl ?_
    exact z_lv [0, 1, 2, 3, 4] rfl (l_X12_league_in hl C N K Lo Ha sl dy hd i hi a ha (fun a h => ih (i + 1) a (by omega) h) E N 0 0 (by omega) rfl)
set_option maxRecDepth 100000 in
set_option maxHeartbeats 4000000 in
theorem c_X12_league (l : Launch) (B : zB) (s : zS) (t : zL) (N : Nat) (mo : mOk s N) : zD l B mX12_league s t [.ref (B.1 + 113)] (some (.int (wCol (fun q => decide (¬ 2 * wGlad (mK s) (mL s) (mH s) (wBit (nI q)) N ≤ nI N)) 8))) (wHand s N) t := by
  refine z_met (by decide) (Nat.le_of_ble_eq_true rfl) ?_
  intro X hl C E hnm
  show Zf X B mX12_league s t 0 [(0, .ref (B.1 + 113))] []
  refine z_iconst C dX12_league_0 ki_0 ?_
  refine z_istore_n C [(1, .int 0), (0, .ref (B.1 + 113))] dX12_league_1 rfl (by decide) rfl ?_
  refine z_aload_n C dX12_league_2 1 rfl rfl ?_
  refine f_callVv C hl (As := []) (rest := []) (c_X12_layHand l B s t N mo.1 mo.2.1) zb_113 (zg_12 zk_113) rfl (zCB (nA := 0) C rfl rfl tw_851 tw_13 tw_848 (by decide +kernel) ⟨Nat.le_of_ble_eq_true rfl, Nat.le_of_ble_eq_true rfl⟩) tw_850 tp_31 rfl rfl (Nat.le_of_ble_eq_true rfl) dX12_league_3 (Nat.zero_le _) ?_
  refine z_iconst C dX12_league_6 ki_0 ?_
  refine z_istore_n C [(2, .int 0), (1, .int 0), (0, .ref (B.1 + 113))] dX12_league_7 rfl (by decide) rfl ?_
  exact z_lv [0, 1, 2] rfl (l_X12_league (s := (wHand s N)) hl C N (mK s) (mL s) (mH s) (mS s) (s 114 6) (hd_hand mo) E 8 0 0 (by omega) rfl)
