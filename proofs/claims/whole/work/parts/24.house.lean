abbrev mX1_startOn : zM := (yX1_startOn, cX1_startOn, 2, none, { frames := 1, cells := 0, slots := 0, locals := 21 })
def wStart8 (s : zS) (a : Int32) : zS := (zu (zu (zu (zu (zu (zu (zu (zu (zu s 9 0 a) 9 1 0) 9 2 0) 9 3 0) 9 4 0) 9 5 0) 8 4 0) 8 5 0) 8 6 0)
set_option maxRecDepth 100000 in
set_option maxHeartbeats 4000000 in
theorem c_X1_startOn8 (l : Launch) (B : zB) (s : zS) (t : zL) (a : Int32) : zD l B mX1_startOn s t [.ref (B.1 + 8), .int a] none (wStart8 s a) t := by
  refine z_met (by decide) (Nat.le_of_ble_eq_true rfl) ?_
  intro X hl C E hnm
  show Zf X B mX1_startOn s t 0 [(0, .ref (B.1 + 8)), (1, .int a)] []
  refine z_aload_n C dX1_startOn_0 0 rfl rfl ?_
  refine f_get1 C 0 (v := .ref (B.1 + 9)) (by decide) tw_167 rfl zk_8 zb_8 rfl dX1_startOn_1 ?_
  refine z_iload_n C dX1_startOn_4 1 rfl rfl ?_
  refine f_callVv C hl (As := [.int a]) (rest := []) (c_X8_startOn l B s t 9 zk_9 zb_9 a) zb_9 (zg_8 zk_9) rfl (zCB (nA := 1) C rfl rfl tw_280 tw_9 tw_277 (by decide +kernel) ⟨Nat.le_of_ble_eq_true rfl, Nat.le_of_ble_eq_true rfl⟩) tw_278 tw_279 rfl rfl (Nat.le_of_ble_eq_true rfl) dX1_startOn_5 (Nat.zero_le _) ?_
  refine z_aload_n C dX1_startOn_8 0 rfl rfl ?_
  refine z_iconst C dX1_startOn_9 ki_0 ?_
  refine f_put1_4 C tw_172 zk_8 zb_8 dX1_startOn_10 ?_
  refine z_aload_n C dX1_startOn_13 0 rfl rfl ?_
  refine z_iconst C dX1_startOn_14 ki_0 ?_
  refine f_put1_5 C tw_174 zk_8 zb_8 dX1_startOn_15 ?_
  refine z_aload_n C dX1_startOn_18 0 rfl rfl ?_
  refine z_iconst C dX1_startOn_19 ki_0 ?_
  refine f_put1_6 C tw_176 zk_8 zb_8 dX1_startOn_20 ?_
  refine z_vret C E rfl dX1_startOn_23 rfl (Nat.le_refl _) ⟨rfl, rfl⟩
def wStart33 (s : zS) (a : Int32) : zS := (zu (zu (zu (zu (zu (zu (zu (zu (zu s 34 0 a) 34 1 0) 34 2 0) 34 3 0) 34 4 0) 34 5 0) 33 4 0) 33 5 0) 33 6 0)
set_option maxRecDepth 100000 in
set_option maxHeartbeats 4000000 in
theorem c_X1_startOn33 (l : Launch) (B : zB) (s : zS) (t : zL) (a : Int32) : zD l B mX1_startOn s t [.ref (B.1 + 33), .int a] none (wStart33 s a) t := by
  refine z_met (by decide) (Nat.le_of_ble_eq_true rfl) ?_
  intro X hl C E hnm
  show Zf X B mX1_startOn s t 0 [(0, .ref (B.1 + 33)), (1, .int a)] []
  refine z_aload_n C dX1_startOn_0 0 rfl rfl ?_
  refine f_get1 C 0 (v := .ref (B.1 + 34)) (by decide) tw_167 rfl zk_33 zb_33 rfl dX1_startOn_1 ?_
  refine z_iload_n C dX1_startOn_4 1 rfl rfl ?_
  refine f_callVv C hl (As := [.int a]) (rest := []) (c_X8_startOn l B s t 34 zk_34 zb_34 a) zb_34 (zg_8 zk_34) rfl (zCB (nA := 1) C rfl rfl tw_280 tw_9 tw_277 (by decide +kernel) ⟨Nat.le_of_ble_eq_true rfl, Nat.le_of_ble_eq_true rfl⟩) tw_278 tw_279 rfl rfl (Nat.le_of_ble_eq_true rfl) dX1_startOn_5 (Nat.zero_le _) ?_
  refine z_aload_n C dX1_startOn_8 0 rfl rfl ?_
  refine z_iconst C dX1_startOn_9 ki_0 ?_
  refine f_put1_4 C tw_172 zk_33 zb_33 dX1_startOn_10 ?_
  refine z_aload_n C dX1_startOn_13 0 rfl rfl ?_
  refine z_iconst C dX1_startOn_14 ki_0 ?_
  refine f_put1_5 C tw_174 zk_33 zb_33 dX1_startOn_15 ?_
  refine z_aload_n C dX1_startOn_18 0 rfl rfl ?_
  refine z_iconst C dX1_startOn_19 ki_0 ?_
  refine f_put1_6 C tw_176 zk_33 zb_33 dX1_startOn_20 ?_
  refine z_vret C E rfl dX1_startOn_23 rfl (Nat.le_refl _) ⟨rfl, rfl⟩
abbrev mX1_copyFrom : zM := (yX1_copyFrom, cX1_copyFrom, 3, none, { frames := 1, cells := 0, slots := 0, locals := 21 })
def wCopy8_33 (s : zS) : zS := (zu (zu (zu (zcp (zcp (zcp (zcp (zcp (zcp (zcp (zcp (zcp (zcp (zcp (zcp (zcp (zcp (zcp (zcp (zcp (zcp (zcp (zcp (zcp s 9 34 6) 11 36 4) 12 37 4) 13 38 4) 14 39 4) 15 40 4) 16 41 4) 18 43 4) 19 44 4) 20 45 4) 21 46 4) 22 47 4) 23 48 4) 25 50 6) 26 51 6) 27 52 6) 28 53 6) 29 54 6) 30 55 6) 31 56 6) 32 57 6) 8 4 ((zcp (zcp (zcp (zcp (zcp (zcp (zcp (zcp (zcp (zcp (zcp (zcp (zcp (zcp (zcp (zcp (zcp (zcp (zcp (zcp (zcp s 9 34 6) 11 36 4) 12 37 4) 13 38 4) 14 39 4) 15 40 4) 16 41 4) 18 43 4) 19 44 4) 20 45 4) 21 46 4) 22 47 4) 23 48 4) 25 50 6) 26 51 6) 27 52 6) 28 53 6) 29 54 6) 30 55 6) 31 56 6) 32 57 6) 33 4)) 8 5 ((zu (zcp (zcp (zcp (zcp (zcp (zcp (zcp (zcp (zcp (zcp (zcp (zcp (zcp (zcp (zcp (zcp (zcp (zcp (zcp (zcp (zcp s 9 34 6) 11 36 4) 12 37 4) 13 38 4) 14 39 4) 15 40 4) 16 41 4) 18 43 4) 19 44 4) 20 45 4) 21 46 4) 22 47 4) 23 48 4) 25 50 6) 26 51 6) 27 52 6) 28 53 6) 29 54 6) 30 55 6) 31 56 6) 32 57 6) 8 4 ((zcp (zcp (zcp (zcp (zcp (zcp (zcp (zcp (zcp (zcp (zcp (zcp (zcp (zcp (zcp (zcp (zcp (zcp (zcp (zcp (zcp s 9 34 6) 11 36 4) 12 37 4) 13 38 4) 14 39 4) 15 40 4) 16 41 4) 18 43 4) 19 44 4) 20 45 4) 21 46 4) 22 47 4) 23 48 4) 25 50 6) 26 51 6) 27 52 6) 28 53 6) 29 54 6) 30 55 6) 31 56 6) 32 57 6) 33 4)) 33 5)) 8 6 ((zu (zu (zcp (zcp (zcp (zcp (zcp (zcp (zcp (zcp (zcp (zcp (zcp (zcp (zcp (zcp (zcp (zcp (zcp (zcp (zcp (zcp (zcp s 9 34 6) 11 36 4) 12 37 4) 13 38 4) 14 39 4) 15 40 4) 16 41 4) 18 43 4) 19 44 4) 20 45 4) 21 46 4) 22 47 4) 23 48 4) 25 50 6) 26 51 6) 27 52 6) 28 53 6) 29 54 6) 30 55 6) 31 56 6) 32 57 6) 8 4 ((zcp (zcp (zcp (zcp (zcp (zcp (zcp (zcp (zcp (zcp (zcp (zcp (zcp (zcp (zcp (zcp (zcp (zcp (zcp (zcp (zcp s 9 34 6) 11 36 4) 12 37 4) 13 38 4) 14 39 4) 15 40 4) 16 41 4) 18 43 4) 19 44 4) 20 45 4) 21 46 4) 22 47 4) 23 48 4) 25 50 6) 26 51 6) 27 52 6) 28 53 6) 29 54 6) 30 55 6) 31 56 6) 32 57 6) 33 4)) 8 5 ((zu (zcp (zcp (zcp (zcp (zcp (zcp (zcp (zcp (zcp (zcp (zcp (zcp (zcp (zcp (zcp (zcp (zcp (zcp (zcp (zcp (zcp s 9 34 6) 11 36 4) 12 37 4) 13 38 4) 14 39 4) 15 40 4) 16 41 4) 18 43 4) 19 44 4) 20 45 4) 21 46 4) 22 47 4) 23 48 4) 25 50 6) 26 51 6) 27 52 6) 28 53 6) 29 54 6) 30 55 6) 31 56 6) 32 57 6) 8 4 ((zcp (zcp (zcp (zcp (zcp (zcp (zcp (zcp (zcp (zcp (zcp (zcp (zcp (zcp (zcp (zcp (zcp (zcp (zcp (zcp (zcp s 9 34 6) 11 36 4) 12 37 4) 13 38 4) 14 39 4) 15 40 4) 16 41 4) 18 43 4) 19 44 4) 20 45 4) 21 46 4) 22 47 4) 23 48 4) 25 50 6) 26 51 6) 27 52 6) 28 53 6) 29 54 6) 30 55 6) 31 56 6) 32 57 6) 33 4)) 33 5)) 33 6))
set_option maxRecDepth 100000 in
set_option maxHeartbeats 4000000 in
theorem c_X1_copyFrom8_33 (l : Launch) (B : zB) (s : zS) (t : zL)  : zD l B mX1_copyFrom s t [.ref (B.1 + 8), .ref (B.1 + 33)] none (wCopy8_33 s) t := by
  refine z_met (by decide) (Nat.le_of_ble_eq_true rfl) ?_
  intro X hl C E hnm
  show Zf X B mX1_copyFrom s t 0 [(0, .ref (B.1 + 8)), (1, .ref (B.1 + 33))] []
  refine z_aload_n C dX1_copyFrom_0 0 rfl rfl ?_
  refine f_get1 C 0 (v := .ref (B.1 + 9)) (by decide) tw_167 rfl zk_8 zb_8 rfl dX1_copyFrom_1 ?_
  refine z_aload_n C dX1_copyFrom_4 1 rfl rfl ?_
  refine f_get1 C 0 (v := .ref (B.1 + 34)) (by decide) tw_167 rfl zk_33 zb_33 rfl dX1_copyFrom_5 ?_
  refine f_callVv C hl (As := [.ref (B.1 + 34)]) (rest := []) (c_X8_copyFrom l B s t 9 34 zk_9 zb_9 zk_34 zb_34) zb_9 (zg_8 zk_9) rfl (zCB (nA := 1) C rfl rfl tw_445 tw_9 tw_442 (by decide +kernel) ⟨Nat.le_of_ble_eq_true rfl, Nat.le_of_ble_eq_true rfl⟩) tw_443 tw_444 rfl rfl (Nat.le_of_ble_eq_true rfl) dX1_copyFrom_8 (Nat.zero_le _) ?_
  refine z_iconst C dX1_copyFrom_11 ki_0 ?_
  refine z_istore_n C [(2, .int 0), (0, .ref (B.1 + 8)), (1, .ref (B.1 + 33))] dX1_copyFrom_12 rfl (by decide) rfl ?_
  refine z_iload_n C dX1_copyFrom_13 0 rfl rfl ?_
  refine z_aload_n C dX1_copyFrom_14 1 rfl rfl ?_
  refine f_get1 C 1 (v := .ref (B.1 + 10)) (by decide) tw_169 rfl zk_8 zb_8 rfl dX1_copyFrom_15 ?_
  refine f_alen23 C (v := 6) zk_10 zb_10 rfl dX1_copyFrom_18 ?_
  refine z_icmp_ge C 52 dX1_copyFrom_19 (by decide) (fun hbr => absurd hbr (by decide)) (fun _ => ?_)
  refine z_iload_n C dX1_copyFrom_22 0 rfl rfl ?_
  refine z_aload_n C dX1_copyFrom_23 2 rfl rfl ?_
  refine f_get1 C 1 (v := .ref (B.1 + 35)) (by decide) tw_169 rfl zk_33 zb_33 rfl dX1_copyFrom_24 ?_
  refine f_alen23 C (v := 6) zk_35 zb_35 rfl dX1_copyFrom_27 ?_
  refine z_icmp_ge C 52 dX1_copyFrom_28 (by decide) (fun hbr => absurd hbr (by decide)) (fun _ => ?_)
  refine z_aload_n C dX1_copyFrom_31 1 rfl rfl ?_
  refine f_get1 C 1 (v := .ref (B.1 + 10)) (by decide) tw_169 rfl zk_8 zb_8 rfl dX1_copyFrom_32 ?_
  refine z_iload_n C dX1_copyFrom_35 0 rfl rfl ?_
  refine f_aaldL23 C zk_10 zb_10 (by unfold vp_in; decide) (r := 11) (by decide) dX1_copyFrom_36 ?_
  refine z_aload_n C dX1_copyFrom_37 2 rfl rfl ?_
  refine f_get1 C 1 (v := .ref (B.1 + 35)) (by decide) tw_169 rfl zk_33 zb_33 rfl dX1_copyFrom_38 ?_
  refine z_iload_n C dX1_copyFrom_41 0 rfl rfl ?_
  refine f_aaldL23 C zk_35 zb_35 (by unfold vp_in; decide) (r := 36) (by decide) dX1_copyFrom_42 ?_
  refine f_callVv C hl (As := [.ref (B.1 + 36)]) (rest := []) (c_X0_copyFrom l B (zcp s 9 34 6) t 11 36 zk_11 zb_11 zk_36 zb_36) zb_11 (zg_0 zk_11) rfl (zCB (nA := 1) C rfl rfl tw_449 tw_10 tw_446 (by decide +kernel) ⟨Nat.le_of_ble_eq_true rfl, Nat.le_of_ble_eq_true rfl⟩) tw_447 tw_448 rfl rfl (Nat.le_of_ble_eq_true rfl) dX1_copyFrom_43 (Nat.zero_le _) ?_
  refine z_iinc C [(2, .int 1), (0, .ref (B.1 + 8)), (1, .ref (B.1 + 33))] dX1_copyFrom_46 0 rfl (by decide) (by decide) rfl ?_
  refine z_goto C 13 dX1_copyFrom_49 (by decide) ?_
  refine z_iload_n C dX1_copyFrom_13 0 rfl rfl ?_
  refine z_aload_n C dX1_copyFrom_14 1 rfl rfl ?_
  refine f_get1 C 1 (v := .ref (B.1 + 10)) (by decide) tw_169 rfl zk_8 zb_8 rfl dX1_copyFrom_15 ?_
  refine f_alen23 C (v := 6) zk_10 zb_10 rfl dX1_copyFrom_18 ?_
  refine z_icmp_ge C 52 dX1_copyFrom_19 (by decide) (fun hbr => absurd hbr (by decide)) (fun _ => ?_)
  refine z_iload_n C dX1_copyFrom_22 0 rfl rfl ?_
  refine z_aload_n C dX1_copyFrom_23 2 rfl rfl ?_
  refine f_get1 C 1 (v := .ref (B.1 + 35)) (by decide) tw_169 rfl zk_33 zb_33 rfl dX1_copyFrom_24 ?_
  refine f_alen23 C (v := 6) zk_35 zb_35 rfl dX1_copyFrom_27 ?_
  refine z_icmp_ge C 52 dX1_copyFrom_28 (by decide) (fun hbr => absurd hbr (by decide)) (fun _ => ?_)
  refine z_aload_n C dX1_copyFrom_31 1 rfl rfl ?_
  refine f_get1 C 1 (v := .ref (B.1 + 10)) (by decide) tw_169 rfl zk_8 zb_8 rfl dX1_copyFrom_32 ?_
  refine z_iload_n C dX1_copyFrom_35 0 rfl rfl ?_
  refine f_aaldL23 C zk_10 zb_10 (by unfold vp_in; decide) (r := 12) (by decide) dX1_copyFrom_36 ?_
  refine z_aload_n C dX1_copyFrom_37 2 rfl rfl ?_
  refine f_get1 C 1 (v := .ref (B.1 + 35)) (by decide) tw_169 rfl zk_33 zb_33 rfl dX1_copyFrom_38 ?_
  refine z_iload_n C dX1_copyFrom_41 0 rfl rfl ?_
  refine f_aaldL23 C zk_35 zb_35 (by unfold vp_in; decide) (r := 37) (by decide) dX1_copyFrom_42 ?_
  refine f_callVv C hl (As := [.ref (B.1 + 37)]) (rest := []) (c_X0_copyFrom l B (zcp (zcp s 9 34 6) 11 36 4) t 12 37 zk_12 zb_12 zk_37 zb_37) zb_12 (zg_0 zk_12) rfl (zCB (nA := 1) C rfl rfl tw_449 tw_10 tw_446 (by decide +kernel) ⟨Nat.le_of_ble_eq_true rfl, Nat.le_of_ble_eq_true rfl⟩) tw_447 tw_448 rfl rfl (Nat.le_of_ble_eq_true rfl) dX1_copyFrom_43 (Nat.zero_le _) ?_
  refine z_iinc C [(2, .int 2), (0, .ref (B.1 + 8)), (1, .ref (B.1 + 33))] dX1_copyFrom_46 0 rfl (by decide) (by decide) rfl ?_
  refine z_goto C 13 dX1_copyFrom_49 (by decide) ?_
  refine z_iload_n C dX1_copyFrom_13 0 rfl rfl ?_
  refine z_aload_n C dX1_copyFrom_14 1 rfl rfl ?_
  refine f_get1 C 1 (v := .ref (B.1 + 10)) (by decide) tw_169 rfl zk_8 zb_8 rfl dX1_copyFrom_15 ?_
  refine f_alen23 C (v := 6) zk_10 zb_10 rfl dX1_copyFrom_18 ?_
  refine z_icmp_ge C 52 dX1_copyFrom_19 (by decide) (fun hbr => absurd hbr (by decide)) (fun _ => ?_)
  refine z_iload_n C dX1_copyFrom_22 0 rfl rfl ?_
  refine z_aload_n C dX1_copyFrom_23 2 rfl rfl ?_
  refine f_get1 C 1 (v := .ref (B.1 + 35)) (by decide) tw_169 rfl zk_33 zb_33 rfl dX1_copyFrom_24 ?_
  refine f_alen23 C (v := 6) zk_35 zb_35 rfl dX1_copyFrom_27 ?_
  refine z_icmp_ge C 52 dX1_copyFrom_28 (by decide) (fun hbr => absurd hbr (by decide)) (fun _ => ?_)
  refine z_aload_n C dX1_copyFrom_31 1 rfl rfl ?_
  refine f_get1 C 1 (v := .ref (B.1 + 10)) (by decide) tw_169 rfl zk_8 zb_8 rfl dX1_copyFrom_32 ?_
  refine z_iload_n C dX1_copyFrom_35 0 rfl rfl ?_
  refine f_aaldL23 C zk_10 zb_10 (by unfold vp_in; decide) (r := 13) (by decide) dX1_copyFrom_36 ?_
  refine z_aload_n C dX1_copyFrom_37 2 rfl rfl ?_
  refine f_get1 C 1 (v := .ref (B.1 + 35)) (by decide) tw_169 rfl zk_33 zb_33 rfl dX1_copyFrom_38 ?_
  refine z_iload_n C dX1_copyFrom_41 0 rfl rfl ?_
  refine f_aaldL23 C zk_35 zb_35 (by unfold vp_in; decide) (r := 38) (by decide) dX1_copyFrom_42 ?_
  refine f_callVv C hl (As := [.ref (B.1 + 38)]) (rest := []) (c_X0_copyFrom l B (zcp (zcp (zcp s 9 34 6) 11 36 4) 12 37 4) t 13 38 zk_13 zb_13 zk_38 zb_38) zb_13 (zg_0 zk_13) rfl (zCB (nA := 1) C rfl rfl tw_449 tw_10 tw_446 (by decide +kernel) ⟨Nat.le_of_ble_eq_true rfl, Nat.le_of_ble_eq_true rfl⟩) tw_447 tw_448 rfl rfl (Nat.le_of_ble_eq_true rfl) dX1_copyFrom_43 (Nat.zero_le _) ?_
  refine z_iinc C [(2, .int 3), (0, .ref (B.1 + 8)), (1, .ref (B.1 + 33))] dX1_copyFrom_46 0 rfl (by decide) (by decide) rfl ?_
  refine z_goto C 13 dX1_copyFrom_49 (by decide) ?_
  refine z_iload_n C dX1_copyFrom_13 0 rfl rfl ?_
  refine z_aload_n C dX1_copyFrom_14 1 rfl rfl ?_
  refine f_get1 C 1 (v := .ref (B.1 + 10)) (by decide) tw_169 rfl zk_8 zb_8 rfl dX1_copyFrom_15 ?_
  refine f_alen23 C (v := 6) zk_10 zb_10 rfl dX1_copyFrom_18 ?_
  refine z_icmp_ge C 52 dX1_copyFrom_19 (by decide) (fun hbr => absurd hbr (by decide)) (fun _ => ?_)
  refine z_iload_n C dX1_copyFrom_22 0 rfl rfl ?_
  refine z_aload_n C dX1_copyFrom_23 2 rfl rfl ?_
  refine f_get1 C 1 (v := .ref (B.1 + 35)) (by decide) tw_169 rfl zk_33 zb_33 rfl dX1_copyFrom_24 ?_
  refine f_alen23 C (v := 6) zk_35 zb_35 rfl dX1_copyFrom_27 ?_
  refine z_icmp_ge C 52 dX1_copyFrom_28 (by decide) (fun hbr => absurd hbr (by decide)) (fun _ => ?_)
  refine z_aload_n C dX1_copyFrom_31 1 rfl rfl ?_
  refine f_get1 C 1 (v := .ref (B.1 + 10)) (by decide) tw_169 rfl zk_8 zb_8 rfl dX1_copyFrom_32 ?_
  refine z_iload_n C dX1_copyFrom_35 0 rfl rfl ?_
  refine f_aaldL23 C zk_10 zb_10 (by unfold vp_in; decide) (r := 14) (by decide) dX1_copyFrom_36 ?_
  refine z_aload_n C dX1_copyFrom_37 2 rfl rfl ?_
  refine f_get1 C 1 (v := .ref (B.1 + 35)) (by decide) tw_169 rfl zk_33 zb_33 rfl dX1_copyFrom_38 ?_
  refine z_iload_n C dX1_copyFrom_41 0 rfl rfl ?_
  refine f_aaldL23 C zk_35 zb_35 (by unfold vp_in; decide) (r := 39) (by decide) dX1_copyFrom_42 ?_
  refine f_callVv C hl (As := [.ref (B.1 + 39)]) (rest := []) (c_X0_copyFrom l B (zcp (zcp (zcp (zcp s 9 34 6) 11 36 4) 12 37 4) 13 38 4) t 14 39 zk_14 zb_14 zk_39 zb_39) zb_14 (zg_0 zk_14) rfl (zCB (nA := 1) C rfl rfl tw_449 tw_10 tw_446 (by decide +kernel) ⟨Nat.le_of_ble_eq_true rfl, Nat.le_of_ble_eq_true rfl⟩) tw_447 tw_448 rfl rfl (Nat.le_of_ble_eq_true rfl) dX1_copyFrom_43 (Nat.zero_le _) ?_
  refine z_iinc C [(2, .int 4), (0, .ref (B.1 + 8)), (1, .ref (B.1 + 33))] dX1_copyFrom_46 0 rfl (by decide) (by decide) rfl ?_
  refine z_goto C 13 dX1_copyFrom_49 (by decide) ?_
  refine z_iload_n C dX1_copyFrom_13 0 rfl rfl ?_
  refine z_aload_n C dX1_copyFrom_14 1 rfl rfl ?_
  refine f_get1 C 1 (v := .ref (B.1 + 10)) (by decide) tw_169 rfl zk_8 zb_8 rfl dX1_copyFrom_15 ?_
  refine f_alen23 C (v := 6) zk_10 zb_10 rfl dX1_copyFrom_18 ?_
  refine z_icmp_ge C 52 dX1_copyFrom_19 (by decide) (fun hbr => absurd hbr (by decide)) (fun _ => ?_)
  refine z_iload_n C dX1_copyFrom_22 0 rfl rfl ?_
  refine z_aload_n C dX1_copyFrom_23 2 rfl rfl ?_
  refine f_get1 C 1 (v := .ref (B.1 + 35)) (by decide) tw_169 rfl zk_33 zb_33 rfl dX1_copyFrom_24 ?_
  refine f_alen23 C (v := 6) zk_35 zb_35 rfl dX1_copyFrom_27 ?_
  refine z_icmp_ge C 52 dX1_copyFrom_28 (by decide) (fun hbr => absurd hbr (by decide)) (fun _ => ?_)
  refine z_aload_n C dX1_copyFrom_31 1 rfl rfl ?_
  refine f_get1 C 1 (v := .ref (B.1 + 10)) (by decide) tw_169 rfl zk_8 zb_8 rfl dX1_copyFrom_32 ?_
  refine z_iload_n C dX1_copyFrom_35 0 rfl rfl ?_
  refine f_aaldL23 C zk_10 zb_10 (by unfold vp_in; decide) (r := 15) (by decide) dX1_copyFrom_36 ?_
  refine z_aload_n C dX1_copyFrom_37 2 rfl rfl ?_
  refine f_get1 C 1 (v := .ref (B.1 + 35)) (by decide) tw_169 rfl zk_33 zb_33 rfl dX1_copyFrom_38 ?_
  refine z_iload_n C dX1_copyFrom_41 0 rfl rfl ?_
  refine f_aaldL23 C zk_35 zb_35 (by unfold vp_in; decide) (r := 40) (by decide) dX1_copyFrom_42 ?_
  refine f_callVv C hl (As := [.ref (B.1 + 40)]) (rest := []) (c_X0_copyFrom l B (zcp (zcp (zcp (zcp (zcp s 9 34 6) 11 36 4) 12 37 4) 13 38 4) 14 39 4) t 15 40 zk_15 zb_15 zk_40 zb_40) zb_15 (zg_0 zk_15) rfl (zCB (nA := 1) C rfl rfl tw_449 tw_10 tw_446 (by decide +kernel) ⟨Nat.le_of_ble_eq_true rfl, Nat.le_of_ble_eq_true rfl⟩) tw_447 tw_448 rfl rfl (Nat.le_of_ble_eq_true rfl) dX1_copyFrom_43 (Nat.zero_le _) ?_
  refine z_iinc C [(2, .int 5), (0, .ref (B.1 + 8)), (1, .ref (B.1 + 33))] dX1_copyFrom_46 0 rfl (by decide) (by decide) rfl ?_
  refine z_goto C 13 dX1_copyFrom_49 (by decide) ?_
  refine z_iload_n C dX1_copyFrom_13 0 rfl rfl ?_
  refine z_aload_n C dX1_copyFrom_14 1 rfl rfl ?_
  refine f_get1 C 1 (v := .ref (B.1 + 10)) (by decide) tw_169 rfl zk_8 zb_8 rfl dX1_copyFrom_15 ?_
  refine f_alen23 C (v := 6) zk_10 zb_10 rfl dX1_copyFrom_18 ?_
  refine z_icmp_ge C 52 dX1_copyFrom_19 (by decide) (fun hbr => absurd hbr (by decide)) (fun _ => ?_)
  refine z_iload_n C dX1_copyFrom_22 0 rfl rfl ?_
  refine z_aload_n C dX1_copyFrom_23 2 rfl rfl ?_
  refine f_get1 C 1 (v := .ref (B.1 + 35)) (by decide) tw_169 rfl zk_33 zb_33 rfl dX1_copyFrom_24 ?_
  refine f_alen23 C (v := 6) zk_35 zb_35 rfl dX1_copyFrom_27 ?_
  refine z_icmp_ge C 52 dX1_copyFrom_28 (by decide) (fun hbr => absurd hbr (by decide)) (fun _ => ?_)
  refine z_aload_n C dX1_copyFrom_31 1 rfl rfl ?_
  refine f_get1 C 1 (v := .ref (B.1 + 10)) (by decide) tw_169 rfl zk_8 zb_8 rfl dX1_copyFrom_32 ?_
  refine z_iload_n C dX1_copyFrom_35 0 rfl rfl ?_
  refine f_aaldL23 C zk_10 zb_10 (by unfold vp_in; decide) (r := 16) (by decide) dX1_copyFrom_36 ?_
  refine z_aload_n C dX1_copyFrom_37 2 rfl rfl ?_
  refine f_get1 C 1 (v := .ref (B.1 + 35)) (by decide) tw_169 rfl zk_33 zb_33 rfl dX1_copyFrom_38 ?_
  refine z_iload_n C dX1_copyFrom_41 0 rfl rfl ?_
  refine f_aaldL23 C zk_35 zb_35 (by unfold vp_in; decide) (r := 41) (by decide) dX1_copyFrom_42 ?_
  refine f_callVv C hl (As := [.ref (B.1 + 41)]) (rest := []) (c_X0_copyFrom l B (zcp (zcp (zcp (zcp (zcp (zcp s 9 34 6) 11 36 4) 12 37 4) 13 38 4) 14 39 4) 15 40 4) t 16 41 zk_16 zb_16 zk_41 zb_41) zb_16 (zg_0 zk_16) rfl (zCB (nA := 1) C rfl rfl tw_449 tw_10 tw_446 (by decide +kernel) ⟨Nat.le_of_ble_eq_true rfl, Nat.le_of_ble_eq_true rfl⟩) tw_447 tw_448 rfl rfl (Nat.le_of_ble_eq_true rfl) dX1_copyFrom_43 (Nat.zero_le _) ?_
  refine z_iinc C [(2, .int 6), (0, .ref (B.1 + 8)), (1, .ref (B.1 + 33))] dX1_copyFrom_46 0 rfl (by decide) (by decide) rfl ?_
  refine z_goto C 13 dX1_copyFrom_49 (by decide) ?_
  refine z_iload_n C dX1_copyFrom_13 0 rfl rfl ?_
  refine z_aload_n C dX1_copyFrom_14 1 rfl rfl ?_
  refine f_get1 C 1 (v := .ref (B.1 + 10)) (by decide) tw_169 rfl zk_8 zb_8 rfl dX1_copyFrom_15 ?_
  refine f_alen23 C (v := 6) zk_10 zb_10 rfl dX1_copyFrom_18 ?_
  refine z_icmp_ge C 52 dX1_copyFrom_19 (by decide) (fun _ => ?_) (fun hbr => absurd (by decide) hbr)
  refine z_iconst C dX1_copyFrom_52 ki_0 ?_
  refine z_istore_n C [(2, .int 0), (0, .ref (B.1 + 8)), (1, .ref (B.1 + 33))] dX1_copyFrom_53 rfl (by decide) rfl ?_
  refine z_iload_n C dX1_copyFrom_54 0 rfl rfl ?_
  refine z_aload_n C dX1_copyFrom_55 1 rfl rfl ?_
  refine f_get1 C 2 (v := .ref (B.1 + 17)) (by decide) tw_170 rfl zk_8 zb_8 rfl dX1_copyFrom_56 ?_
  refine f_alen25 C (v := 6) zk_17 zb_17 rfl dX1_copyFrom_59 ?_
  refine z_icmp_ge C 93 dX1_copyFrom_60 (by decide) (fun hbr => absurd hbr (by decide)) (fun _ => ?_)
  refine z_iload_n C dX1_copyFrom_63 0 rfl rfl ?_
  refine z_aload_n C dX1_copyFrom_64 2 rfl rfl ?_
  refine f_get1 C 2 (v := .ref (B.1 + 42)) (by decide) tw_170 rfl zk_33 zb_33 rfl dX1_copyFrom_65 ?_
  refine f_alen25 C (v := 6) zk_42 zb_42 rfl dX1_copyFrom_68 ?_
  refine z_icmp_ge C 93 dX1_copyFrom_69 (by decide) (fun hbr => absurd hbr (by decide)) (fun _ => ?_)
  refine z_aload_n C dX1_copyFrom_72 1 rfl rfl ?_
  refine f_get1 C 2 (v := .ref (B.1 + 17)) (by decide) tw_170 rfl zk_8 zb_8 rfl dX1_copyFrom_73 ?_
  refine z_iload_n C dX1_copyFrom_76 0 rfl rfl ?_
  refine f_aaldL25 C zk_17 zb_17 (by unfold vp_in; decide) (r := 18) (by decide) dX1_copyFrom_77 ?_
  refine z_aload_n C dX1_copyFrom_78 2 rfl rfl ?_
  refine f_get1 C 2 (v := .ref (B.1 + 42)) (by decide) tw_170 rfl zk_33 zb_33 rfl dX1_copyFrom_79 ?_
  refine z_iload_n C dX1_copyFrom_82 0 rfl rfl ?_
  refine f_aaldL25 C zk_42 zb_42 (by unfold vp_in; decide) (r := 43) (by decide) dX1_copyFrom_83 ?_
  refine f_callVv C hl (As := [.ref (B.1 + 43)]) (rest := []) (c_X4_copyFrom l B (zcp (zcp (zcp (zcp (zcp (zcp (zcp s 9 34 6) 11 36 4) 12 37 4) 13 38 4) 14 39 4) 15 40 4) 16 41 4) t 18 43 zk_18 zb_18 zk_43 zb_43) zb_18 (zg_4 zk_18) rfl (zCB (nA := 1) C rfl rfl tw_453 tw_11 tw_450 (by decide +kernel) ⟨Nat.le_of_ble_eq_true rfl, Nat.le_of_ble_eq_true rfl⟩) tw_451 tw_452 rfl rfl (Nat.le_of_ble_eq_true rfl) dX1_copyFrom_84 (Nat.zero_le _) ?_
  refine z_iinc C [(2, .int 1), (0, .ref (B.1 + 8)), (1, .ref (B.1 + 33))] dX1_copyFrom_87 0 rfl (by decide) (by decide) rfl ?_
  refine z_goto C 54 dX1_copyFrom_90 (by decide) ?_
  refine z_iload_n C dX1_copyFrom_54 0 rfl rfl ?_
  refine z_aload_n C dX1_copyFrom_55 1 rfl rfl ?_
  refine f_get1 C 2 (v := .ref (B.1 + 17)) (by decide) tw_170 rfl zk_8 zb_8 rfl dX1_copyFrom_56 ?_
  refine f_alen25 C (v := 6) zk_17 zb_17 rfl dX1_copyFrom_59 ?_
  refine z_icmp_ge C 93 dX1_copyFrom_60 (by decide) (fun hbr => absurd hbr (by decide)) (fun _ => ?_)
  refine z_iload_n C dX1_copyFrom_63 0 rfl rfl ?_
  refine z_aload_n C dX1_copyFrom_64 2 rfl rfl ?_
  refine f_get1 C 2 (v := .ref (B.1 + 42)) (by decide) tw_170 rfl zk_33 zb_33 rfl dX1_copyFrom_65 ?_
  refine f_alen25 C (v := 6) zk_42 zb_42 rfl dX1_copyFrom_68 ?_
  refine z_icmp_ge C 93 dX1_copyFrom_69 (by decide) (fun hbr => absurd hbr (by decide)) (fun _ => ?_)
  refine z_aload_n C dX1_copyFrom_72 1 rfl rfl ?_
  refine f_get1 C 2 (v := .ref (B.1 + 17)) (by decide) tw_170 rfl zk_8 zb_8 rfl dX1_copyFrom_73 ?_
  refine z_iload_n C dX1_copyFrom_76 0 rfl rfl ?_
  refine f_aaldL25 C zk_17 zb_17 (by unfold vp_in; decide) (r := 19) (by decide) dX1_copyFrom_77 ?_
  refine z_aload_n C dX1_copyFrom_78 2 rfl rfl ?_
  refine f_get1 C 2 (v := .ref (B.1 + 42)) (by decide) tw_170 rfl zk_33 zb_33 rfl dX1_copyFrom_79 ?_
  refine z_iload_n C dX1_copyFrom_82 0 rfl rfl ?_
  refine f_aaldL25 C zk_42 zb_42 (by unfold vp_in; decide) (r := 44) (by decide) dX1_copyFrom_83 ?_
  refine f_callVv C hl (As := [.ref (B.1 + 44)]) (rest := []) (c_X4_copyFrom l B (zcp (zcp (zcp (zcp (zcp (zcp (zcp (zcp s 9 34 6) 11 36 4) 12 37 4) 13 38 4) 14 39 4) 15 40 4) 16 41 4) 18 43 4) t 19 44 zk_19 zb_19 zk_44 zb_44) zb_19 (zg_4 zk_19) rfl (zCB (nA := 1) C rfl rfl tw_453 tw_11 tw_450 (by decide +kernel) ⟨Nat.le_of_ble_eq_true rfl, Nat.le_of_ble_eq_true rfl⟩) tw_451 tw_452 rfl rfl (Nat.le_of_ble_eq_true rfl) dX1_copyFrom_84 (Nat.zero_le _) ?_
  refine z_iinc C [(2, .int 2), (0, .ref (B.1 + 8)), (1, .ref (B.1 + 33))] dX1_copyFrom_87 0 rfl (by decide) (by decide) rfl ?_
  refine z_goto C 54 dX1_copyFrom_90 (by decide) ?_
  refine z_iload_n C dX1_copyFrom_54 0 rfl rfl ?_
  refine z_aload_n C dX1_copyFrom_55 1 rfl rfl ?_
  refine f_get1 C 2 (v := .ref (B.1 + 17)) (by decide) tw_170 rfl zk_8 zb_8 rfl dX1_copyFrom_56 ?_
  refine f_alen25 C (v := 6) zk_17 zb_17 rfl dX1_copyFrom_59 ?_
  refine z_icmp_ge C 93 dX1_copyFrom_60 (by decide) (fun hbr => absurd hbr (by decide)) (fun _ => ?_)
  refine z_iload_n C dX1_copyFrom_63 0 rfl rfl ?_
  refine z_aload_n C dX1_copyFrom_64 2 rfl rfl ?_
  refine f_get1 C 2 (v := .ref (B.1 + 42)) (by decide) tw_170 rfl zk_33 zb_33 rfl dX1_copyFrom_65 ?_
  refine f_alen25 C (v := 6) zk_42 zb_42 rfl dX1_copyFrom_68 ?_
  refine z_icmp_ge C 93 dX1_copyFrom_69 (by decide) (fun hbr => absurd hbr (by decide)) (fun _ => ?_)
  refine z_aload_n C dX1_copyFrom_72 1 rfl rfl ?_
  refine f_get1 C 2 (v := .ref (B.1 + 17)) (by decide) tw_170 rfl zk_8 zb_8 rfl dX1_copyFrom_73 ?_
  refine z_iload_n C dX1_copyFrom_76 0 rfl rfl ?_
  refine f_aaldL25 C zk_17 zb_17 (by unfold vp_in; decide) (r := 20) (by decide) dX1_copyFrom_77 ?_
  refine z_aload_n C dX1_copyFrom_78 2 rfl rfl ?_
  refine f_get1 C 2 (v := .ref (B.1 + 42)) (by decide) tw_170 rfl zk_33 zb_33 rfl dX1_copyFrom_79 ?_
  refine z_iload_n C dX1_copyFrom_82 0 rfl rfl ?_
  refine f_aaldL25 C zk_42 zb_42 (by unfold vp_in; decide) (r := 45) (by decide) dX1_copyFrom_83 ?_
  refine f_callVv C hl (As := [.ref (B.1 + 45)]) (rest := []) (c_X4_copyFrom l B (zcp (zcp (zcp (zcp (zcp (zcp (zcp (zcp (zcp s 9 34 6) 11 36 4) 12 37 4) 13 38 4) 14 39 4) 15 40 4) 16 41 4) 18 43 4) 19 44 4) t 20 45 zk_20 zb_20 zk_45 zb_45) zb_20 (zg_4 zk_20) rfl (zCB (nA := 1) C rfl rfl tw_453 tw_11 tw_450 (by decide +kernel) ⟨Nat.le_of_ble_eq_true rfl, Nat.le_of_ble_eq_true rfl⟩) tw_451 tw_452 rfl rfl (Nat.le_of_ble_eq_true rfl) dX1_copyFrom_84 (Nat.zero_le _) ?_
  refine z_iinc C [(2, .int 3), (0, .ref (B.1 + 8)), (1, .ref (B.1 + 33))] dX1_copyFrom_87 0 rfl (by decide) (by decide) rfl ?_
  refine z_goto C 54 dX1_copyFrom_90 (by decide) ?_
  refine z_iload_n C dX1_copyFrom_54 0 rfl rfl ?_
  refine z_aload_n C dX1_copyFrom_55 1 rfl rfl ?_
  refine f_get1 C 2 (v := .ref (B.1 + 17)) (by decide) tw_170 rfl zk_8 zb_8 rfl dX1_copyFrom_56 ?_
  refine f_alen25 C (v := 6) zk_17 zb_17 rfl dX1_copyFrom_59 ?_
  refine z_icmp_ge C 93 dX1_copyFrom_60 (by decide) (fun hbr => absurd hbr (by decide)) (fun _ => ?_)
  refine z_iload_n C dX1_copyFrom_63 0 rfl rfl ?_
  refine z_aload_n C dX1_copyFrom_64 2 rfl rfl ?_
  refine f_get1 C 2 (v := .ref (B.1 + 42)) (by decide) tw_170 rfl zk_33 zb_33 rfl dX1_copyFrom_65 ?_
  refine f_alen25 C (v := 6) zk_42 zb_42 rfl dX1_copyFrom_68 ?_
  refine z_icmp_ge C 93 dX1_copyFrom_69 (by decide) (fun hbr => absurd hbr (by decide)) (fun _ => ?_)
  refine z_aload_n C dX1_copyFrom_72 1 rfl rfl ?_
  refine f_get1 C 2 (v := .ref (B.1 + 17)) (by decide) tw_170 rfl zk_8 zb_8 rfl dX1_copyFrom_73 ?_
  refine z_iload_n C dX1_copyFrom_76 0 rfl rfl ?_
  refine f_aaldL25 C zk_17 zb_17 (by unfold vp_in; decide) (r := 21) (by decide) dX1_copyFrom_77 ?_
  refine z_aload_n C dX1_copyFrom_78 2 rfl rfl ?_
  refine f_get1 C 2 (v := .ref (B.1 + 42)) (by decide) tw_170 rfl zk_33 zb_33 rfl dX1_copyFrom_79 ?_
  refine z_iload_n C dX1_copyFrom_82 0 rfl rfl ?_
  refine f_aaldL25 C zk_42 zb_42 (by unfold vp_in; decide) (r := 46) (by decide) dX1_copyFrom_83 ?_
  refine f_callVv C hl (As := [.ref (B.1 + 46)]) (rest := []) (c_X4_copyFrom l B (zcp (zcp (zcp (zcp (zcp (zcp (zcp (zcp (zcp (zcp s 9 34 6) 11 36 4) 12 37 4) 13 38 4) 14 39 4) 15 40 4) 16 41 4) 18 43 4) 19 44 4) 20 45 4) t 21 46 zk_21 zb_21 zk_46 zb_46) zb_21 (zg_4 zk_21) rfl (zCB (nA := 1) C rfl rfl tw_453 tw_11 tw_450 (by decide +kernel) ⟨Nat.le_of_ble_eq_true rfl, Nat.le_of_ble_eq_true rfl⟩) tw_451 tw_452 rfl rfl (Nat.le_of_ble_eq_true rfl) dX1_copyFrom_84 (Nat.zero_le _) ?_
  refine z_iinc C [(2, .int 4), (0, .ref (B.1 + 8)), (1, .ref (B.1 + 33))] dX1_copyFrom_87 0 rfl (by decide) (by decide) rfl ?_
  refine z_goto C 54 dX1_copyFrom_90 (by decide) ?_
  refine z_iload_n C dX1_copyFrom_54 0 rfl rfl ?_
  refine z_aload_n C dX1_copyFrom_55 1 rfl rfl ?_
  refine f_get1 C 2 (v := .ref (B.1 + 17)) (by decide) tw_170 rfl zk_8 zb_8 rfl dX1_copyFrom_56 ?_
  refine f_alen25 C (v := 6) zk_17 zb_17 rfl dX1_copyFrom_59 ?_
  refine z_icmp_ge C 93 dX1_copyFrom_60 (by decide) (fun hbr => absurd hbr (by decide)) (fun _ => ?_)
  refine z_iload_n C dX1_copyFrom_63 0 rfl rfl ?_
  refine z_aload_n C dX1_copyFrom_64 2 rfl rfl ?_
  refine f_get1 C 2 (v := .ref (B.1 + 42)) (by decide) tw_170 rfl zk_33 zb_33 rfl dX1_copyFrom_65 ?_
  refine f_alen25 C (v := 6) zk_42 zb_42 rfl dX1_copyFrom_68 ?_
  refine z_icmp_ge C 93 dX1_copyFrom_69 (by decide) (fun hbr => absurd hbr (by decide)) (fun _ => ?_)
  refine z_aload_n C dX1_copyFrom_72 1 rfl rfl ?_
  refine f_get1 C 2 (v := .ref (B.1 + 17)) (by decide) tw_170 rfl zk_8 zb_8 rfl dX1_copyFrom_73 ?_
  refine z_iload_n C dX1_copyFrom_76 0 rfl rfl ?_
  refine f_aaldL25 C zk_17 zb_17 (by unfold vp_in; decide) (r := 22) (by decide) dX1_copyFrom_77 ?_
  refine z_aload_n C dX1_copyFrom_78 2 rfl rfl ?_
  refine f_get1 C 2 (v := .ref (B.1 + 42)) (by decide) tw_170 rfl zk_33 zb_33 rfl dX1_copyFrom_79 ?_
  refine z_iload_n C dX1_copyFrom_82 0 rfl rfl ?_
  refine f_aaldL25 C zk_42 zb_42 (by unfold vp_in; decide) (r := 47) (by decide) dX1_copyFrom_83 ?_
  refine f_callVv C hl (As := [.ref (B.1 + 47)]) (rest := []) (c_X4_copyFrom l B (zcp (zcp (zcp (zcp (zcp (zcp (zcp (zcp (zcp (zcp (zcp s 9 34 6) 11 36 4) 12 37 4) 13 38 4) 14 39 4) 15 40 4) 16 41 4) 18 43 4) 19 44 4) 20 45 4) 21 46 4) t 22 47 zk_22 zb_22 zk_47 zb_47) zb_22 (zg_4 zk_22) rfl (zCB (nA := 1) C rfl rfl tw_453 tw_11 tw_450 (by decide +kernel) ⟨Nat.le_of_ble_eq_true rfl, Nat.le_of_ble_eq_true rfl⟩) tw_451 tw_452 rfl rfl (Nat.le_of_ble_eq_true rfl) dX1_copyFrom_84 (Nat.zero_le _) ?_
  refine z_iinc C [(2, .int 5), (0, .ref (B.1 + 8)), (1, .ref (B.1 + 33))] dX1_copyFrom_87 0 rfl (by decide) (by decide) rfl ?_
  refine z_goto C 54 dX1_copyFrom_90 (by decide) ?_
  refine z_iload_n C dX1_copyFrom_54 0 rfl rfl ?_
  refine z_aload_n C dX1_copyFrom_55 1 rfl rfl ?_
  refine f_get1 C 2 (v := .ref (B.1 + 17)) (by decide) tw_170 rfl zk_8 zb_8 rfl dX1_copyFrom_56 ?_
  refine f_alen25 C (v := 6) zk_17 zb_17 rfl dX1_copyFrom_59 ?_
  refine z_icmp_ge C 93 dX1_copyFrom_60 (by decide) (fun hbr => absurd hbr (by decide)) (fun _ => ?_)
  refine z_iload_n C dX1_copyFrom_63 0 rfl rfl ?_
  refine z_aload_n C dX1_copyFrom_64 2 rfl rfl ?_
  refine f_get1 C 2 (v := .ref (B.1 + 42)) (by decide) tw_170 rfl zk_33 zb_33 rfl dX1_copyFrom_65 ?_
  refine f_alen25 C (v := 6) zk_42 zb_42 rfl dX1_copyFrom_68 ?_
  refine z_icmp_ge C 93 dX1_copyFrom_69 (by decide) (fun hbr => absurd hbr (by decide)) (fun _ => ?_)
  refine z_aload_n C dX1_copyFrom_72 1 rfl rfl ?_
  refine f_get1 C 2 (v := .ref (B.1 + 17)) (by decide) tw_170 rfl zk_8 zb_8 rfl dX1_copyFrom_73 ?_
  refine z_iload_n C dX1_copyFrom_76 0 rfl rfl ?_
  refine f_aaldL25 C zk_17 zb_17 (by unfold vp_in; decide) (r := 23) (by decide) dX1_copyFrom_77 ?_
  refine z_aload_n C dX1_copyFrom_78 2 rfl rfl ?_
  refine f_get1 C 2 (v := .ref (B.1 + 42)) (by decide) tw_170 rfl zk_33 zb_33 rfl dX1_copyFrom_79 ?_
  refine z_iload_n C dX1_copyFrom_82 0 rfl rfl ?_
  refine f_aaldL25 C zk_42 zb_42 (by unfold vp_in; decide) (r := 48) (by decide) dX1_copyFrom_83 ?_
  refine f_callVv C hl (As := [.ref (B.1 + 48)]) (rest := []) (c_X4_copyFrom l B (zcp (zcp (zcp (zcp (zcp (zcp (zcp (zcp (zcp (zcp (zcp (zcp s 9 34 6) 11 36 4) 12 37 4) 13 38 4) 14 39 4) 15 40 4) 16 41 4) 18 43 4) 19 44 4) 20 45 4) 21 46 4) 22 47 4) t 23 48 zk_23 zb_23 zk_48 zb_48) zb_23 (zg_4 zk_23) rfl (zCB (nA := 1) C rfl rfl tw_453 tw_11 tw_450 (by decide +kernel) ⟨Nat.le_of_ble_eq_true rfl, Nat.le_of_ble_eq_true rfl⟩) tw_451 tw_452 rfl rfl (Nat.le_of_ble_eq_true rfl) dX1_copyFrom_84 (Nat.zero_le _) ?_
  refine z_iinc C [(2, .int 6), (0, .ref (B.1 + 8)), (1, .ref (B.1 + 33))] dX1_copyFrom_87 0 rfl (by decide) (by decide) rfl ?_
  refine z_goto C 54 dX1_copyFrom_90 (by decide) ?_
  refine z_iload_n C dX1_copyFrom_54 0 rfl rfl ?_
  refine z_aload_n C dX1_copyFrom_55 1 rfl rfl ?_
  refine f_get1 C 2 (v := .ref (B.1 + 17)) (by decide) tw_170 rfl zk_8 zb_8 rfl dX1_copyFrom_56 ?_
  refine f_alen25 C (v := 6) zk_17 zb_17 rfl dX1_copyFrom_59 ?_
  refine z_icmp_ge C 93 dX1_copyFrom_60 (by decide) (fun _ => ?_) (fun hbr => absurd (by decide) hbr)
  refine z_iconst C dX1_copyFrom_93 ki_0 ?_
  refine z_istore_n C [(2, .int 0), (0, .ref (B.1 + 8)), (1, .ref (B.1 + 33))] dX1_copyFrom_94 rfl (by decide) rfl ?_
  refine z_iload_n C dX1_copyFrom_95 0 rfl rfl ?_
  refine z_aload_n C dX1_copyFrom_96 1 rfl rfl ?_
  refine f_get1 C 3 (v := .ref (B.1 + 24)) (by decide) tw_171 rfl zk_8 zb_8 rfl dX1_copyFrom_97 ?_
  refine f_alen27 C (v := 8) zk_24 zb_24 rfl dX1_copyFrom_100 ?_
  refine z_icmp_ge C 134 dX1_copyFrom_101 (by decide) (fun hbr => absurd hbr (by decide)) (fun _ => ?_)
  refine z_iload_n C dX1_copyFrom_104 0 rfl rfl ?_
  refine z_aload_n C dX1_copyFrom_105 2 rfl rfl ?_
  refine f_get1 C 3 (v := .ref (B.1 + 49)) (by decide) tw_171 rfl zk_33 zb_33 rfl dX1_copyFrom_106 ?_
  refine f_alen27 C (v := 8) zk_49 zb_49 rfl dX1_copyFrom_109 ?_
  refine z_icmp_ge C 134 dX1_copyFrom_110 (by decide) (fun hbr => absurd hbr (by decide)) (fun _ => ?_)
  refine z_aload_n C dX1_copyFrom_113 1 rfl rfl ?_
  refine f_get1 C 3 (v := .ref (B.1 + 24)) (by decide) tw_171 rfl zk_8 zb_8 rfl dX1_copyFrom_114 ?_
  refine z_iload_n C dX1_copyFrom_117 0 rfl rfl ?_
  refine f_aaldL27 C zk_24 zb_24 (by unfold vp_in; decide) (r := 25) (by decide) dX1_copyFrom_118 ?_
  refine z_aload_n C dX1_copyFrom_119 2 rfl rfl ?_
  refine f_get1 C 3 (v := .ref (B.1 + 49)) (by decide) tw_171 rfl zk_33 zb_33 rfl dX1_copyFrom_120 ?_
  refine z_iload_n C dX1_copyFrom_123 0 rfl rfl ?_
  refine f_aaldL27 C zk_49 zb_49 (by unfold vp_in; decide) (r := 50) (by decide) dX1_copyFrom_124 ?_
  refine f_callVv C hl (As := [.ref (B.1 + 50)]) (rest := []) (c_X8_copyFrom l B (zcp (zcp (zcp (zcp (zcp (zcp (zcp (zcp (zcp (zcp (zcp (zcp (zcp s 9 34 6) 11 36 4) 12 37 4) 13 38 4) 14 39 4) 15 40 4) 16 41 4) 18 43 4) 19 44 4) 20 45 4) 21 46 4) 22 47 4) 23 48 4) t 25 50 zk_25 zb_25 zk_50 zb_50) zb_25 (zg_8 zk_25) rfl (zCB (nA := 1) C rfl rfl tw_445 tw_9 tw_442 (by decide +kernel) ⟨Nat.le_of_ble_eq_true rfl, Nat.le_of_ble_eq_true rfl⟩) tw_443 tw_444 rfl rfl (Nat.le_of_ble_eq_true rfl) dX1_copyFrom_125 (Nat.zero_le _) ?_
  refine z_iinc C [(2, .int 1), (0, .ref (B.1 + 8)), (1, .ref (B.1 + 33))] dX1_copyFrom_128 0 rfl (by decide) (by decide) rfl ?_
  refine z_goto C 95 dX1_copyFrom_131 (by decide) ?_
  refine z_iload_n C dX1_copyFrom_95 0 rfl rfl ?_
  refine z_aload_n C dX1_copyFrom_96 1 rfl rfl ?_
  refine f_get1 C 3 (v := .ref (B.1 + 24)) (by decide) tw_171 rfl zk_8 zb_8 rfl dX1_copyFrom_97 ?_
  refine f_alen27 C (v := 8) zk_24 zb_24 rfl dX1_copyFrom_100 ?_
  refine z_icmp_ge C 134 dX1_copyFrom_101 (by decide) (fun hbr => absurd hbr (by decide)) (fun _ => ?_)
  refine z_iload_n C dX1_copyFrom_104 0 rfl rfl ?_
  refine z_aload_n C dX1_copyFrom_105 2 rfl rfl ?_
  refine f_get1 C 3 (v := .ref (B.1 + 49)) (by decide) tw_171 rfl zk_33 zb_33 rfl dX1_copyFrom_106 ?_
  refine f_alen27 C (v := 8) zk_49 zb_49 rfl dX1_copyFrom_109 ?_
  refine z_icmp_ge C 134 dX1_copyFrom_110 (by decide) (fun hbr => absurd hbr (by decide)) (fun _ => ?_)
  refine z_aload_n C dX1_copyFrom_113 1 rfl rfl ?_
  refine f_get1 C 3 (v := .ref (B.1 + 24)) (by decide) tw_171 rfl zk_8 zb_8 rfl dX1_copyFrom_114 ?_
  refine z_iload_n C dX1_copyFrom_117 0 rfl rfl ?_
  refine f_aaldL27 C zk_24 zb_24 (by unfold vp_in; decide) (r := 26) (by decide) dX1_copyFrom_118 ?_
  refine z_aload_n C dX1_copyFrom_119 2 rfl rfl ?_
  refine f_get1 C 3 (v := .ref (B.1 + 49)) (by decide) tw_171 rfl zk_33 zb_33 rfl dX1_copyFrom_120 ?_
  refine z_iload_n C dX1_copyFrom_123 0 rfl rfl ?_
  refine f_aaldL27 C zk_49 zb_49 (by unfold vp_in; decide) (r := 51) (by decide) dX1_copyFrom_124 ?_
  refine f_callVv C hl (As := [.ref (B.1 + 51)]) (rest := []) (c_X8_copyFrom l B (zcp (zcp (zcp (zcp (zcp (zcp (zcp (zcp (zcp (zcp (zcp (zcp (zcp (zcp s 9 34 6) 11 36 4) 12 37 4) 13 38 4) 14 39 4) 15 40 4) 16 41 4) 18 43 4) 19 44 4) 20 45 4) 21 46 4) 22 47 4) 23 48 4) 25 50 6) t 26 51 zk_26 zb_26 zk_51 zb_51) zb_26 (zg_8 zk_26) rfl (zCB (nA := 1) C rfl rfl tw_445 tw_9 tw_442 (by decide +kernel) ⟨Nat.le_of_ble_eq_true rfl, Nat.le_of_ble_eq_true rfl⟩) tw_443 tw_444 rfl rfl (Nat.le_of_ble_eq_true rfl) dX1_copyFrom_125 (Nat.zero_le _) ?_
  refine z_iinc C [(2, .int 2), (0, .ref (B.1 + 8)), (1, .ref (B.1 + 33))] dX1_copyFrom_128 0 rfl (by decide) (by decide) rfl ?_
  refine z_goto C 95 dX1_copyFrom_131 (by decide) ?_
  refine z_iload_n C dX1_copyFrom_95 0 rfl rfl ?_
  refine z_aload_n C dX1_copyFrom_96 1 rfl rfl ?_
  refine f_get1 C 3 (v := .ref (B.1 + 24)) (by decide) tw_171 rfl zk_8 zb_8 rfl dX1_copyFrom_97 ?_
  refine f_alen27 C (v := 8) zk_24 zb_24 rfl dX1_copyFrom_100 ?_
  refine z_icmp_ge C 134 dX1_copyFrom_101 (by decide) (fun hbr => absurd hbr (by decide)) (fun _ => ?_)
  refine z_iload_n C dX1_copyFrom_104 0 rfl rfl ?_
  refine z_aload_n C dX1_copyFrom_105 2 rfl rfl ?_
  refine f_get1 C 3 (v := .ref (B.1 + 49)) (by decide) tw_171 rfl zk_33 zb_33 rfl dX1_copyFrom_106 ?_
  refine f_alen27 C (v := 8) zk_49 zb_49 rfl dX1_copyFrom_109 ?_
  refine z_icmp_ge C 134 dX1_copyFrom_110 (by decide) (fun hbr => absurd hbr (by decide)) (fun _ => ?_)
  refine z_aload_n C dX1_copyFrom_113 1 rfl rfl ?_
  refine f_get1 C 3 (v := .ref (B.1 + 24)) (by decide) tw_171 rfl zk_8 zb_8 rfl dX1_copyFrom_114 ?_
  refine z_iload_n C dX1_copyFrom_117 0 rfl rfl ?_
  refine f_aaldL27 C zk_24 zb_24 (by unfold vp_in; decide) (r := 27) (by decide) dX1_copyFrom_118 ?_
  refine z_aload_n C dX1_copyFrom_119 2 rfl rfl ?_
  refine f_get1 C 3 (v := .ref (B.1 + 49)) (by decide) tw_171 rfl zk_33 zb_33 rfl dX1_copyFrom_120 ?_
  refine z_iload_n C dX1_copyFrom_123 0 rfl rfl ?_
  refine f_aaldL27 C zk_49 zb_49 (by unfold vp_in; decide) (r := 52) (by decide) dX1_copyFrom_124 ?_
  refine f_callVv C hl (As := [.ref (B.1 + 52)]) (rest := []) (c_X8_copyFrom l B (zcp (zcp (zcp (zcp (zcp (zcp (zcp (zcp (zcp (zcp (zcp (zcp (zcp (zcp (zcp s 9 34 6) 11 36 4) 12 37 4) 13 38 4) 14 39 4) 15 40 4) 16 41 4) 18 43 4) 19 44 4) 20 45 4) 21 46 4) 22 47 4) 23 48 4) 25 50 6) 26 51 6) t 27 52 zk_27 zb_27 zk_52 zb_52) zb_27 (zg_8 zk_27) rfl (zCB (nA := 1) C rfl rfl tw_445 tw_9 tw_442 (by decide +kernel) ⟨Nat.le_of_ble_eq_true rfl, Nat.le_of_ble_eq_true rfl⟩) tw_443 tw_444 rfl rfl (Nat.le_of_ble_eq_true rfl) dX1_copyFrom_125 (Nat.zero_le _) ?_
  refine z_iinc C [(2, .int 3), (0, .ref (B.1 + 8)), (1, .ref (B.1 + 33))] dX1_copyFrom_128 0 rfl (by decide) (by decide) rfl ?_
  refine z_goto C 95 dX1_copyFrom_131 (by decide) ?_
  refine z_iload_n C dX1_copyFrom_95 0 rfl rfl ?_
  refine z_aload_n C dX1_copyFrom_96 1 rfl rfl ?_
  refine f_get1 C 3 (v := .ref (B.1 + 24)) (by decide) tw_171 rfl zk_8 zb_8 rfl dX1_copyFrom_97 ?_
  refine f_alen27 C (v := 8) zk_24 zb_24 rfl dX1_copyFrom_100 ?_
  refine z_icmp_ge C 134 dX1_copyFrom_101 (by decide) (fun hbr => absurd hbr (by decide)) (fun _ => ?_)
  refine z_iload_n C dX1_copyFrom_104 0 rfl rfl ?_
  refine z_aload_n C dX1_copyFrom_105 2 rfl rfl ?_
  refine f_get1 C 3 (v := .ref (B.1 + 49)) (by decide) tw_171 rfl zk_33 zb_33 rfl dX1_copyFrom_106 ?_
  refine f_alen27 C (v := 8) zk_49 zb_49 rfl dX1_copyFrom_109 ?_
  refine z_icmp_ge C 134 dX1_copyFrom_110 (by decide) (fun hbr => absurd hbr (by decide)) (fun _ => ?_)
  refine z_aload_n C dX1_copyFrom_113 1 rfl rfl ?_
  refine f_get1 C 3 (v := .ref (B.1 + 24)) (by decide) tw_171 rfl zk_8 zb_8 rfl dX1_copyFrom_114 ?_
  refine z_iload_n C dX1_copyFrom_117 0 rfl rfl ?_
  refine f_aaldL27 C zk_24 zb_24 (by unfold vp_in; decide) (r := 28) (by decide) dX1_copyFrom_118 ?_
  refine z_aload_n C dX1_copyFrom_119 2 rfl rfl ?_
  refine f_get1 C 3 (v := .ref (B.1 + 49)) (by decide) tw_171 rfl zk_33 zb_33 rfl dX1_copyFrom_120 ?_
  refine z_iload_n C dX1_copyFrom_123 0 rfl rfl ?_
  refine f_aaldL27 C zk_49 zb_49 (by unfold vp_in; decide) (r := 53) (by decide) dX1_copyFrom_124 ?_
  refine f_callVv C hl (As := [.ref (B.1 + 53)]) (rest := []) (c_X8_copyFrom l B (zcp (zcp (zcp (zcp (zcp (zcp (zcp (zcp (zcp (zcp (zcp (zcp (zcp (zcp (zcp (zcp s 9 34 6) 11 36 4) 12 37 4) 13 38 4) 14 39 4) 15 40 4) 16 41 4) 18 43 4) 19 44 4) 20 45 4) 21 46 4) 22 47 4) 23 48 4) 25 50 6) 26 51 6) 27 52 6) t 28 53 zk_28 zb_28 zk_53 zb_53) zb_28 (zg_8 zk_28) rfl (zCB (nA := 1) C rfl rfl tw_445 tw_9 tw_442 (by decide +kernel) ⟨Nat.le_of_ble_eq_true rfl, Nat.le_of_ble_eq_true rfl⟩) tw_443 tw_444 rfl rfl (Nat.le_of_ble_eq_true rfl) dX1_copyFrom_125 (Nat.zero_le _) ?_
  refine z_iinc C [(2, .int 4), (0, .ref (B.1 + 8)), (1, .ref (B.1 + 33))] dX1_copyFrom_128 0 rfl (by decide) (by decide) rfl ?_
  refine z_goto C 95 dX1_copyFrom_131 (by decide) ?_
  refine z_iload_n C dX1_copyFrom_95 0 rfl rfl ?_
  refine z_aload_n C dX1_copyFrom_96 1 rfl rfl ?_
  refine f_get1 C 3 (v := .ref (B.1 + 24)) (by decide) tw_171 rfl zk_8 zb_8 rfl dX1_copyFrom_97 ?_
  refine f_alen27 C (v := 8) zk_24 zb_24 rfl dX1_copyFrom_100 ?_
  refine z_icmp_ge C 134 dX1_copyFrom_101 (by decide) (fun hbr => absurd hbr (by decide)) (fun _ => ?_)
  refine z_iload_n C dX1_copyFrom_104 0 rfl rfl ?_
  refine z_aload_n C dX1_copyFrom_105 2 rfl rfl ?_
  refine f_get1 C 3 (v := .ref (B.1 + 49)) (by decide) tw_171 rfl zk_33 zb_33 rfl dX1_copyFrom_106 ?_
  refine f_alen27 C (v := 8) zk_49 zb_49 rfl dX1_copyFrom_109 ?_
  refine z_icmp_ge C 134 dX1_copyFrom_110 (by decide) (fun hbr => absurd hbr (by decide)) (fun _ => ?_)
  refine z_aload_n C dX1_copyFrom_113 1 rfl rfl ?_
  refine f_get1 C 3 (v := .ref (B.1 + 24)) (by decide) tw_171 rfl zk_8 zb_8 rfl dX1_copyFrom_114 ?_
  refine z_iload_n C dX1_copyFrom_117 0 rfl rfl ?_
  refine f_aaldL27 C zk_24 zb_24 (by unfold vp_in; decide) (r := 29) (by decide) dX1_copyFrom_118 ?_
  refine z_aload_n C dX1_copyFrom_119 2 rfl rfl ?_
  refine f_get1 C 3 (v := .ref (B.1 + 49)) (by decide) tw_171 rfl zk_33 zb_33 rfl dX1_copyFrom_120 ?_
  refine z_iload_n C dX1_copyFrom_123 0 rfl rfl ?_
  refine f_aaldL27 C zk_49 zb_49 (by unfold vp_in; decide) (r := 54) (by decide) dX1_copyFrom_124 ?_
  refine f_callVv C hl (As := [.ref (B.1 + 54)]) (rest := []) (c_X8_copyFrom l B (zcp (zcp (zcp (zcp (zcp (zcp (zcp (zcp (zcp (zcp (zcp (zcp (zcp (zcp (zcp (zcp (zcp s 9 34 6) 11 36 4) 12 37 4) 13 38 4) 14 39 4) 15 40 4) 16 41 4) 18 43 4) 19 44 4) 20 45 4) 21 46 4) 22 47 4) 23 48 4) 25 50 6) 26 51 6) 27 52 6) 28 53 6) t 29 54 zk_29 zb_29 zk_54 zb_54) zb_29 (zg_8 zk_29) rfl (zCB (nA := 1) C rfl rfl tw_445 tw_9 tw_442 (by decide +kernel) ⟨Nat.le_of_ble_eq_true rfl, Nat.le_of_ble_eq_true rfl⟩) tw_443 tw_444 rfl rfl (Nat.le_of_ble_eq_true rfl) dX1_copyFrom_125 (Nat.zero_le _) ?_
  refine z_iinc C [(2, .int 5), (0, .ref (B.1 + 8)), (1, .ref (B.1 + 33))] dX1_copyFrom_128 0 rfl (by decide) (by decide) rfl ?_
  refine z_goto C 95 dX1_copyFrom_131 (by decide) ?_
  refine z_iload_n C dX1_copyFrom_95 0 rfl rfl ?_
  refine z_aload_n C dX1_copyFrom_96 1 rfl rfl ?_
  refine f_get1 C 3 (v := .ref (B.1 + 24)) (by decide) tw_171 rfl zk_8 zb_8 rfl dX1_copyFrom_97 ?_
  refine f_alen27 C (v := 8) zk_24 zb_24 rfl dX1_copyFrom_100 ?_
  refine z_icmp_ge C 134 dX1_copyFrom_101 (by decide) (fun hbr => absurd hbr (by decide)) (fun _ => ?_)
  refine z_iload_n C dX1_copyFrom_104 0 rfl rfl ?_
  refine z_aload_n C dX1_copyFrom_105 2 rfl rfl ?_
  refine f_get1 C 3 (v := .ref (B.1 + 49)) (by decide) tw_171 rfl zk_33 zb_33 rfl dX1_copyFrom_106 ?_
  refine f_alen27 C (v := 8) zk_49 zb_49 rfl dX1_copyFrom_109 ?_
  refine z_icmp_ge C 134 dX1_copyFrom_110 (by decide) (fun hbr => absurd hbr (by decide)) (fun _ => ?_)
  refine z_aload_n C dX1_copyFrom_113 1 rfl rfl ?_
  refine f_get1 C 3 (v := .ref (B.1 + 24)) (by decide) tw_171 rfl zk_8 zb_8 rfl dX1_copyFrom_114 ?_
  refine z_iload_n C dX1_copyFrom_117 0 rfl rfl ?_
  refine f_aaldL27 C zk_24 zb_24 (by unfold vp_in; decide) (r := 30) (by decide) dX1_copyFrom_118 ?_
  refine z_aload_n C dX1_copyFrom_119 2 rfl rfl ?_
  refine f_get1 C 3 (v := .ref (B.1 + 49)) (by decide) tw_171 rfl zk_33 zb_33 rfl dX1_copyFrom_120 ?_
  refine z_iload_n C dX1_copyFrom_123 0 rfl rfl ?_
  refine f_aaldL27 C zk_49 zb_49 (by unfold vp_in; decide) (r := 55) (by decide) dX1_copyFrom_124 ?_
  refine f_callVv C hl (As := [.ref (B.1 + 55)]) (rest := []) (c_X8_copyFrom l B (zcp (zcp (zcp (zcp (zcp (zcp (zcp (zcp (zcp (zcp (zcp (zcp (zcp (zcp (zcp (zcp (zcp (zcp s 9 34 6) 11 36 4) 12 37 4) 13 38 4) 14 39 4) 15 40 4) 16 41 4) 18 43 4) 19 44 4) 20 45 4) 21 46 4) 22 47 4) 23 48 4) 25 50 6) 26 51 6) 27 52 6) 28 53 6) 29 54 6) t 30 55 zk_30 zb_30 zk_55 zb_55) zb_30 (zg_8 zk_30) rfl (zCB (nA := 1) C rfl rfl tw_445 tw_9 tw_442 (by decide +kernel) ⟨Nat.le_of_ble_eq_true rfl, Nat.le_of_ble_eq_true rfl⟩) tw_443 tw_444 rfl rfl (Nat.le_of_ble_eq_true rfl) dX1_copyFrom_125 (Nat.zero_le _) ?_
  refine z_iinc C [(2, .int 6), (0, .ref (B.1 + 8)), (1, .ref (B.1 + 33))] dX1_copyFrom_128 0 rfl (by decide) (by decide) rfl ?_
  refine z_goto C 95 dX1_copyFrom_131 (by decide) ?_
  refine z_iload_n C dX1_copyFrom_95 0 rfl rfl ?_
  refine z_aload_n C dX1_copyFrom_96 1 rfl rfl ?_
  refine f_get1 C 3 (v := .ref (B.1 + 24)) (by decide) tw_171 rfl zk_8 zb_8 rfl dX1_copyFrom_97 ?_
  refine f_alen27 C (v := 8) zk_24 zb_24 rfl dX1_copyFrom_100 ?_
  refine z_icmp_ge C 134 dX1_copyFrom_101 (by decide) (fun hbr => absurd hbr (by decide)) (fun _ => ?_)
  refine z_iload_n C dX1_copyFrom_104 0 rfl rfl ?_
  refine z_aload_n C dX1_copyFrom_105 2 rfl rfl ?_
  refine f_get1 C 3 (v := .ref (B.1 + 49)) (by decide) tw_171 rfl zk_33 zb_33 rfl dX1_copyFrom_106 ?_
  refine f_alen27 C (v := 8) zk_49 zb_49 rfl dX1_copyFrom_109 ?_
  refine z_icmp_ge C 134 dX1_copyFrom_110 (by decide) (fun hbr => absurd hbr (by decide)) (fun _ => ?_)
  refine z_aload_n C dX1_copyFrom_113 1 rfl rfl ?_
  refine f_get1 C 3 (v := .ref (B.1 + 24)) (by decide) tw_171 rfl zk_8 zb_8 rfl dX1_copyFrom_114 ?_
  refine z_iload_n C dX1_copyFrom_117 0 rfl rfl ?_
  refine f_aaldL27 C zk_24 zb_24 (by unfold vp_in; decide) (r := 31) (by decide) dX1_copyFrom_118 ?_
  refine z_aload_n C dX1_copyFrom_119 2 rfl rfl ?_
  refine f_get1 C 3 (v := .ref (B.1 + 49)) (by decide) tw_171 rfl zk_33 zb_33 rfl dX1_copyFrom_120 ?_
  refine z_iload_n C dX1_copyFrom_123 0 rfl rfl ?_
  refine f_aaldL27 C zk_49 zb_49 (by unfold vp_in; decide) (r := 56) (by decide) dX1_copyFrom_124 ?_
  refine f_callVv C hl (As := [.ref (B.1 + 56)]) (rest := []) (c_X8_copyFrom l B (zcp (zcp (zcp (zcp (zcp (zcp (zcp (zcp (zcp (zcp (zcp (zcp (zcp (zcp (zcp (zcp (zcp (zcp (zcp s 9 34 6) 11 36 4) 12 37 4) 13 38 4) 14 39 4) 15 40 4) 16 41 4) 18 43 4) 19 44 4) 20 45 4) 21 46 4) 22 47 4) 23 48 4) 25 50 6) 26 51 6) 27 52 6) 28 53 6) 29 54 6) 30 55 6) t 31 56 zk_31 zb_31 zk_56 zb_56) zb_31 (zg_8 zk_31) rfl (zCB (nA := 1) C rfl rfl tw_445 tw_9 tw_442 (by decide +kernel) ⟨Nat.le_of_ble_eq_true rfl, Nat.le_of_ble_eq_true rfl⟩) tw_443 tw_444 rfl rfl (Nat.le_of_ble_eq_true rfl) dX1_copyFrom_125 (Nat.zero_le _) ?_
  refine z_iinc C [(2, .int 7), (0, .ref (B.1 + 8)), (1, .ref (B.1 + 33))] dX1_copyFrom_128 0 rfl (by decide) (by decide) rfl ?_
  refine z_goto C 95 dX1_copyFrom_131 (by decide) ?_
  refine z_iload_n C dX1_copyFrom_95 0 rfl rfl ?_
  refine z_aload_n C dX1_copyFrom_96 1 rfl rfl ?_
  refine f_get1 C 3 (v := .ref (B.1 + 24)) (by decide) tw_171 rfl zk_8 zb_8 rfl dX1_copyFrom_97 ?_
  refine f_alen27 C (v := 8) zk_24 zb_24 rfl dX1_copyFrom_100 ?_
  refine z_icmp_ge C 134 dX1_copyFrom_101 (by decide) (fun hbr => absurd hbr (by decide)) (fun _ => ?_)
  refine z_iload_n C dX1_copyFrom_104 0 rfl rfl ?_
  refine z_aload_n C dX1_copyFrom_105 2 rfl rfl ?_
  refine f_get1 C 3 (v := .ref (B.1 + 49)) (by decide) tw_171 rfl zk_33 zb_33 rfl dX1_copyFrom_106 ?_
  refine f_alen27 C (v := 8) zk_49 zb_49 rfl dX1_copyFrom_109 ?_
  refine z_icmp_ge C 134 dX1_copyFrom_110 (by decide) (fun hbr => absurd hbr (by decide)) (fun _ => ?_)
  refine z_aload_n C dX1_copyFrom_113 1 rfl rfl ?_
  refine f_get1 C 3 (v := .ref (B.1 + 24)) (by decide) tw_171 rfl zk_8 zb_8 rfl dX1_copyFrom_114 ?_
  refine z_iload_n C dX1_copyFrom_117 0 rfl rfl ?_
  refine f_aaldL27 C zk_24 zb_24 (by unfold vp_in; decide) (r := 32) (by decide) dX1_copyFrom_118 ?_
  refine z_aload_n C dX1_copyFrom_119 2 rfl rfl ?_
  refine f_get1 C 3 (v := .ref (B.1 + 49)) (by decide) tw_171 rfl zk_33 zb_33 rfl dX1_copyFrom_120 ?_
  refine z_iload_n C dX1_copyFrom_123 0 rfl rfl ?_
  refine f_aaldL27 C zk_49 zb_49 (by unfold vp_in; decide) (r := 57) (by decide) dX1_copyFrom_124 ?_
  refine f_callVv C hl (As := [.ref (B.1 + 57)]) (rest := []) (c_X8_copyFrom l B (zcp (zcp (zcp (zcp (zcp (zcp (zcp (zcp (zcp (zcp (zcp (zcp (zcp (zcp (zcp (zcp (zcp (zcp (zcp (zcp s 9 34 6) 11 36 4) 12 37 4) 13 38 4) 14 39 4) 15 40 4) 16 41 4) 18 43 4) 19 44 4) 20 45 4) 21 46 4) 22 47 4) 23 48 4) 25 50 6) 26 51 6) 27 52 6) 28 53 6) 29 54 6) 30 55 6) 31 56 6) t 32 57 zk_32 zb_32 zk_57 zb_57) zb_32 (zg_8 zk_32) rfl (zCB (nA := 1) C rfl rfl tw_445 tw_9 tw_442 (by decide +kernel) ⟨Nat.le_of_ble_eq_true rfl, Nat.le_of_ble_eq_true rfl⟩) tw_443 tw_444 rfl rfl (Nat.le_of_ble_eq_true rfl) dX1_copyFrom_125 (Nat.zero_le _) ?_
  refine z_iinc C [(2, .int 8), (0, .ref (B.1 + 8)), (1, .ref (B.1 + 33))] dX1_copyFrom_128 0 rfl (by decide) (by decide) rfl ?_
  refine z_goto C 95 dX1_copyFrom_131 (by decide) ?_
  refine z_iload_n C dX1_copyFrom_95 0 rfl rfl ?_
  refine z_aload_n C dX1_copyFrom_96 1 rfl rfl ?_
  refine f_get1 C 3 (v := .ref (B.1 + 24)) (by decide) tw_171 rfl zk_8 zb_8 rfl dX1_copyFrom_97 ?_
  refine f_alen27 C (v := 8) zk_24 zb_24 rfl dX1_copyFrom_100 ?_
  refine z_icmp_ge C 134 dX1_copyFrom_101 (by decide) (fun _ => ?_) (fun hbr => absurd (by decide) hbr)
  refine z_aload_n C dX1_copyFrom_134 1 rfl rfl ?_
  refine z_aload_n C dX1_copyFrom_135 2 rfl rfl ?_
  refine f_get1 C 4 (v := .int ((zcp (zcp (zcp (zcp (zcp (zcp (zcp (zcp (zcp (zcp (zcp (zcp (zcp (zcp (zcp (zcp (zcp (zcp (zcp (zcp (zcp s 9 34 6) 11 36 4) 12 37 4) 13 38 4) 14 39 4) 15 40 4) 16 41 4) 18 43 4) 19 44 4) 20 45 4) 21 46 4) 22 47 4) 23 48 4) 25 50 6) 26 51 6) 27 52 6) 28 53 6) 29 54 6) 30 55 6) 31 56 6) 32 57 6) 33 4)) (by decide) tw_172 rfl zk_33 zb_33 rfl dX1_copyFrom_136 ?_
  refine f_put1_4 C tw_172 zk_8 zb_8 dX1_copyFrom_139 ?_
  refine z_aload_n C dX1_copyFrom_142 1 rfl rfl ?_
  refine z_aload_n C dX1_copyFrom_143 2 rfl rfl ?_
  refine f_get1 C 5 (v := .int ((zu (zcp (zcp (zcp (zcp (zcp (zcp (zcp (zcp (zcp (zcp (zcp (zcp (zcp (zcp (zcp (zcp (zcp (zcp (zcp (zcp (zcp s 9 34 6) 11 36 4) 12 37 4) 13 38 4) 14 39 4) 15 40 4) 16 41 4) 18 43 4) 19 44 4) 20 45 4) 21 46 4) 22 47 4) 23 48 4) 25 50 6) 26 51 6) 27 52 6) 28 53 6) 29 54 6) 30 55 6) 31 56 6) 32 57 6) 8 4 ((zcp (zcp (zcp (zcp (zcp (zcp (zcp (zcp (zcp (zcp (zcp (zcp (zcp (zcp (zcp (zcp (zcp (zcp (zcp (zcp (zcp s 9 34 6) 11 36 4) 12 37 4) 13 38 4) 14 39 4) 15 40 4) 16 41 4) 18 43 4) 19 44 4) 20 45 4) 21 46 4) 22 47 4) 23 48 4) 25 50 6) 26 51 6) 27 52 6) 28 53 6) 29 54 6) 30 55 6) 31 56 6) 32 57 6) 33 4)) 33 5)) (by decide) tw_174 rfl zk_33 zb_33 rfl dX1_copyFrom_144 ?_
  refine f_put1_5 C tw_174 zk_8 zb_8 dX1_copyFrom_147 ?_
  refine z_aload_n C dX1_copyFrom_150 1 rfl rfl ?_
  refine z_aload_n C dX1_copyFrom_151 2 rfl rfl ?_
  refine f_get1 C 6 (v := .int ((zu (zu (zcp (zcp (zcp (zcp (zcp (zcp (zcp (zcp (zcp (zcp (zcp (zcp (zcp (zcp (zcp (zcp (zcp (zcp (zcp (zcp (zcp s 9 34 6) 11 36 4) 12 37 4) 13 38 4) 14 39 4) 15 40 4) 16 41 4) 18 43 4) 19 44 4) 20 45 4) 21 46 4) 22 47 4) 23 48 4) 25 50 6) 26 51 6) 27 52 6) 28 53 6) 29 54 6) 30 55 6) 31 56 6) 32 57 6) 8 4 ((zcp (zcp (zcp (zcp (zcp (zcp (zcp (zcp (zcp (zcp (zcp (zcp (zcp (zcp (zcp (zcp (zcp (zcp (zcp (zcp (zcp s 9 34 6) 11 36 4) 12 37 4) 13 38 4) 14 39 4) 15 40 4) 16 41 4) 18 43 4) 19 44 4) 20 45 4) 21 46 4) 22 47 4) 23 48 4) 25 50 6) 26 51 6) 27 52 6) 28 53 6) 29 54 6) 30 55 6) 31 56 6) 32 57 6) 33 4)) 8 5 ((zu (zcp (zcp (zcp (zcp (zcp (zcp (zcp (zcp (zcp (zcp (zcp (zcp (zcp (zcp (zcp (zcp (zcp (zcp (zcp (zcp (zcp s 9 34 6) 11 36 4) 12 37 4) 13 38 4) 14 39 4) 15 40 4) 16 41 4) 18 43 4) 19 44 4) 20 45 4) 21 46 4) 22 47 4) 23 48 4) 25 50 6) 26 51 6) 27 52 6) 28 53 6) 29 54 6) 30 55 6) 31 56 6) 32 57 6) 8 4 ((zcp (zcp (zcp (zcp (zcp (zcp (zcp (zcp (zcp (zcp (zcp (zcp (zcp (zcp (zcp (zcp (zcp (zcp (zcp (zcp (zcp s 9 34 6) 11 36 4) 12 37 4) 13 38 4) 14 39 4) 15 40 4) 16 41 4) 18 43 4) 19 44 4) 20 45 4) 21 46 4) 22 47 4) 23 48 4) 25 50 6) 26 51 6) 27 52 6) 28 53 6) 29 54 6) 30 55 6) 31 56 6) 32 57 6) 33 4)) 33 5)) 33 6)) (by decide) tw_176 rfl zk_33 zb_33 rfl dX1_copyFrom_152 ?_
  refine f_put1_6 C tw_176 zk_8 zb_8 dX1_copyFrom_155 ?_
  refine z_vret C E rfl dX1_copyFrom_158 rfl (Nat.le_refl _) ⟨rfl, rfl⟩
def wCopy59_8 (s : zS) : zS := (zu (zu (zu (zcp (zcp (zcp (zcp (zcp (zcp (zcp (zcp (zcp (zcp (zcp (zcp (zcp (zcp (zcp (zcp (zcp (zcp (zcp (zcp (zcp s 60 9 6) 62 11 4) 63 12 4) 64 13 4) 65 14 4) 66 15 4) 67 16 4) 69 18 4) 70 19 4) 71 20 4) 72 21 4) 73 22 4) 74 23 4) 76 25 6) 77 26 6) 78 27 6) 79 28 6) 80 29 6) 81 30 6) 82 31 6) 83 32 6) 59 4 ((zcp (zcp (zcp (zcp (zcp (zcp (zcp (zcp (zcp (zcp (zcp (zcp (zcp (zcp (zcp (zcp (zcp (zcp (zcp (zcp (zcp s 60 9 6) 62 11 4) 63 12 4) 64 13 4) 65 14 4) 66 15 4) 67 16 4) 69 18 4) 70 19 4) 71 20 4) 72 21 4) 73 22 4) 74 23 4) 76 25 6) 77 26 6) 78 27 6) 79 28 6) 80 29 6) 81 30 6) 82 31 6) 83 32 6) 8 4)) 59 5 ((zu (zcp (zcp (zcp (zcp (zcp (zcp (zcp (zcp (zcp (zcp (zcp (zcp (zcp (zcp (zcp (zcp (zcp (zcp (zcp (zcp (zcp s 60 9 6) 62 11 4) 63 12 4) 64 13 4) 65 14 4) 66 15 4) 67 16 4) 69 18 4) 70 19 4) 71 20 4) 72 21 4) 73 22 4) 74 23 4) 76 25 6) 77 26 6) 78 27 6) 79 28 6) 80 29 6) 81 30 6) 82 31 6) 83 32 6) 59 4 ((zcp (zcp (zcp (zcp (zcp (zcp (zcp (zcp (zcp (zcp (zcp (zcp (zcp (zcp (zcp (zcp (zcp (zcp (zcp (zcp (zcp s 60 9 6) 62 11 4) 63 12 4) 64 13 4) 65 14 4) 66 15 4) 67 16 4) 69 18 4) 70 19 4) 71 20 4) 72 21 4) 73 22 4) 74 23 4) 76 25 6) 77 26 6) 78 27 6) 79 28 6) 80 29 6) 81 30 6) 82 31 6) 83 32 6) 8 4)) 8 5)) 59 6 ((zu (zu (zcp (zcp (zcp (zcp (zcp (zcp (zcp (zcp (zcp (zcp (zcp (zcp (zcp (zcp (zcp (zcp (zcp (zcp (zcp (zcp (zcp s 60 9 6) 62 11 4) 63 12 4) 64 13 4) 65 14 4) 66 15 4) 67 16 4) 69 18 4) 70 19 4) 71 20 4) 72 21 4) 73 22 4) 74 23 4) 76 25 6) 77 26 6) 78 27 6) 79 28 6) 80 29 6) 81 30 6) 82 31 6) 83 32 6) 59 4 ((zcp (zcp (zcp (zcp (zcp (zcp (zcp (zcp (zcp (zcp (zcp (zcp (zcp (zcp (zcp (zcp (zcp (zcp (zcp (zcp (zcp s 60 9 6) 62 11 4) 63 12 4) 64 13 4) 65 14 4) 66 15 4) 67 16 4) 69 18 4) 70 19 4) 71 20 4) 72 21 4) 73 22 4) 74 23 4) 76 25 6) 77 26 6) 78 27 6) 79 28 6) 80 29 6) 81 30 6) 82 31 6) 83 32 6) 8 4)) 59 5 ((zu (zcp (zcp (zcp (zcp (zcp (zcp (zcp (zcp (zcp (zcp (zcp (zcp (zcp (zcp (zcp (zcp (zcp (zcp (zcp (zcp (zcp s 60 9 6) 62 11 4) 63 12 4) 64 13 4) 65 14 4) 66 15 4) 67 16 4) 69 18 4) 70 19 4) 71 20 4) 72 21 4) 73 22 4) 74 23 4) 76 25 6) 77 26 6) 78 27 6) 79 28 6) 80 29 6) 81 30 6) 82 31 6) 83 32 6) 59 4 ((zcp (zcp (zcp (zcp (zcp (zcp (zcp (zcp (zcp (zcp (zcp (zcp (zcp (zcp (zcp (zcp (zcp (zcp (zcp (zcp (zcp s 60 9 6) 62 11 4) 63 12 4) 64 13 4) 65 14 4) 66 15 4) 67 16 4) 69 18 4) 70 19 4) 71 20 4) 72 21 4) 73 22 4) 74 23 4) 76 25 6) 77 26 6) 78 27 6) 79 28 6) 80 29 6) 81 30 6) 82 31 6) 83 32 6) 8 4)) 8 5)) 8 6))
set_option maxRecDepth 100000 in
set_option maxHeartbeats 4000000 in
theorem c_X1_copyFrom59_8 (l : Launch) (B : zB) (s : zS) (t : zL)  : zD l B mX1_copyFrom s t [.ref (B.1 + 59), .ref (B.1 + 8)] none (wCopy59_8 s) t := by
  refine z_met (by decide) (Nat.le_of_ble_eq_true rfl) ?_
  intro X hl C E hnm
  show Zf X B mX1_copyFrom s t 0 [(0, .ref (B.1 + 59)), (1, .ref (B.1 + 8))] []
  refine z_aload_n C dX1_copyFrom_0 0 rfl rfl ?_
  refine f_get1 C 0 (v := .ref (B.1 + 60)) (by decide) tw_167 rfl zk_59 zb_59 rfl dX1_copyFrom_1 ?_
  refine z_aload_n C dX1_copyFrom_4 1 rfl rfl ?_
  refine f_get1 C 0 (v := .ref (B.1 + 9)) (by decide) tw_167 rfl zk_8 zb_8 rfl dX1_copyFrom_5 ?_
  refine f_callVv C hl (As := [.ref (B.1 + 9)]) (rest := []) (c_X8_copyFrom l B s t 60 9 zk_60 zb_60 zk_9 zb_9) zb_60 (zg_8 zk_60) rfl (zCB (nA := 1) C rfl rfl tw_445 tw_9 tw_442 (by decide +kernel) ⟨Nat.le_of_ble_eq_true rfl, Nat.le_of_ble_eq_true rfl⟩) tw_443 tw_444 rfl rfl (Nat.le_of_ble_eq_true rfl) dX1_copyFrom_8 (Nat.zero_le _) ?_
  refine z_iconst C dX1_copyFrom_11 ki_0 ?_
  refine z_istore_n C [(2, .int 0), (0, .ref (B.1 + 59)), (1, .ref (B.1 + 8))] dX1_copyFrom_12 rfl (by decide) rfl ?_
  refine z_iload_n C dX1_copyFrom_13 0 rfl rfl ?_
  refine z_aload_n C dX1_copyFrom_14 1 rfl rfl ?_
  refine f_get1 C 1 (v := .ref (B.1 + 61)) (by decide) tw_169 rfl zk_59 zb_59 rfl dX1_copyFrom_15 ?_
  refine f_alen23 C (v := 6) zk_61 zb_61 rfl dX1_copyFrom_18 ?_
  refine z_icmp_ge C 52 dX1_copyFrom_19 (by decide) (fun hbr => absurd hbr (by decide)) (fun _ => ?_)
  refine z_iload_n C dX1_copyFrom_22 0 rfl rfl ?_
  refine z_aload_n C dX1_copyFrom_23 2 rfl rfl ?_
  refine f_get1 C 1 (v := .ref (B.1 + 10)) (by decide) tw_169 rfl zk_8 zb_8 rfl dX1_copyFrom_24 ?_
  refine f_alen23 C (v := 6) zk_10 zb_10 rfl dX1_copyFrom_27 ?_
  refine z_icmp_ge C 52 dX1_copyFrom_28 (by decide) (fun hbr => absurd hbr (by decide)) (fun _ => ?_)
  refine z_aload_n C dX1_copyFrom_31 1 rfl rfl ?_
  refine f_get1 C 1 (v := .ref (B.1 + 61)) (by decide) tw_169 rfl zk_59 zb_59 rfl dX1_copyFrom_32 ?_
  refine z_iload_n C dX1_copyFrom_35 0 rfl rfl ?_
  refine f_aaldL23 C zk_61 zb_61 (by unfold vp_in; decide) (r := 62) (by decide) dX1_copyFrom_36 ?_
  refine z_aload_n C dX1_copyFrom_37 2 rfl rfl ?_
  refine f_get1 C 1 (v := .ref (B.1 + 10)) (by decide) tw_169 rfl zk_8 zb_8 rfl dX1_copyFrom_38 ?_
  refine z_iload_n C dX1_copyFrom_41 0 rfl rfl ?_
  refine f_aaldL23 C zk_10 zb_10 (by unfold vp_in; decide) (r := 11) (by decide) dX1_copyFrom_42 ?_
  refine f_callVv C hl (As := [.ref (B.1 + 11)]) (rest := []) (c_X0_copyFrom l B (zcp s 60 9 6) t 62 11 zk_62 zb_62 zk_11 zb_11) zb_62 (zg_0 zk_62) rfl (zCB (nA := 1) C rfl rfl tw_449 tw_10 tw_446 (by decide +kernel) ⟨Nat.le_of_ble_eq_true rfl, Nat.le_of_ble_eq_true rfl⟩) tw_447 tw_448 rfl rfl (Nat.le_of_ble_eq_true rfl) dX1_copyFrom_43 (Nat.zero_le _) ?_
  refine z_iinc C [(2, .int 1), (0, .ref (B.1 + 59)), (1, .ref (B.1 + 8))] dX1_copyFrom_46 0 rfl (by decide) (by decide) rfl ?_
  refine z_goto C 13 dX1_copyFrom_49 (by decide) ?_
  refine z_iload_n C dX1_copyFrom_13 0 rfl rfl ?_
  refine z_aload_n C dX1_copyFrom_14 1 rfl rfl ?_
  refine f_get1 C 1 (v := .ref (B.1 + 61)) (by decide) tw_169 rfl zk_59 zb_59 rfl dX1_copyFrom_15 ?_
  refine f_alen23 C (v := 6) zk_61 zb_61 rfl dX1_copyFrom_18 ?_
  refine z_icmp_ge C 52 dX1_copyFrom_19 (by decide) (fun hbr => absurd hbr (by decide)) (fun _ => ?_)
  refine z_iload_n C dX1_copyFrom_22 0 rfl rfl ?_
  refine z_aload_n C dX1_copyFrom_23 2 rfl rfl ?_
  refine f_get1 C 1 (v := .ref (B.1 + 10)) (by decide) tw_169 rfl zk_8 zb_8 rfl dX1_copyFrom_24 ?_
  refine f_alen23 C (v := 6) zk_10 zb_10 rfl dX1_copyFrom_27 ?_
  refine z_icmp_ge C 52 dX1_copyFrom_28 (by decide) (fun hbr => absurd hbr (by decide)) (fun _ => ?_)
  refine z_aload_n C dX1_copyFrom_31 1 rfl rfl ?_
  refine f_get1 C 1 (v := .ref (B.1 + 61)) (by decide) tw_169 rfl zk_59 zb_59 rfl dX1_copyFrom_32 ?_
  refine z_iload_n C dX1_copyFrom_35 0 rfl rfl ?_
  refine f_aaldL23 C zk_61 zb_61 (by unfold vp_in; decide) (r := 63) (by decide) dX1_copyFrom_36 ?_
  refine z_aload_n C dX1_copyFrom_37 2 rfl rfl ?_
  refine f_get1 C 1 (v := .ref (B.1 + 10)) (by decide) tw_169 rfl zk_8 zb_8 rfl dX1_copyFrom_38 ?_
  refine z_iload_n C dX1_copyFrom_41 0 rfl rfl ?_
  refine f_aaldL23 C zk_10 zb_10 (by unfold vp_in; decide) (r := 12) (by decide) dX1_copyFrom_42 ?_
  refine f_callVv C hl (As := [.ref (B.1 + 12)]) (rest := []) (c_X0_copyFrom l B (zcp (zcp s 60 9 6) 62 11 4) t 63 12 zk_63 zb_63 zk_12 zb_12) zb_63 (zg_0 zk_63) rfl (zCB (nA := 1) C rfl rfl tw_449 tw_10 tw_446 (by decide +kernel) ⟨Nat.le_of_ble_eq_true rfl, Nat.le_of_ble_eq_true rfl⟩) tw_447 tw_448 rfl rfl (Nat.le_of_ble_eq_true rfl) dX1_copyFrom_43 (Nat.zero_le _) ?_
  refine z_iinc C [(2, .int 2), (0, .ref (B.1 + 59)), (1, .ref (B.1 + 8))] dX1_copyFrom_46 0 rfl (by decide) (by decide) rfl ?_
  refine z_goto C 13 dX1_copyFrom_49 (by decide) ?_
  refine z_iload_n C dX1_copyFrom_13 0 rfl rfl ?_
  refine z_aload_n C dX1_copyFrom_14 1 rfl rfl ?_
  refine f_get1 C 1 (v := .ref (B.1 + 61)) (by decide) tw_169 rfl zk_59 zb_59 rfl dX1_copyFrom_15 ?_
  refine f_alen23 C (v := 6) zk_61 zb_61 rfl dX1_copyFrom_18 ?_
  refine z_icmp_ge C 52 dX1_copyFrom_19 (by decide) (fun hbr => absurd hbr (by decide)) (fun _ => ?_)
  refine z_iload_n C dX1_copyFrom_22 0 rfl rfl ?_
  refine z_aload_n C dX1_copyFrom_23 2 rfl rfl ?_
  refine f_get1 C 1 (v := .ref (B.1 + 10)) (by decide) tw_169 rfl zk_8 zb_8 rfl dX1_copyFrom_24 ?_
  refine f_alen23 C (v := 6) zk_10 zb_10 rfl dX1_copyFrom_27 ?_
  refine z_icmp_ge C 52 dX1_copyFrom_28 (by decide) (fun hbr => absurd hbr (by decide)) (fun _ => ?_)
  refine z_aload_n C dX1_copyFrom_31 1 rfl rfl ?_
  refine f_get1 C 1 (v := .ref (B.1 + 61)) (by decide) tw_169 rfl zk_59 zb_59 rfl dX1_copyFrom_32 ?_
  refine z_iload_n C dX1_copyFrom_35 0 rfl rfl ?_
  refine f_aaldL23 C zk_61 zb_61 (by unfold vp_in; decide) (r := 64) (by decide) dX1_copyFrom_36 ?_
  refine z_aload_n C dX1_copyFrom_37 2 rfl rfl ?_
  refine f_get1 C 1 (v := .ref (B.1 + 10)) (by decide) tw_169 rfl zk_8 zb_8 rfl dX1_copyFrom_38 ?_
  refine z_iload_n C dX1_copyFrom_41 0 rfl rfl ?_
  refine f_aaldL23 C zk_10 zb_10 (by unfold vp_in; decide) (r := 13) (by decide) dX1_copyFrom_42 ?_
  refine f_callVv C hl (As := [.ref (B.1 + 13)]) (rest := []) (c_X0_copyFrom l B (zcp (zcp (zcp s 60 9 6) 62 11 4) 63 12 4) t 64 13 zk_64 zb_64 zk_13 zb_13) zb_64 (zg_0 zk_64) rfl (zCB (nA := 1) C rfl rfl tw_449 tw_10 tw_446 (by decide +kernel) ⟨Nat.le_of_ble_eq_true rfl, Nat.le_of_ble_eq_true rfl⟩) tw_447 tw_448 rfl rfl (Nat.le_of_ble_eq_true rfl) dX1_copyFrom_43 (Nat.zero_le _) ?_
  refine z_iinc C [(2, .int 3), (0, .ref (B.1 + 59)), (1, .ref (B.1 + 8))] dX1_copyFrom_46 0 rfl (by decide) (by decide) rfl ?_
  refine z_goto C 13 dX1_copyFrom_49 (by decide) ?_
  refine z_iload_n C dX1_copyFrom_13 0 rfl rfl ?_
  refine z_aload_n C dX1_copyFrom_14 1 rfl rfl ?_
  refine f_get1 C 1 (v := .ref (B.1 + 61)) (by decide) tw_169 rfl zk_59 zb_59 rfl dX1_copyFrom_15 ?_
  refine f_alen23 C (v := 6) zk_61 zb_61 rfl dX1_copyFrom_18 ?_
  refine z_icmp_ge C 52 dX1_copyFrom_19 (by decide) (fun hbr => absurd hbr (by decide)) (fun _ => ?_)
  refine z_iload_n C dX1_copyFrom_22 0 rfl rfl ?_
  refine z_aload_n C dX1_copyFrom_23 2 rfl rfl ?_
  refine f_get1 C 1 (v := .ref (B.1 + 10)) (by decide) tw_169 rfl zk_8 zb_8 rfl dX1_copyFrom_24 ?_
  refine f_alen23 C (v := 6) zk_10 zb_10 rfl dX1_copyFrom_27 ?_
  refine z_icmp_ge C 52 dX1_copyFrom_28 (by decide) (fun hbr => absurd hbr (by decide)) (fun _ => ?_)
  refine z_aload_n C dX1_copyFrom_31 1 rfl rfl ?_
  refine f_get1 C 1 (v := .ref (B.1 + 61)) (by decide) tw_169 rfl zk_59 zb_59 rfl dX1_copyFrom_32 ?_
  refine z_iload_n C dX1_copyFrom_35 0 rfl rfl ?_
  refine f_aaldL23 C zk_61 zb_61 (by unfold vp_in; decide) (r := 65) (by decide) dX1_copyFrom_36 ?_
  refine z_aload_n C dX1_copyFrom_37 2 rfl rfl ?_
  refine f_get1 C 1 (v := .ref (B.1 + 10)) (by decide) tw_169 rfl zk_8 zb_8 rfl dX1_copyFrom_38 ?_
  refine z_iload_n C dX1_copyFrom_41 0 rfl rfl ?_
  refine f_aaldL23 C zk_10 zb_10 (by unfold vp_in; decide) (r := 14) (by decide) dX1_copyFrom_42 ?_
  refine f_callVv C hl (As := [.ref (B.1 + 14)]) (rest := []) (c_X0_copyFrom l B (zcp (zcp (zcp (zcp s 60 9 6) 62 11 4) 63 12 4) 64 13 4) t 65 14 zk_65 zb_65 zk_14 zb_14) zb_65 (zg_0 zk_65) rfl (zCB (nA := 1) C rfl rfl tw_449 tw_10 tw_446 (by decide +kernel) ⟨Nat.le_of_ble_eq_true rfl, Nat.le_of_ble_eq_true rfl⟩) tw_447 tw_448 rfl rfl (Nat.le_of_ble_eq_true rfl) dX1_copyFrom_43 (Nat.zero_le _) ?_
  refine z_iinc C [(2, .int 4), (0, .ref (B.1 + 59)), (1, .ref (B.1 + 8))] dX1_copyFrom_46 0 rfl (by decide) (by decide) rfl ?_
  refine z_goto C 13 dX1_copyFrom_49 (by decide) ?_
  refine z_iload_n C dX1_copyFrom_13 0 rfl rfl ?_
  refine z_aload_n C dX1_copyFrom_14 1 rfl rfl ?_
  refine f_get1 C 1 (v := .ref (B.1 + 61)) (by decide) tw_169 rfl zk_59 zb_59 rfl dX1_copyFrom_15 ?_
  refine f_alen23 C (v := 6) zk_61 zb_61 rfl dX1_copyFrom_18 ?_
  refine z_icmp_ge C 52 dX1_copyFrom_19 (by decide) (fun hbr => absurd hbr (by decide)) (fun _ => ?_)
  refine z_iload_n C dX1_copyFrom_22 0 rfl rfl ?_
  refine z_aload_n C dX1_copyFrom_23 2 rfl rfl ?_
  refine f_get1 C 1 (v := .ref (B.1 + 10)) (by decide) tw_169 rfl zk_8 zb_8 rfl dX1_copyFrom_24 ?_
  refine f_alen23 C (v := 6) zk_10 zb_10 rfl dX1_copyFrom_27 ?_
  refine z_icmp_ge C 52 dX1_copyFrom_28 (by decide) (fun hbr => absurd hbr (by decide)) (fun _ => ?_)
  refine z_aload_n C dX1_copyFrom_31 1 rfl rfl ?_
  refine f_get1 C 1 (v := .ref (B.1 + 61)) (by decide) tw_169 rfl zk_59 zb_59 rfl dX1_copyFrom_32 ?_
  refine z_iload_n C dX1_copyFrom_35 0 rfl rfl ?_
  refine f_aaldL23 C zk_61 zb_61 (by unfold vp_in; decide) (r := 66) (by decide) dX1_copyFrom_36 ?_
  refine z_aload_n C dX1_copyFrom_37 2 rfl rfl ?_
  refine f_get1 C 1 (v := .ref (B.1 + 10)) (by decide) tw_169 rfl zk_8 zb_8 rfl dX1_copyFrom_38 ?_
  refine z_iload_n C dX1_copyFrom_41 0 rfl rfl ?_
  refine f_aaldL23 C zk_10 zb_10 (by unfold vp_in; decide) (r := 15) (by decide) dX1_copyFrom_42 ?_
  refine f_callVv C hl (As := [.ref (B.1 + 15)]) (rest := []) (c_X0_copyFrom l B (zcp (zcp (zcp (zcp (zcp s 60 9 6) 62 11 4) 63 12 4) 64 13 4) 65 14 4) t 66 15 zk_66 zb_66 zk_15 zb_15) zb_66 (zg_0 zk_66) rfl (zCB (nA := 1) C rfl rfl tw_449 tw_10 tw_446 (by decide +kernel) ⟨Nat.le_of_ble_eq_true rfl, Nat.le_of_ble_eq_true rfl⟩) tw_447 tw_448 rfl rfl (Nat.le_of_ble_eq_true rfl) dX1_copyFrom_43 (Nat.zero_le _) ?_
  refine z_iinc C [(2, .int 5), (0, .ref (B.1 + 59)), (1, .ref (B.1 + 8))] dX1_copyFrom_46 0 rfl (by decide) (by decide) rfl ?_
  refine z_goto C 13 dX1_copyFrom_49 (by decide) ?_
  refine z_iload_n C dX1_copyFrom_13 0 rfl rfl ?_
  refine z_aload_n C dX1_copyFrom_14 1 rfl rfl ?_
  refine f_get1 C 1 (v := .ref (B.1 + 61)) (by decide) tw_169 rfl zk_59 zb_59 rfl dX1_copyFrom_15 ?_
  refine f_alen23 C (v := 6) zk_61 zb_61 rfl dX1_copyFrom_18 ?_
  refine z_icmp_ge C 52 dX1_copyFrom_19 (by decide) (fun hbr => absurd hbr (by decide)) (fun _ => ?_)
  refine z_iload_n C dX1_copyFrom_22 0 rfl rfl ?_
  refine z_aload_n C dX1_copyFrom_23 2 rfl rfl ?_
  refine f_get1 C 1 (v := .ref (B.1 + 10)) (by decide) tw_169 rfl zk_8 zb_8 rfl dX1_copyFrom_24 ?_
  refine f_alen23 C (v := 6) zk_10 zb_10 rfl dX1_copyFrom_27 ?_
  refine z_icmp_ge C 52 dX1_copyFrom_28 (by decide) (fun hbr => absurd hbr (by decide)) (fun _ => ?_)
  refine z_aload_n C dX1_copyFrom_31 1 rfl rfl ?_
  refine f_get1 C 1 (v := .ref (B.1 + 61)) (by decide) tw_169 rfl zk_59 zb_59 rfl dX1_copyFrom_32 ?_
  refine z_iload_n C dX1_copyFrom_35 0 rfl rfl ?_
  refine f_aaldL23 C zk_61 zb_61 (by unfold vp_in; decide) (r := 67) (by decide) dX1_copyFrom_36 ?_
  refine z_aload_n C dX1_copyFrom_37 2 rfl rfl ?_
  refine f_get1 C 1 (v := .ref (B.1 + 10)) (by decide) tw_169 rfl zk_8 zb_8 rfl dX1_copyFrom_38 ?_
  refine z_iload_n C dX1_copyFrom_41 0 rfl rfl ?_
  refine f_aaldL23 C zk_10 zb_10 (by unfold vp_in; decide) (r := 16) (by decide) dX1_copyFrom_42 ?_
  refine f_callVv C hl (As := [.ref (B.1 + 16)]) (rest := []) (c_X0_copyFrom l B (zcp (zcp (zcp (zcp (zcp (zcp s 60 9 6) 62 11 4) 63 12 4) 64 13 4) 65 14 4) 66 15 4) t 67 16 zk_67 zb_67 zk_16 zb_16) zb_67 (zg_0 zk_67) rfl (zCB (nA := 1) C rfl rfl tw_449 tw_10 tw_446 (by decide +kernel) ⟨Nat.le_of_ble_eq_true rfl, Nat.le_of_ble_eq_true rfl⟩) tw_447 tw_448 rfl rfl (Nat.le_of_ble_eq_true rfl) dX1_copyFrom_43 (Nat.zero_le _) ?_
  refine z_iinc C [(2, .int 6), (0, .ref (B.1 + 59)), (1, .ref (B.1 + 8))] dX1_copyFrom_46 0 rfl (by decide) (by decide) rfl ?_
  refine z_goto C 13 dX1_copyFrom_49 (by decide) ?_
  refine z_iload_n C dX1_copyFrom_13 0 rfl rfl ?_
  refine z_aload_n C dX1_copyFrom_14 1 rfl rfl ?_
  refine f_get1 C 1 (v := .ref (B.1 + 61)) (by decide) tw_169 rfl zk_59 zb_59 rfl dX1_copyFrom_15 ?_
  refine f_alen23 C (v := 6) zk_61 zb_61 rfl dX1_copyFrom_18 ?_
  refine z_icmp_ge C 52 dX1_copyFrom_19 (by decide) (fun _ => ?_) (fun hbr => absurd (by decide) hbr)
  refine z_iconst C dX1_copyFrom_52 ki_0 ?_
  refine z_istore_n C [(2, .int 0), (0, .ref (B.1 + 59)), (1, .ref (B.1 + 8))] dX1_copyFrom_53 rfl (by decide) rfl ?_
  refine z_iload_n C dX1_copyFrom_54 0 rfl rfl ?_
  refine z_aload_n C dX1_copyFrom_55 1 rfl rfl ?_
  refine f_get1 C 2 (v := .ref (B.1 + 68)) (by decide) tw_170 rfl zk_59 zb_59 rfl dX1_copyFrom_56 ?_
  refine f_alen25 C (v := 6) zk_68 zb_68 rfl dX1_copyFrom_59 ?_
  refine z_icmp_ge C 93 dX1_copyFrom_60 (by decide) (fun hbr => absurd hbr (by decide)) (fun _ => ?_)
  refine z_iload_n C dX1_copyFrom_63 0 rfl rfl ?_
  refine z_aload_n C dX1_copyFrom_64 2 rfl rfl ?_
  refine f_get1 C 2 (v := .ref (B.1 + 17)) (by decide) tw_170 rfl zk_8 zb_8 rfl dX1_copyFrom_65 ?_
  refine f_alen25 C (v := 6) zk_17 zb_17 rfl dX1_copyFrom_68 ?_
  refine z_icmp_ge C 93 dX1_copyFrom_69 (by decide) (fun hbr => absurd hbr (by decide)) (fun _ => ?_)
  refine z_aload_n C dX1_copyFrom_72 1 rfl rfl ?_
  refine f_get1 C 2 (v := .ref (B.1 + 68)) (by decide) tw_170 rfl zk_59 zb_59 rfl dX1_copyFrom_73 ?_
  refine z_iload_n C dX1_copyFrom_76 0 rfl rfl ?_
  refine f_aaldL25 C zk_68 zb_68 (by unfold vp_in; decide) (r := 69) (by decide) dX1_copyFrom_77 ?_
  refine z_aload_n C dX1_copyFrom_78 2 rfl rfl ?_
  refine f_get1 C 2 (v := .ref (B.1 + 17)) (by decide) tw_170 rfl zk_8 zb_8 rfl dX1_copyFrom_79 ?_
  refine z_iload_n C dX1_copyFrom_82 0 rfl rfl ?_
  refine f_aaldL25 C zk_17 zb_17 (by unfold vp_in; decide) (r := 18) (by decide) dX1_copyFrom_83 ?_
  refine f_callVv C hl (As := [.ref (B.1 + 18)]) (rest := []) (c_X4_copyFrom l B (zcp (zcp (zcp (zcp (zcp (zcp (zcp s 60 9 6) 62 11 4) 63 12 4) 64 13 4) 65 14 4) 66 15 4) 67 16 4) t 69 18 zk_69 zb_69 zk_18 zb_18) zb_69 (zg_4 zk_69) rfl (zCB (nA := 1) C rfl rfl tw_453 tw_11 tw_450 (by decide +kernel) ⟨Nat.le_of_ble_eq_true rfl, Nat.le_of_ble_eq_true rfl⟩) tw_451 tw_452 rfl rfl (Nat.le_of_ble_eq_true rfl) dX1_copyFrom_84 (Nat.zero_le _) ?_
  refine z_iinc C [(2, .int 1), (0, .ref (B.1 + 59)), (1, .ref (B.1 + 8))] dX1_copyFrom_87 0 rfl (by decide) (by decide) rfl ?_
  refine z_goto C 54 dX1_copyFrom_90 (by decide) ?_
  refine z_iload_n C dX1_copyFrom_54 0 rfl rfl ?_
  refine z_aload_n C dX1_copyFrom_55 1 rfl rfl ?_
  refine f_get1 C 2 (v := .ref (B.1 + 68)) (by decide) tw_170 rfl zk_59 zb_59 rfl dX1_copyFrom_56 ?_
  refine f_alen25 C (v := 6) zk_68 zb_68 rfl dX1_copyFrom_59 ?_
  refine z_icmp_ge C 93 dX1_copyFrom_60 (by decide) (fun hbr => absurd hbr (by decide)) (fun _ => ?_)
  refine z_iload_n C dX1_copyFrom_63 0 rfl rfl ?_
  refine z_aload_n C dX1_copyFrom_64 2 rfl rfl ?_
  refine f_get1 C 2 (v := .ref (B.1 + 17)) (by decide) tw_170 rfl zk_8 zb_8 rfl dX1_copyFrom_65 ?_
  refine f_alen25 C (v := 6) zk_17 zb_17 rfl dX1_copyFrom_68 ?_
  refine z_icmp_ge C 93 dX1_copyFrom_69 (by decide) (fun hbr => absurd hbr (by decide)) (fun _ => ?_)
  refine z_aload_n C dX1_copyFrom_72 1 rfl rfl ?_
  refine f_get1 C 2 (v := .ref (B.1 + 68)) (by decide) tw_170 rfl zk_59 zb_59 rfl dX1_copyFrom_73 ?_
  refine z_iload_n C dX1_copyFrom_76 0 rfl rfl ?_
  refine f_aaldL25 C zk_68 zb_68 (by unfold vp_in; decide) (r := 70) (by decide) dX1_copyFrom_77 ?_
  refine z_aload_n C dX1_copyFrom_78 2 rfl rfl ?_
  refine f_get1 C 2 (v := .ref (B.1 + 17)) (by decide) tw_170 rfl zk_8 zb_8 rfl dX1_copyFrom_79 ?_
  refine z_iload_n C dX1_copyFrom_82 0 rfl rfl ?_
  refine f_aaldL25 C zk_17 zb_17 (by unfold vp_in; decide) (r := 19) (by decide) dX1_copyFrom_83 ?_
  refine f_callVv C hl (As := [.ref (B.1 + 19)]) (rest := []) (c_X4_copyFrom l B (zcp (zcp (zcp (zcp (zcp (zcp (zcp (zcp s 60 9 6) 62 11 4) 63 12 4) 64 13 4) 65 14 4) 66 15 4) 67 16 4) 69 18 4) t 70 19 zk_70 zb_70 zk_19 zb_19) zb_70 (zg_4 zk_70) rfl (zCB (nA := 1) C rfl rfl tw_453 tw_11 tw_450 (by decide +kernel) ⟨Nat.le_of_ble_eq_true rfl, Nat.le_of_ble_eq_true rfl⟩) tw_451 tw_452 rfl rfl (Nat.le_of_ble_eq_true rfl) dX1_copyFrom_84 (Nat.zero_le _) ?_
  refine z_iinc C [(2, .int 2), (0, .ref (B.1 + 59)), (1, .ref (B.1 + 8))] dX1_copyFrom_87 0 rfl (by decide) (by decide) rfl ?_
  refine z_goto C 54 dX1_copyFrom_90 (by decide) ?_
  refine z_iload_n C dX1_copyFrom_54 0 rfl rfl ?_
  refine z_aload_n C dX1_copyFrom_55 1 rfl rfl ?_
  refine f_get1 C 2 (v := .ref (B.1 + 68)) (by decide) tw_170 rfl zk_59 zb_59 rfl dX1_copyFrom_56 ?_
  refine f_alen25 C (v := 6) zk_68 zb_68 rfl dX1_copyFrom_59 ?_
  refine z_icmp_ge C 93 dX1_copyFrom_60 (by decide) (fun hbr => absurd hbr (by decide)) (fun _ => ?_)
  refine z_iload_n C dX1_copyFrom_63 0 rfl rfl ?_
  refine z_aload_n C dX1_copyFrom_64 2 rfl rfl ?_
  refine f_get1 C 2 (v := .ref (B.1 + 17)) (by decide) tw_170 rfl zk_8 zb_8 rfl dX1_copyFrom_65 ?_
  refine f_alen25 C (v := 6) zk_17 zb_17 rfl dX1_copyFrom_68 ?_
  refine z_icmp_ge C 93 dX1_copyFrom_69 (by decide) (fun hbr => absurd hbr (by decide)) (fun _ => ?_)
  refine z_aload_n C dX1_copyFrom_72 1 rfl rfl ?_
  refine f_get1 C 2 (v := .ref (B.1 + 68)) (by decide) tw_170 rfl zk_59 zb_59 rfl dX1_copyFrom_73 ?_
  refine z_iload_n C dX1_copyFrom_76 0 rfl rfl ?_
  refine f_aaldL25 C zk_68 zb_68 (by unfold vp_in; decide) (r := 71) (by decide) dX1_copyFrom_77 ?_
  refine z_aload_n C dX1_copyFrom_78 2 rfl rfl ?_
  refine f_get1 C 2 (v := .ref (B.1 + 17)) (by decide) tw_170 rfl zk_8 zb_8 rfl dX1_copyFrom_79 ?_
  refine z_iload_n C dX1_copyFrom_82 0 rfl rfl ?_
  refine f_aaldL25 C zk_17 zb_17 (by unfold vp_in; decide) (r := 20) (by decide) dX1_copyFrom_83 ?_
  refine f_callVv C hl (As := [.ref (B.1 + 20)]) (rest := []) (c_X4_copyFrom l B (zcp (zcp (zcp (zcp (zcp (zcp (zcp (zcp (zcp s 60 9 6) 62 11 4) 63 12 4) 64 13 4) 65 14 4) 66 15 4) 67 16 4) 69 18 4) 70 19 4) t 71 20 zk_71 zb_71 zk_20 zb_20) zb_71 (zg_4 zk_71) rfl (zCB (nA := 1) C rfl rfl tw_453 tw_11 tw_450 (by decide +kernel) ⟨Nat.le_of_ble_eq_true rfl, Nat.le_of_ble_eq_true rfl⟩) tw_451 tw_452 rfl rfl (Nat.le_of_ble_eq_true rfl) dX1_copyFrom_84 (Nat.zero_le _) ?_
  refine z_iinc C [(2, .int 3), (0, .ref (B.1 + 59)), (1, .ref (B.1 + 8))] dX1_copyFrom_87 0 rfl (by decide) (by decide) rfl ?_
  refine z_goto C 54 dX1_copyFrom_90 (by decide) ?_
  refine z_iload_n C dX1_copyFrom_54 0 rfl rfl ?_
  refine z_aload_n C dX1_copyFrom_55 1 rfl rfl ?_
  refine f_get1 C 2 (v := .ref (B.1 + 68)) (by decide) tw_170 rfl zk_59 zb_59 rfl dX1_copyFrom_56 ?_
  refine f_alen25 C (v := 6) zk_68 zb_68 rfl dX1_copyFrom_59 ?_
  refine z_icmp_ge C 93 dX1_copyFrom_60 (by decide) (fun hbr => absurd hbr (by decide)) (fun _ => ?_)
  refine z_iload_n C dX1_copyFrom_63 0 rfl rfl ?_
  refine z_aload_n C dX1_copyFrom_64 2 rfl rfl ?_
  refine f_get1 C 2 (v := .ref (B.1 + 17)) (by decide) tw_170 rfl zk_8 zb_8 rfl dX1_copyFrom_65 ?_
  refine f_alen25 C (v := 6) zk_17 zb_17 rfl dX1_copyFrom_68 ?_
  refine z_icmp_ge C 93 dX1_copyFrom_69 (by decide) (fun hbr => absurd hbr (by decide)) (fun _ => ?_)
  refine z_aload_n C dX1_copyFrom_72 1 rfl rfl ?_
  refine f_get1 C 2 (v := .ref (B.1 + 68)) (by decide) tw_170 rfl zk_59 zb_59 rfl dX1_copyFrom_73 ?_
  refine z_iload_n C dX1_copyFrom_76 0 rfl rfl ?_
  refine f_aaldL25 C zk_68 zb_68 (by unfold vp_in; decide) (r := 72) (by decide) dX1_copyFrom_77 ?_
  refine z_aload_n C dX1_copyFrom_78 2 rfl rfl ?_
  refine f_get1 C 2 (v := .ref (B.1 + 17)) (by decide) tw_170 rfl zk_8 zb_8 rfl dX1_copyFrom_79 ?_
  refine z_iload_n C dX1_copyFrom_82 0 rfl rfl ?_
  refine f_aaldL25 C zk_17 zb_17 (by unfold vp_in; decide) (r := 21) (by decide) dX1_copyFrom_83 ?_
  refine f_callVv C hl (As := [.ref (B.1 + 21)]) (rest := []) (c_X4_copyFrom l B (zcp (zcp (zcp (zcp (zcp (zcp (zcp (zcp (zcp (zcp s 60 9 6) 62 11 4) 63 12 4) 64 13 4) 65 14 4) 66 15 4) 67 16 4) 69 18 4) 70 19 4) 71 20 4) t 72 21 zk_72 zb_72 zk_21 zb_21) zb_72 (zg_4 zk_72) rfl (zCB (nA := 1) C rfl rfl tw_453 tw_11 tw_450 (by decide +kernel) ⟨Nat.le_of_ble_eq_true rfl, Nat.le_of_ble_eq_true rfl⟩) tw_451 tw_452 rfl rfl (Nat.le_of_ble_eq_true rfl) dX1_copyFrom_84 (Nat.zero_le _) ?_
  refine z_iinc C [(2, .int 4), (0, .ref (B.1 + 59)), (1, .ref (B.1 + 8))] dX1_copyFrom_87 0 rfl (by decide) (by decide) rfl ?_
  refine z_goto C 54 dX1_copyFrom_90 (by decide) ?_
  refine z_iload_n C dX1_copyFrom_54 0 rfl rfl ?_
  refine z_aload_n C dX1_copyFrom_55 1 rfl rfl ?_
  refine f_get1 C 2 (v := .ref (B.1 + 68)) (by decide) tw_170 rfl zk_59 zb_59 rfl dX1_copyFrom_56 ?_
  refine f_alen25 C (v := 6) zk_68 zb_68 rfl dX1_copyFrom_59 ?_
  refine z_icmp_ge C 93 dX1_copyFrom_60 (by decide) (fun hbr => absurd hbr (by decide)) (fun _ => ?_)
  refine z_iload_n C dX1_copyFrom_63 0 rfl rfl ?_
  refine z_aload_n C dX1_copyFrom_64 2 rfl rfl ?_
  refine f_get1 C 2 (v := .ref (B.1 + 17)) (by decide) tw_170 rfl zk_8 zb_8 rfl dX1_copyFrom_65 ?_
  refine f_alen25 C (v := 6) zk_17 zb_17 rfl dX1_copyFrom_68 ?_
  refine z_icmp_ge C 93 dX1_copyFrom_69 (by decide) (fun hbr => absurd hbr (by decide)) (fun _ => ?_)
  refine z_aload_n C dX1_copyFrom_72 1 rfl rfl ?_
  refine f_get1 C 2 (v := .ref (B.1 + 68)) (by decide) tw_170 rfl zk_59 zb_59 rfl dX1_copyFrom_73 ?_
  refine z_iload_n C dX1_copyFrom_76 0 rfl rfl ?_
  refine f_aaldL25 C zk_68 zb_68 (by unfold vp_in; decide) (r := 73) (by decide) dX1_copyFrom_77 ?_
  refine z_aload_n C dX1_copyFrom_78 2 rfl rfl ?_
  refine f_get1 C 2 (v := .ref (B.1 + 17)) (by decide) tw_170 rfl zk_8 zb_8 rfl dX1_copyFrom_79 ?_
  refine z_iload_n C dX1_copyFrom_82 0 rfl rfl ?_
  refine f_aaldL25 C zk_17 zb_17 (by unfold vp_in; decide) (r := 22) (by decide) dX1_copyFrom_83 ?_
  refine f_callVv C hl (As := [.ref (B.1 + 22)]) (rest := []) (c_X4_copyFrom l B (zcp (zcp (zcp (zcp (zcp (zcp (zcp (zcp (zcp (zcp (zcp s 60 9 6) 62 11 4) 63 12 4) 64 13 4) 65 14 4) 66 15 4) 67 16 4) 69 18 4) 70 19 4) 71 20 4) 72 21 4) t 73 22 zk_73 zb_73 zk_22 zb_22) zb_73 (zg_4 zk_73) rfl (zCB (nA := 1) C rfl rfl tw_453 tw_11 tw_450 (by decide +kernel) ⟨Nat.le_of_ble_eq_true rfl, Nat.le_of_ble_eq_true rfl⟩) tw_451 tw_452 rfl rfl (Nat.le_of_ble_eq_true rfl) dX1_copyFrom_84 (Nat.zero_le _) ?_
  refine z_iinc C [(2, .int 5), (0, .ref (B.1 + 59)), (1, .ref (B.1 + 8))] dX1_copyFrom_87 0 rfl (by decide) (by decide) rfl ?_
  refine z_goto C 54 dX1_copyFrom_90 (by decide) ?_
  refine z_iload_n C dX1_copyFrom_54 0 rfl rfl ?_
  refine z_aload_n C dX1_copyFrom_55 1 rfl rfl ?_
  refine f_get1 C 2 (v := .ref (B.1 + 68)) (by decide) tw_170 rfl zk_59 zb_59 rfl dX1_copyFrom_56 ?_
  refine f_alen25 C (v := 6) zk_68 zb_68 rfl dX1_copyFrom_59 ?_
  refine z_icmp_ge C 93 dX1_copyFrom_60 (by decide) (fun hbr => absurd hbr (by decide)) (fun _ => ?_)
  refine z_iload_n C dX1_copyFrom_63 0 rfl rfl ?_
  refine z_aload_n C dX1_copyFrom_64 2 rfl rfl ?_
  refine f_get1 C 2 (v := .ref (B.1 + 17)) (by decide) tw_170 rfl zk_8 zb_8 rfl dX1_copyFrom_65 ?_
  refine f_alen25 C (v := 6) zk_17 zb_17 rfl dX1_copyFrom_68 ?_
  refine z_icmp_ge C 93 dX1_copyFrom_69 (by decide) (fun hbr => absurd hbr (by decide)) (fun _ => ?_)
  refine z_aload_n C dX1_copyFrom_72 1 rfl rfl ?_
  refine f_get1 C 2 (v := .ref (B.1 + 68)) (by decide) tw_170 rfl zk_59 zb_59 rfl dX1_copyFrom_73 ?_
  refine z_iload_n C dX1_copyFrom_76 0 rfl rfl ?_
  refine f_aaldL25 C zk_68 zb_68 (by unfold vp_in; decide) (r := 74) (by decide) dX1_copyFrom_77 ?_
  refine z_aload_n C dX1_copyFrom_78 2 rfl rfl ?_
  refine f_get1 C 2 (v := .ref (B.1 + 17)) (by decide) tw_170 rfl zk_8 zb_8 rfl dX1_copyFrom_79 ?_
  refine z_iload_n C dX1_copyFrom_82 0 rfl rfl ?_
  refine f_aaldL25 C zk_17 zb_17 (by unfold vp_in; decide) (r := 23) (by decide) dX1_copyFrom_83 ?_
  refine f_callVv C hl (As := [.ref (B.1 + 23)]) (rest := []) (c_X4_copyFrom l B (zcp (zcp (zcp (zcp (zcp (zcp (zcp (zcp (zcp (zcp (zcp (zcp s 60 9 6) 62 11 4) 63 12 4) 64 13 4) 65 14 4) 66 15 4) 67 16 4) 69 18 4) 70 19 4) 71 20 4) 72 21 4) 73 22 4) t 74 23 zk_74 zb_74 zk_23 zb_23) zb_74 (zg_4 zk_74) rfl (zCB (nA := 1) C rfl rfl tw_453 tw_11 tw_450 (by decide +kernel) ⟨Nat.le_of_ble_eq_true rfl, Nat.le_of_ble_eq_true rfl⟩) tw_451 tw_452 rfl rfl (Nat.le_of_ble_eq_true rfl) dX1_copyFrom_84 (Nat.zero_le _) ?_
  refine z_iinc C [(2, .int 6), (0, .ref (B.1 + 59)), (1, .ref (B.1 + 8))] dX1_copyFrom_87 0 rfl (by decide) (by decide) rfl ?_
  refine z_goto C 54 dX1_copyFrom_90 (by decide) ?_
  refine z_iload_n C dX1_copyFrom_54 0 rfl rfl ?_
  refine z_aload_n C dX1_copyFrom_55 1 rfl rfl ?_
  refine f_get1 C 2 (v := .ref (B.1 + 68)) (by decide) tw_170 rfl zk_59 zb_59 rfl dX1_copyFrom_56 ?_
  refine f_alen25 C (v := 6) zk_68 zb_68 rfl dX1_copyFrom_59 ?_
  refine z_icmp_ge C 93 dX1_copyFrom_60 (by decide) (fun _ => ?_) (fun hbr => absurd (by decide) hbr)
  refine z_iconst C dX1_copyFrom_93 ki_0 ?_
  refine z_istore_n C [(2, .int 0), (0, .ref (B.1 + 59)), (1, .ref (B.1 + 8))] dX1_copyFrom_94 rfl (by decide) rfl ?_
  refine z_iload_n C dX1_copyFrom_95 0 rfl rfl ?_
  refine z_aload_n C dX1_copyFrom_96 1 rfl rfl ?_
  refine f_get1 C 3 (v := .ref (B.1 + 75)) (by decide) tw_171 rfl zk_59 zb_59 rfl dX1_copyFrom_97 ?_
  refine f_alen27 C (v := 8) zk_75 zb_75 rfl dX1_copyFrom_100 ?_
  refine z_icmp_ge C 134 dX1_copyFrom_101 (by decide) (fun hbr => absurd hbr (by decide)) (fun _ => ?_)
  refine z_iload_n C dX1_copyFrom_104 0 rfl rfl ?_
  refine z_aload_n C dX1_copyFrom_105 2 rfl rfl ?_
  refine f_get1 C 3 (v := .ref (B.1 + 24)) (by decide) tw_171 rfl zk_8 zb_8 rfl dX1_copyFrom_106 ?_
  refine f_alen27 C (v := 8) zk_24 zb_24 rfl dX1_copyFrom_109 ?_
  refine z_icmp_ge C 134 dX1_copyFrom_110 (by decide) (fun hbr => absurd hbr (by decide)) (fun _ => ?_)
  refine z_aload_n C dX1_copyFrom_113 1 rfl rfl ?_
  refine f_get1 C 3 (v := .ref (B.1 + 75)) (by decide) tw_171 rfl zk_59 zb_59 rfl dX1_copyFrom_114 ?_
  refine z_iload_n C dX1_copyFrom_117 0 rfl rfl ?_
  refine f_aaldL27 C zk_75 zb_75 (by unfold vp_in; decide) (r := 76) (by decide) dX1_copyFrom_118 ?_
  refine z_aload_n C dX1_copyFrom_119 2 rfl rfl ?_
  refine f_get1 C 3 (v := .ref (B.1 + 24)) (by decide) tw_171 rfl zk_8 zb_8 rfl dX1_copyFrom_120 ?_
  refine z_iload_n C dX1_copyFrom_123 0 rfl rfl ?_
  refine f_aaldL27 C zk_24 zb_24 (by unfold vp_in; decide) (r := 25) (by decide) dX1_copyFrom_124 ?_
  refine f_callVv C hl (As := [.ref (B.1 + 25)]) (rest := []) (c_X8_copyFrom l B (zcp (zcp (zcp (zcp (zcp (zcp (zcp (zcp (zcp (zcp (zcp (zcp (zcp s 60 9 6) 62 11 4) 63 12 4) 64 13 4) 65 14 4) 66 15 4) 67 16 4) 69 18 4) 70 19 4) 71 20 4) 72 21 4) 73 22 4) 74 23 4) t 76 25 zk_76 zb_76 zk_25 zb_25) zb_76 (zg_8 zk_76) rfl (zCB (nA := 1) C rfl rfl tw_445 tw_9 tw_442 (by decide +kernel) ⟨Nat.le_of_ble_eq_true rfl, Nat.le_of_ble_eq_true rfl⟩) tw_443 tw_444 rfl rfl (Nat.le_of_ble_eq_true rfl) dX1_copyFrom_125 (Nat.zero_le _) ?_
  refine z_iinc C [(2, .int 1), (0, .ref (B.1 + 59)), (1, .ref (B.1 + 8))] dX1_copyFrom_128 0 rfl (by decide) (by decide) rfl ?_
  refine z_goto C 95 dX1_copyFrom_131 (by decide) ?_
  refine z_iload_n C dX1_copyFrom_95 0 rfl rfl ?_
  refine z_aload_n C dX1_copyFrom_96 1 rfl rfl ?_
  refine f_get1 C 3 (v := .ref (B.1 + 75)) (by decide) tw_171 rfl zk_59 zb_59 rfl dX1_copyFrom_97 ?_
  refine f_alen27 C (v := 8) zk_75 zb_75 rfl dX1_copyFrom_100 ?_
  refine z_icmp_ge C 134 dX1_copyFrom_101 (by decide) (fun hbr => absurd hbr (by decide)) (fun _ => ?_)
  refine z_iload_n C dX1_copyFrom_104 0 rfl rfl ?_
  refine z_aload_n C dX1_copyFrom_105 2 rfl rfl ?_
  refine f_get1 C 3 (v := .ref (B.1 + 24)) (by decide) tw_171 rfl zk_8 zb_8 rfl dX1_copyFrom_106 ?_
  refine f_alen27 C (v := 8) zk_24 zb_24 rfl dX1_copyFrom_109 ?_
  refine z_icmp_ge C 134 dX1_copyFrom_110 (by decide) (fun hbr => absurd hbr (by decide)) (fun _ => ?_)
  refine z_aload_n C dX1_copyFrom_113 1 rfl rfl ?_
  refine f_get1 C 3 (v := .ref (B.1 + 75)) (by decide) tw_171 rfl zk_59 zb_59 rfl dX1_copyFrom_114 ?_
  refine z_iload_n C dX1_copyFrom_117 0 rfl rfl ?_
  refine f_aaldL27 C zk_75 zb_75 (by unfold vp_in; decide) (r := 77) (by decide) dX1_copyFrom_118 ?_
  refine z_aload_n C dX1_copyFrom_119 2 rfl rfl ?_
  refine f_get1 C 3 (v := .ref (B.1 + 24)) (by decide) tw_171 rfl zk_8 zb_8 rfl dX1_copyFrom_120 ?_
  refine z_iload_n C dX1_copyFrom_123 0 rfl rfl ?_
  refine f_aaldL27 C zk_24 zb_24 (by unfold vp_in; decide) (r := 26) (by decide) dX1_copyFrom_124 ?_
  refine f_callVv C hl (As := [.ref (B.1 + 26)]) (rest := []) (c_X8_copyFrom l B (zcp (zcp (zcp (zcp (zcp (zcp (zcp (zcp (zcp (zcp (zcp (zcp (zcp (zcp s 60 9 6) 62 11 4) 63 12 4) 64 13 4) 65 14 4) 66 15 4) 67 16 4) 69 18 4) 70 19 4) 71 20 4) 72 21 4) 73 22 4) 74 23 4) 76 25 6) t 77 26 zk_77 zb_77 zk_26 zb_26) zb_77 (zg_8 zk_77) rfl (zCB (nA := 1) C rfl rfl tw_445 tw_9 tw_442 (by decide +kernel) ⟨Nat.le_of_ble_eq_true rfl, Nat.le_of_ble_eq_true rfl⟩) tw_443 tw_444 rfl rfl (Nat.le_of_ble_eq_true rfl) dX1_copyFrom_125 (Nat.zero_le _) ?_
  refine z_iinc C [(2, .int 2), (0, .ref (B.1 + 59)), (1, .ref (B.1 + 8))] dX1_copyFrom_128 0 rfl (by decide) (by decide) rfl ?_
  refine z_goto C 95 dX1_copyFrom_131 (by decide) ?_
  refine z_iload_n C dX1_copyFrom_95 0 rfl rfl ?_
  refine z_aload_n C dX1_copyFrom_96 1 rfl rfl ?_
  refine f_get1 C 3 (v := .ref (B.1 + 75)) (by decide) tw_171 rfl zk_59 zb_59 rfl dX1_copyFrom_97 ?_
  refine f_alen27 C (v := 8) zk_75 zb_75 rfl dX1_copyFrom_100 ?_
  refine z_icmp_ge C 134 dX1_copyFrom_101 (by decide) (fun hbr => absurd hbr (by decide)) (fun _ => ?_)
  refine z_iload_n C dX1_copyFrom_104 0 rfl rfl ?_
  refine z_aload_n C dX1_copyFrom_105 2 rfl rfl ?_
  refine f_get1 C 3 (v := .ref (B.1 + 24)) (by decide) tw_171 rfl zk_8 zb_8 rfl dX1_copyFrom_106 ?_
  refine f_alen27 C (v := 8) zk_24 zb_24 rfl dX1_copyFrom_109 ?_
  refine z_icmp_ge C 134 dX1_copyFrom_110 (by decide) (fun hbr => absurd hbr (by decide)) (fun _ => ?_)
  refine z_aload_n C dX1_copyFrom_113 1 rfl rfl ?_
  refine f_get1 C 3 (v := .ref (B.1 + 75)) (by decide) tw_171 rfl zk_59 zb_59 rfl dX1_copyFrom_114 ?_
  refine z_iload_n C dX1_copyFrom_117 0 rfl rfl ?_
  refine f_aaldL27 C zk_75 zb_75 (by unfold vp_in; decide) (r := 78) (by decide) dX1_copyFrom_118 ?_
  refine z_aload_n C dX1_copyFrom_119 2 rfl rfl ?_
  refine f_get1 C 3 (v := .ref (B.1 + 24)) (by decide) tw_171 rfl zk_8 zb_8 rfl dX1_copyFrom_120 ?_
  refine z_iload_n C dX1_copyFrom_123 0 rfl rfl ?_
  refine f_aaldL27 C zk_24 zb_24 (by unfold vp_in; decide) (r := 27) (by decide) dX1_copyFrom_124 ?_
  refine f_callVv C hl (As := [.ref (B.1 + 27)]) (rest := []) (c_X8_copyFrom l B (zcp (zcp (zcp (zcp (zcp (zcp (zcp (zcp (zcp (zcp (zcp (zcp (zcp (zcp (zcp s 60 9 6) 62 11 4) 63 12 4) 64 13 4) 65 14 4) 66 15 4) 67 16 4) 69 18 4) 70 19 4) 71 20 4) 72 21 4) 73 22 4) 74 23 4) 76 25 6) 77 26 6) t 78 27 zk_78 zb_78 zk_27 zb_27) zb_78 (zg_8 zk_78) rfl (zCB (nA := 1) C rfl rfl tw_445 tw_9 tw_442 (by decide +kernel) ⟨Nat.le_of_ble_eq_true rfl, Nat.le_of_ble_eq_true rfl⟩) tw_443 tw_444 rfl rfl (Nat.le_of_ble_eq_true rfl) dX1_copyFrom_125 (Nat.zero_le _) ?_
  refine z_iinc C [(2, .int 3), (0, .ref (B.1 + 59)), (1, .ref (B.1 + 8))] dX1_copyFrom_128 0 rfl (by decide) (by decide) rfl ?_
  refine z_goto C 95 dX1_copyFrom_131 (by decide) ?_
  refine z_iload_n C dX1_copyFrom_95 0 rfl rfl ?_
  refine z_aload_n C dX1_copyFrom_96 1 rfl rfl ?_
  refine f_get1 C 3 (v := .ref (B.1 + 75)) (by decide) tw_171 rfl zk_59 zb_59 rfl dX1_copyFrom_97 ?_
  refine f_alen27 C (v := 8) zk_75 zb_75 rfl dX1_copyFrom_100 ?_
  refine z_icmp_ge C 134 dX1_copyFrom_101 (by decide) (fun hbr => absurd hbr (by decide)) (fun _ => ?_)
  refine z_iload_n C dX1_copyFrom_104 0 rfl rfl ?_
  refine z_aload_n C dX1_copyFrom_105 2 rfl rfl ?_
  refine f_get1 C 3 (v := .ref (B.1 + 24)) (by decide) tw_171 rfl zk_8 zb_8 rfl dX1_copyFrom_106 ?_
  refine f_alen27 C (v := 8) zk_24 zb_24 rfl dX1_copyFrom_109 ?_
  refine z_icmp_ge C 134 dX1_copyFrom_110 (by decide) (fun hbr => absurd hbr (by decide)) (fun _ => ?_)
  refine z_aload_n C dX1_copyFrom_113 1 rfl rfl ?_
  refine f_get1 C 3 (v := .ref (B.1 + 75)) (by decide) tw_171 rfl zk_59 zb_59 rfl dX1_copyFrom_114 ?_
  refine z_iload_n C dX1_copyFrom_117 0 rfl rfl ?_
  refine f_aaldL27 C zk_75 zb_75 (by unfold vp_in; decide) (r := 79) (by decide) dX1_copyFrom_118 ?_
  refine z_aload_n C dX1_copyFrom_119 2 rfl rfl ?_
  refine f_get1 C 3 (v := .ref (B.1 + 24)) (by decide) tw_171 rfl zk_8 zb_8 rfl dX1_copyFrom_120 ?_
  refine z_iload_n C dX1_copyFrom_123 0 rfl rfl ?_
  refine f_aaldL27 C zk_24 zb_24 (by unfold vp_in; decide) (r := 28) (by decide) dX1_copyFrom_124 ?_
  refine f_callVv C hl (As := [.ref (B.1 + 28)]) (rest := []) (c_X8_copyFrom l B (zcp (zcp (zcp (zcp (zcp (zcp (zcp (zcp (zcp (zcp (zcp (zcp (zcp (zcp (zcp (zcp s 60 9 6) 62 11 4) 63 12 4) 64 13 4) 65 14 4) 66 15 4) 67 16 4) 69 18 4) 70 19 4) 71 20 4) 72 21 4) 73 22 4) 74 23 4) 76 25 6) 77 26 6) 78 27 6) t 79 28 zk_79 zb_79 zk_28 zb_28) zb_79 (zg_8 zk_79) rfl (zCB (nA := 1) C rfl rfl tw_445 tw_9 tw_442 (by decide +kernel) ⟨Nat.le_of_ble_eq_true rfl, Nat.le_of_ble_eq_true rfl⟩) tw_443 tw_444 rfl rfl (Nat.le_of_ble_eq_true rfl) dX1_copyFrom_125 (Nat.zero_le _) ?_
  refine z_iinc C [(2, .int 4), (0, .ref (B.1 + 59)), (1, .ref (B.1 + 8))] dX1_copyFrom_128 0 rfl (by decide) (by decide) rfl ?_
  refine z_goto C 95 dX1_copyFrom_131 (by decide) ?_
  refine z_iload_n C dX1_copyFrom_95 0 rfl rfl ?_
  refine z_aload_n C dX1_copyFrom_96 1 rfl rfl ?_
  refine f_get1 C 3 (v := .ref (B.1 + 75)) (by decide) tw_171 rfl zk_59 zb_59 rfl dX1_copyFrom_97 ?_
  refine f_alen27 C (v := 8) zk_75 zb_75 rfl dX1_copyFrom_100 ?_
  refine z_icmp_ge C 134 dX1_copyFrom_101 (by decide) (fun hbr => absurd hbr (by decide)) (fun _ => ?_)
  refine z_iload_n C dX1_copyFrom_104 0 rfl rfl ?_
  refine z_aload_n C dX1_copyFrom_105 2 rfl rfl ?_
  refine f_get1 C 3 (v := .ref (B.1 + 24)) (by decide) tw_171 rfl zk_8 zb_8 rfl dX1_copyFrom_106 ?_
  refine f_alen27 C (v := 8) zk_24 zb_24 rfl dX1_copyFrom_109 ?_
  refine z_icmp_ge C 134 dX1_copyFrom_110 (by decide) (fun hbr => absurd hbr (by decide)) (fun _ => ?_)
  refine z_aload_n C dX1_copyFrom_113 1 rfl rfl ?_
  refine f_get1 C 3 (v := .ref (B.1 + 75)) (by decide) tw_171 rfl zk_59 zb_59 rfl dX1_copyFrom_114 ?_
  refine z_iload_n C dX1_copyFrom_117 0 rfl rfl ?_
  refine f_aaldL27 C zk_75 zb_75 (by unfold vp_in; decide) (r := 80) (by decide) dX1_copyFrom_118 ?_
  refine z_aload_n C dX1_copyFrom_119 2 rfl rfl ?_
  refine f_get1 C 3 (v := .ref (B.1 + 24)) (by decide) tw_171 rfl zk_8 zb_8 rfl dX1_copyFrom_120 ?_
  refine z_iload_n C dX1_copyFrom_123 0 rfl rfl ?_
  refine f_aaldL27 C zk_24 zb_24 (by unfold vp_in; decide) (r := 29) (by decide) dX1_copyFrom_124 ?_
  refine f_callVv C hl (As := [.ref (B.1 + 29)]) (rest := []) (c_X8_copyFrom l B (zcp (zcp (zcp (zcp (zcp (zcp (zcp (zcp (zcp (zcp (zcp (zcp (zcp (zcp (zcp (zcp (zcp s 60 9 6) 62 11 4) 63 12 4) 64 13 4) 65 14 4) 66 15 4) 67 16 4) 69 18 4) 70 19 4) 71 20 4) 72 21 4) 73 22 4) 74 23 4) 76 25 6) 77 26 6) 78 27 6) 79 28 6) t 80 29 zk_80 zb_80 zk_29 zb_29) zb_80 (zg_8 zk_80) rfl (zCB (nA := 1) C rfl rfl tw_445 tw_9 tw_442 (by decide +kernel) ⟨Nat.le_of_ble_eq_true rfl, Nat.le_of_ble_eq_true rfl⟩) tw_443 tw_444 rfl rfl (Nat.le_of_ble_eq_true rfl) dX1_copyFrom_125 (Nat.zero_le _) ?_
  refine z_iinc C [(2, .int 5), (0, .ref (B.1 + 59)), (1, .ref (B.1 + 8))] dX1_copyFrom_128 0 rfl (by decide) (by decide) rfl ?_
  refine z_goto C 95 dX1_copyFrom_131 (by decide) ?_
  refine z_iload_n C dX1_copyFrom_95 0 rfl rfl ?_
  refine z_aload_n C dX1_copyFrom_96 1 rfl rfl ?_
  refine f_get1 C 3 (v := .ref (B.1 + 75)) (by decide) tw_171 rfl zk_59 zb_59 rfl dX1_copyFrom_97 ?_
  refine f_alen27 C (v := 8) zk_75 zb_75 rfl dX1_copyFrom_100 ?_
  refine z_icmp_ge C 134 dX1_copyFrom_101 (by decide) (fun hbr => absurd hbr (by decide)) (fun _ => ?_)
  refine z_iload_n C dX1_copyFrom_104 0 rfl rfl ?_
  refine z_aload_n C dX1_copyFrom_105 2 rfl rfl ?_
  refine f_get1 C 3 (v := .ref (B.1 + 24)) (by decide) tw_171 rfl zk_8 zb_8 rfl dX1_copyFrom_106 ?_
  refine f_alen27 C (v := 8) zk_24 zb_24 rfl dX1_copyFrom_109 ?_
  refine z_icmp_ge C 134 dX1_copyFrom_110 (by decide) (fun hbr => absurd hbr (by decide)) (fun _ => ?_)
  refine z_aload_n C dX1_copyFrom_113 1 rfl rfl ?_
  refine f_get1 C 3 (v := .ref (B.1 + 75)) (by decide) tw_171 rfl zk_59 zb_59 rfl dX1_copyFrom_114 ?_
  refine z_iload_n C dX1_copyFrom_117 0 rfl rfl ?_
  refine f_aaldL27 C zk_75 zb_75 (by unfold vp_in; decide) (r := 81) (by decide) dX1_copyFrom_118 ?_
  refine z_aload_n C dX1_copyFrom_119 2 rfl rfl ?_
  refine f_get1 C 3 (v := .ref (B.1 + 24)) (by decide) tw_171 rfl zk_8 zb_8 rfl dX1_copyFrom_120 ?_
  refine z_iload_n C dX1_copyFrom_123 0 rfl rfl ?_
  refine f_aaldL27 C zk_24 zb_24 (by unfold vp_in; decide) (r := 30) (by decide) dX1_copyFrom_124 ?_
  refine f_callVv C hl (As := [.ref (B.1 + 30)]) (rest := []) (c_X8_copyFrom l B (zcp (zcp (zcp (zcp (zcp (zcp (zcp (zcp (zcp (zcp (zcp (zcp (zcp (zcp (zcp (zcp (zcp (zcp s 60 9 6) 62 11 4) 63 12 4) 64 13 4) 65 14 4) 66 15 4) 67 16 4) 69 18 4) 70 19 4) 71 20 4) 72 21 4) 73 22 4) 74 23 4) 76 25 6) 77 26 6) 78 27 6) 79 28 6) 80 29 6) t 81 30 zk_81 zb_81 zk_30 zb_30) zb_81 (zg_8 zk_81) rfl (zCB (nA := 1) C rfl rfl tw_445 tw_9 tw_442 (by decide +kernel) ⟨Nat.le_of_ble_eq_true rfl, Nat.le_of_ble_eq_true rfl⟩) tw_443 tw_444 rfl rfl (Nat.le_of_ble_eq_true rfl) dX1_copyFrom_125 (Nat.zero_le _) ?_
  refine z_iinc C [(2, .int 6), (0, .ref (B.1 + 59)), (1, .ref (B.1 + 8))] dX1_copyFrom_128 0 rfl (by decide) (by decide) rfl ?_
  refine z_goto C 95 dX1_copyFrom_131 (by decide) ?_
  refine z_iload_n C dX1_copyFrom_95 0 rfl rfl ?_
  refine z_aload_n C dX1_copyFrom_96 1 rfl rfl ?_
  refine f_get1 C 3 (v := .ref (B.1 + 75)) (by decide) tw_171 rfl zk_59 zb_59 rfl dX1_copyFrom_97 ?_
  refine f_alen27 C (v := 8) zk_75 zb_75 rfl dX1_copyFrom_100 ?_
  refine z_icmp_ge C 134 dX1_copyFrom_101 (by decide) (fun hbr => absurd hbr (by decide)) (fun _ => ?_)
  refine z_iload_n C dX1_copyFrom_104 0 rfl rfl ?_
  refine z_aload_n C dX1_copyFrom_105 2 rfl rfl ?_
  refine f_get1 C 3 (v := .ref (B.1 + 24)) (by decide) tw_171 rfl zk_8 zb_8 rfl dX1_copyFrom_106 ?_
  refine f_alen27 C (v := 8) zk_24 zb_24 rfl dX1_copyFrom_109 ?_
  refine z_icmp_ge C 134 dX1_copyFrom_110 (by decide) (fun hbr => absurd hbr (by decide)) (fun _ => ?_)
  refine z_aload_n C dX1_copyFrom_113 1 rfl rfl ?_
  refine f_get1 C 3 (v := .ref (B.1 + 75)) (by decide) tw_171 rfl zk_59 zb_59 rfl dX1_copyFrom_114 ?_
  refine z_iload_n C dX1_copyFrom_117 0 rfl rfl ?_
  refine f_aaldL27 C zk_75 zb_75 (by unfold vp_in; decide) (r := 82) (by decide) dX1_copyFrom_118 ?_
  refine z_aload_n C dX1_copyFrom_119 2 rfl rfl ?_
  refine f_get1 C 3 (v := .ref (B.1 + 24)) (by decide) tw_171 rfl zk_8 zb_8 rfl dX1_copyFrom_120 ?_
  refine z_iload_n C dX1_copyFrom_123 0 rfl rfl ?_
  refine f_aaldL27 C zk_24 zb_24 (by unfold vp_in; decide) (r := 31) (by decide) dX1_copyFrom_124 ?_
  refine f_callVv C hl (As := [.ref (B.1 + 31)]) (rest := []) (c_X8_copyFrom l B (zcp (zcp (zcp (zcp (zcp (zcp (zcp (zcp (zcp (zcp (zcp (zcp (zcp (zcp (zcp (zcp (zcp (zcp (zcp s 60 9 6) 62 11 4) 63 12 4) 64 13 4) 65 14 4) 66 15 4) 67 16 4) 69 18 4) 70 19 4) 71 20 4) 72 21 4) 73 22 4) 74 23 4) 76 25 6) 77 26 6) 78 27 6) 79 28 6) 80 29 6) 81 30 6) t 82 31 zk_82 zb_82 zk_31 zb_31) zb_82 (zg_8 zk_82) rfl (zCB (nA := 1) C rfl rfl tw_445 tw_9 tw_442 (by decide +kernel) ⟨Nat.le_of_ble_eq_true rfl, Nat.le_of_ble_eq_true rfl⟩) tw_443 tw_444 rfl rfl (Nat.le_of_ble_eq_true rfl) dX1_copyFrom_125 (Nat.zero_le _) ?_
  refine z_iinc C [(2, .int 7), (0, .ref (B.1 + 59)), (1, .ref (B.1 + 8))] dX1_copyFrom_128 0 rfl (by decide) (by decide) rfl ?_
  refine z_goto C 95 dX1_copyFrom_131 (by decide) ?_
  refine z_iload_n C dX1_copyFrom_95 0 rfl rfl ?_
  refine z_aload_n C dX1_copyFrom_96 1 rfl rfl ?_
  refine f_get1 C 3 (v := .ref (B.1 + 75)) (by decide) tw_171 rfl zk_59 zb_59 rfl dX1_copyFrom_97 ?_
  refine f_alen27 C (v := 8) zk_75 zb_75 rfl dX1_copyFrom_100 ?_
  refine z_icmp_ge C 134 dX1_copyFrom_101 (by decide) (fun hbr => absurd hbr (by decide)) (fun _ => ?_)
  refine z_iload_n C dX1_copyFrom_104 0 rfl rfl ?_
  refine z_aload_n C dX1_copyFrom_105 2 rfl rfl ?_
  refine f_get1 C 3 (v := .ref (B.1 + 24)) (by decide) tw_171 rfl zk_8 zb_8 rfl dX1_copyFrom_106 ?_
  refine f_alen27 C (v := 8) zk_24 zb_24 rfl dX1_copyFrom_109 ?_
  refine z_icmp_ge C 134 dX1_copyFrom_110 (by decide) (fun hbr => absurd hbr (by decide)) (fun _ => ?_)
  refine z_aload_n C dX1_copyFrom_113 1 rfl rfl ?_
  refine f_get1 C 3 (v := .ref (B.1 + 75)) (by decide) tw_171 rfl zk_59 zb_59 rfl dX1_copyFrom_114 ?_
  refine z_iload_n C dX1_copyFrom_117 0 rfl rfl ?_
  refine f_aaldL27 C zk_75 zb_75 (by unfold vp_in; decide) (r := 83) (by decide) dX1_copyFrom_118 ?_
  refine z_aload_n C dX1_copyFrom_119 2 rfl rfl ?_
  refine f_get1 C 3 (v := .ref (B.1 + 24)) (by decide) tw_171 rfl zk_8 zb_8 rfl dX1_copyFrom_120 ?_
  refine z_iload_n C dX1_copyFrom_123 0 rfl rfl ?_
  refine f_aaldL27 C zk_24 zb_24 (by unfold vp_in; decide) (r := 32) (by decide) dX1_copyFrom_124 ?_
  refine f_callVv C hl (As := [.ref (B.1 + 32)]) (rest := []) (c_X8_copyFrom l B (zcp (zcp (zcp (zcp (zcp (zcp (zcp (zcp (zcp (zcp (zcp (zcp (zcp (zcp (zcp (zcp (zcp (zcp (zcp (zcp s 60 9 6) 62 11 4) 63 12 4) 64 13 4) 65 14 4) 66 15 4) 67 16 4) 69 18 4) 70 19 4) 71 20 4) 72 21 4) 73 22 4) 74 23 4) 76 25 6) 77 26 6) 78 27 6) 79 28 6) 80 29 6) 81 30 6) 82 31 6) t 83 32 zk_83 zb_83 zk_32 zb_32) zb_83 (zg_8 zk_83) rfl (zCB (nA := 1) C rfl rfl tw_445 tw_9 tw_442 (by decide +kernel) ⟨Nat.le_of_ble_eq_true rfl, Nat.le_of_ble_eq_true rfl⟩) tw_443 tw_444 rfl rfl (Nat.le_of_ble_eq_true rfl) dX1_copyFrom_125 (Nat.zero_le _) ?_
  refine z_iinc C [(2, .int 8), (0, .ref (B.1 + 59)), (1, .ref (B.1 + 8))] dX1_copyFrom_128 0 rfl (by decide) (by decide) rfl ?_
  refine z_goto C 95 dX1_copyFrom_131 (by decide) ?_
  refine z_iload_n C dX1_copyFrom_95 0 rfl rfl ?_
  refine z_aload_n C dX1_copyFrom_96 1 rfl rfl ?_
  refine f_get1 C 3 (v := .ref (B.1 + 75)) (by decide) tw_171 rfl zk_59 zb_59 rfl dX1_copyFrom_97 ?_
  refine f_alen27 C (v := 8) zk_75 zb_75 rfl dX1_copyFrom_100 ?_
  refine z_icmp_ge C 134 dX1_copyFrom_101 (by decide) (fun _ => ?_) (fun hbr => absurd (by decide) hbr)
  refine z_aload_n C dX1_copyFrom_134 1 rfl rfl ?_
  refine z_aload_n C dX1_copyFrom_135 2 rfl rfl ?_
  refine f_get1 C 4 (v := .int ((zcp (zcp (zcp (zcp (zcp (zcp (zcp (zcp (zcp (zcp (zcp (zcp (zcp (zcp (zcp (zcp (zcp (zcp (zcp (zcp (zcp s 60 9 6) 62 11 4) 63 12 4) 64 13 4) 65 14 4) 66 15 4) 67 16 4) 69 18 4) 70 19 4) 71 20 4) 72 21 4) 73 22 4) 74 23 4) 76 25 6) 77 26 6) 78 27 6) 79 28 6) 80 29 6) 81 30 6) 82 31 6) 83 32 6) 8 4)) (by decide) tw_172 rfl zk_8 zb_8 rfl dX1_copyFrom_136 ?_
  refine f_put1_4 C tw_172 zk_59 zb_59 dX1_copyFrom_139 ?_
  refine z_aload_n C dX1_copyFrom_142 1 rfl rfl ?_
  refine z_aload_n C dX1_copyFrom_143 2 rfl rfl ?_
  refine f_get1 C 5 (v := .int ((zu (zcp (zcp (zcp (zcp (zcp (zcp (zcp (zcp (zcp (zcp (zcp (zcp (zcp (zcp (zcp (zcp (zcp (zcp (zcp (zcp (zcp s 60 9 6) 62 11 4) 63 12 4) 64 13 4) 65 14 4) 66 15 4) 67 16 4) 69 18 4) 70 19 4) 71 20 4) 72 21 4) 73 22 4) 74 23 4) 76 25 6) 77 26 6) 78 27 6) 79 28 6) 80 29 6) 81 30 6) 82 31 6) 83 32 6) 59 4 ((zcp (zcp (zcp (zcp (zcp (zcp (zcp (zcp (zcp (zcp (zcp (zcp (zcp (zcp (zcp (zcp (zcp (zcp (zcp (zcp (zcp s 60 9 6) 62 11 4) 63 12 4) 64 13 4) 65 14 4) 66 15 4) 67 16 4) 69 18 4) 70 19 4) 71 20 4) 72 21 4) 73 22 4) 74 23 4) 76 25 6) 77 26 6) 78 27 6) 79 28 6) 80 29 6) 81 30 6) 82 31 6) 83 32 6) 8 4)) 8 5)) (by decide) tw_174 rfl zk_8 zb_8 rfl dX1_copyFrom_144 ?_
  refine f_put1_5 C tw_174 zk_59 zb_59 dX1_copyFrom_147 ?_
  refine z_aload_n C dX1_copyFrom_150 1 rfl rfl ?_
  refine z_aload_n C dX1_copyFrom_151 2 rfl rfl ?_
  refine f_get1 C 6 (v := .int ((zu (zu (zcp (zcp (zcp (zcp (zcp (zcp (zcp (zcp (zcp (zcp (zcp (zcp (zcp (zcp (zcp (zcp (zcp (zcp (zcp (zcp (zcp s 60 9 6) 62 11 4) 63 12 4) 64 13 4) 65 14 4) 66 15 4) 67 16 4) 69 18 4) 70 19 4) 71 20 4) 72 21 4) 73 22 4) 74 23 4) 76 25 6) 77 26 6) 78 27 6) 79 28 6) 80 29 6) 81 30 6) 82 31 6) 83 32 6) 59 4 ((zcp (zcp (zcp (zcp (zcp (zcp (zcp (zcp (zcp (zcp (zcp (zcp (zcp (zcp (zcp (zcp (zcp (zcp (zcp (zcp (zcp s 60 9 6) 62 11 4) 63 12 4) 64 13 4) 65 14 4) 66 15 4) 67 16 4) 69 18 4) 70 19 4) 71 20 4) 72 21 4) 73 22 4) 74 23 4) 76 25 6) 77 26 6) 78 27 6) 79 28 6) 80 29 6) 81 30 6) 82 31 6) 83 32 6) 8 4)) 59 5 ((zu (zcp (zcp (zcp (zcp (zcp (zcp (zcp (zcp (zcp (zcp (zcp (zcp (zcp (zcp (zcp (zcp (zcp (zcp (zcp (zcp (zcp s 60 9 6) 62 11 4) 63 12 4) 64 13 4) 65 14 4) 66 15 4) 67 16 4) 69 18 4) 70 19 4) 71 20 4) 72 21 4) 73 22 4) 74 23 4) 76 25 6) 77 26 6) 78 27 6) 79 28 6) 80 29 6) 81 30 6) 82 31 6) 83 32 6) 59 4 ((zcp (zcp (zcp (zcp (zcp (zcp (zcp (zcp (zcp (zcp (zcp (zcp (zcp (zcp (zcp (zcp (zcp (zcp (zcp (zcp (zcp s 60 9 6) 62 11 4) 63 12 4) 64 13 4) 65 14 4) 66 15 4) 67 16 4) 69 18 4) 70 19 4) 71 20 4) 72 21 4) 73 22 4) 74 23 4) 76 25 6) 77 26 6) 78 27 6) 79 28 6) 80 29 6) 81 30 6) 82 31 6) 83 32 6) 8 4)) 8 5)) 8 6)) (by decide) tw_176 rfl zk_8 zb_8 rfl dX1_copyFrom_152 ?_
  refine f_put1_6 C tw_176 zk_59 zb_59 dX1_copyFrom_155 ?_
  refine z_vret C E rfl dX1_copyFrom_158 rfl (Nat.le_refl _) ⟨rfl, rfl⟩
def wCopy84_8 (s : zS) : zS := (zu (zu (zu (zcp (zcp (zcp (zcp (zcp (zcp (zcp (zcp (zcp (zcp (zcp (zcp (zcp (zcp (zcp (zcp (zcp (zcp (zcp (zcp (zcp s 85 9 6) 87 11 4) 88 12 4) 89 13 4) 90 14 4) 91 15 4) 92 16 4) 94 18 4) 95 19 4) 96 20 4) 97 21 4) 98 22 4) 99 23 4) 101 25 6) 102 26 6) 103 27 6) 104 28 6) 105 29 6) 106 30 6) 107 31 6) 108 32 6) 84 4 ((zcp (zcp (zcp (zcp (zcp (zcp (zcp (zcp (zcp (zcp (zcp (zcp (zcp (zcp (zcp (zcp (zcp (zcp (zcp (zcp (zcp s 85 9 6) 87 11 4) 88 12 4) 89 13 4) 90 14 4) 91 15 4) 92 16 4) 94 18 4) 95 19 4) 96 20 4) 97 21 4) 98 22 4) 99 23 4) 101 25 6) 102 26 6) 103 27 6) 104 28 6) 105 29 6) 106 30 6) 107 31 6) 108 32 6) 8 4)) 84 5 ((zu (zcp (zcp (zcp (zcp (zcp (zcp (zcp (zcp (zcp (zcp (zcp (zcp (zcp (zcp (zcp (zcp (zcp (zcp (zcp (zcp (zcp s 85 9 6) 87 11 4) 88 12 4) 89 13 4) 90 14 4) 91 15 4) 92 16 4) 94 18 4) 95 19 4) 96 20 4) 97 21 4) 98 22 4) 99 23 4) 101 25 6) 102 26 6) 103 27 6) 104 28 6) 105 29 6) 106 30 6) 107 31 6) 108 32 6) 84 4 ((zcp (zcp (zcp (zcp (zcp (zcp (zcp (zcp (zcp (zcp (zcp (zcp (zcp (zcp (zcp (zcp (zcp (zcp (zcp (zcp (zcp s 85 9 6) 87 11 4) 88 12 4) 89 13 4) 90 14 4) 91 15 4) 92 16 4) 94 18 4) 95 19 4) 96 20 4) 97 21 4) 98 22 4) 99 23 4) 101 25 6) 102 26 6) 103 27 6) 104 28 6) 105 29 6) 106 30 6) 107 31 6) 108 32 6) 8 4)) 8 5)) 84 6 ((zu (zu (zcp (zcp (zcp (zcp (zcp (zcp (zcp (zcp (zcp (zcp (zcp (zcp (zcp (zcp (zcp (zcp (zcp (zcp (zcp (zcp (zcp s 85 9 6) 87 11 4) 88 12 4) 89 13 4) 90 14 4) 91 15 4) 92 16 4) 94 18 4) 95 19 4) 96 20 4) 97 21 4) 98 22 4) 99 23 4) 101 25 6) 102 26 6) 103 27 6) 104 28 6) 105 29 6) 106 30 6) 107 31 6) 108 32 6) 84 4 ((zcp (zcp (zcp (zcp (zcp (zcp (zcp (zcp (zcp (zcp (zcp (zcp (zcp (zcp (zcp (zcp (zcp (zcp (zcp (zcp (zcp s 85 9 6) 87 11 4) 88 12 4) 89 13 4) 90 14 4) 91 15 4) 92 16 4) 94 18 4) 95 19 4) 96 20 4) 97 21 4) 98 22 4) 99 23 4) 101 25 6) 102 26 6) 103 27 6) 104 28 6) 105 29 6) 106 30 6) 107 31 6) 108 32 6) 8 4)) 84 5 ((zu (zcp (zcp (zcp (zcp (zcp (zcp (zcp (zcp (zcp (zcp (zcp (zcp (zcp (zcp (zcp (zcp (zcp (zcp (zcp (zcp (zcp s 85 9 6) 87 11 4) 88 12 4) 89 13 4) 90 14 4) 91 15 4) 92 16 4) 94 18 4) 95 19 4) 96 20 4) 97 21 4) 98 22 4) 99 23 4) 101 25 6) 102 26 6) 103 27 6) 104 28 6) 105 29 6) 106 30 6) 107 31 6) 108 32 6) 84 4 ((zcp (zcp (zcp (zcp (zcp (zcp (zcp (zcp (zcp (zcp (zcp (zcp (zcp (zcp (zcp (zcp (zcp (zcp (zcp (zcp (zcp s 85 9 6) 87 11 4) 88 12 4) 89 13 4) 90 14 4) 91 15 4) 92 16 4) 94 18 4) 95 19 4) 96 20 4) 97 21 4) 98 22 4) 99 23 4) 101 25 6) 102 26 6) 103 27 6) 104 28 6) 105 29 6) 106 30 6) 107 31 6) 108 32 6) 8 4)) 8 5)) 8 6))
set_option maxRecDepth 100000 in
set_option maxHeartbeats 4000000 in
theorem c_X1_copyFrom84_8 (l : Launch) (B : zB) (s : zS) (t : zL)  : zD l B mX1_copyFrom s t [.ref (B.1 + 84), .ref (B.1 + 8)] none (wCopy84_8 s) t := by
  refine z_met (by decide) (Nat.le_of_ble_eq_true rfl) ?_
  intro X hl C E hnm
  show Zf X B mX1_copyFrom s t 0 [(0, .ref (B.1 + 84)), (1, .ref (B.1 + 8))] []
  refine z_aload_n C dX1_copyFrom_0 0 rfl rfl ?_
  refine f_get1 C 0 (v := .ref (B.1 + 85)) (by decide) tw_167 rfl zk_84 zb_84 rfl dX1_copyFrom_1 ?_
  refine z_aload_n C dX1_copyFrom_4 1 rfl rfl ?_
  refine f_get1 C 0 (v := .ref (B.1 + 9)) (by decide) tw_167 rfl zk_8 zb_8 rfl dX1_copyFrom_5 ?_
  refine f_callVv C hl (As := [.ref (B.1 + 9)]) (rest := []) (c_X8_copyFrom l B s t 85 9 zk_85 zb_85 zk_9 zb_9) zb_85 (zg_8 zk_85) rfl (zCB (nA := 1) C rfl rfl tw_445 tw_9 tw_442 (by decide +kernel) ⟨Nat.le_of_ble_eq_true rfl, Nat.le_of_ble_eq_true rfl⟩) tw_443 tw_444 rfl rfl (Nat.le_of_ble_eq_true rfl) dX1_copyFrom_8 (Nat.zero_le _) ?_
  refine z_iconst C dX1_copyFrom_11 ki_0 ?_
  refine z_istore_n C [(2, .int 0), (0, .ref (B.1 + 84)), (1, .ref (B.1 + 8))] dX1_copyFrom_12 rfl (by decide) rfl ?_
  refine z_iload_n C dX1_copyFrom_13 0 rfl rfl ?_
  refine z_aload_n C dX1_copyFrom_14 1 rfl rfl ?_
  refine f_get1 C 1 (v := .ref (B.1 + 86)) (by decide) tw_169 rfl zk_84 zb_84 rfl dX1_copyFrom_15 ?_
  refine f_alen23 C (v := 6) zk_86 zb_86 rfl dX1_copyFrom_18 ?_
  refine z_icmp_ge C 52 dX1_copyFrom_19 (by decide) (fun hbr => absurd hbr (by decide)) (fun _ => ?_)
  refine z_iload_n C dX1_copyFrom_22 0 rfl rfl ?_
  refine z_aload_n C dX1_copyFrom_23 2 rfl rfl ?_
  refine f_get1 C 1 (v := .ref (B.1 + 10)) (by decide) tw_169 rfl zk_8 zb_8 rfl dX1_copyFrom_24 ?_
  refine f_alen23 C (v := 6) zk_10 zb_10 rfl dX1_copyFrom_27 ?_
  refine z_icmp_ge C 52 dX1_copyFrom_28 (by decide) (fun hbr => absurd hbr (by decide)) (fun _ => ?_)
  refine z_aload_n C dX1_copyFrom_31 1 rfl rfl ?_
  refine f_get1 C 1 (v := .ref (B.1 + 86)) (by decide) tw_169 rfl zk_84 zb_84 rfl dX1_copyFrom_32 ?_
  refine z_iload_n C dX1_copyFrom_35 0 rfl rfl ?_
  refine f_aaldL23 C zk_86 zb_86 (by unfold vp_in; decide) (r := 87) (by decide) dX1_copyFrom_36 ?_
  refine z_aload_n C dX1_copyFrom_37 2 rfl rfl ?_
  refine f_get1 C 1 (v := .ref (B.1 + 10)) (by decide) tw_169 rfl zk_8 zb_8 rfl dX1_copyFrom_38 ?_
  refine z_iload_n C dX1_copyFrom_41 0 rfl rfl ?_
  refine f_aaldL23 C zk_10 zb_10 (by unfold vp_in; decide) (r := 11) (by decide) dX1_copyFrom_42 ?_
  refine f_callVv C hl (As := [.ref (B.1 + 11)]) (rest := []) (c_X0_copyFrom l B (zcp s 85 9 6) t 87 11 zk_87 zb_87 zk_11 zb_11) zb_87 (zg_0 zk_87) rfl (zCB (nA := 1) C rfl rfl tw_449 tw_10 tw_446 (by decide +kernel) ⟨Nat.le_of_ble_eq_true rfl, Nat.le_of_ble_eq_true rfl⟩) tw_447 tw_448 rfl rfl (Nat.le_of_ble_eq_true rfl) dX1_copyFrom_43 (Nat.zero_le _) ?_
  refine z_iinc C [(2, .int 1), (0, .ref (B.1 + 84)), (1, .ref (B.1 + 8))] dX1_copyFrom_46 0 rfl (by decide) (by decide) rfl ?_
  refine z_goto C 13 dX1_copyFrom_49 (by decide) ?_
  refine z_iload_n C dX1_copyFrom_13 0 rfl rfl ?_
  refine z_aload_n C dX1_copyFrom_14 1 rfl rfl ?_
  refine f_get1 C 1 (v := .ref (B.1 + 86)) (by decide) tw_169 rfl zk_84 zb_84 rfl dX1_copyFrom_15 ?_
  refine f_alen23 C (v := 6) zk_86 zb_86 rfl dX1_copyFrom_18 ?_
  refine z_icmp_ge C 52 dX1_copyFrom_19 (by decide) (fun hbr => absurd hbr (by decide)) (fun _ => ?_)
  refine z_iload_n C dX1_copyFrom_22 0 rfl rfl ?_
  refine z_aload_n C dX1_copyFrom_23 2 rfl rfl ?_
  refine f_get1 C 1 (v := .ref (B.1 + 10)) (by decide) tw_169 rfl zk_8 zb_8 rfl dX1_copyFrom_24 ?_
  refine f_alen23 C (v := 6) zk_10 zb_10 rfl dX1_copyFrom_27 ?_
  refine z_icmp_ge C 52 dX1_copyFrom_28 (by decide) (fun hbr => absurd hbr (by decide)) (fun _ => ?_)
  refine z_aload_n C dX1_copyFrom_31 1 rfl rfl ?_
  refine f_get1 C 1 (v := .ref (B.1 + 86)) (by decide) tw_169 rfl zk_84 zb_84 rfl dX1_copyFrom_32 ?_
  refine z_iload_n C dX1_copyFrom_35 0 rfl rfl ?_
  refine f_aaldL23 C zk_86 zb_86 (by unfold vp_in; decide) (r := 88) (by decide) dX1_copyFrom_36 ?_
  refine z_aload_n C dX1_copyFrom_37 2 rfl rfl ?_
  refine f_get1 C 1 (v := .ref (B.1 + 10)) (by decide) tw_169 rfl zk_8 zb_8 rfl dX1_copyFrom_38 ?_
  refine z_iload_n C dX1_copyFrom_41 0 rfl rfl ?_
  refine f_aaldL23 C zk_10 zb_10 (by unfold vp_in; decide) (r := 12) (by decide) dX1_copyFrom_42 ?_
  refine f_callVv C hl (As := [.ref (B.1 + 12)]) (rest := []) (c_X0_copyFrom l B (zcp (zcp s 85 9 6) 87 11 4) t 88 12 zk_88 zb_88 zk_12 zb_12) zb_88 (zg_0 zk_88) rfl (zCB (nA := 1) C rfl rfl tw_449 tw_10 tw_446 (by decide +kernel) ⟨Nat.le_of_ble_eq_true rfl, Nat.le_of_ble_eq_true rfl⟩) tw_447 tw_448 rfl rfl (Nat.le_of_ble_eq_true rfl) dX1_copyFrom_43 (Nat.zero_le _) ?_
  refine z_iinc C [(2, .int 2), (0, .ref (B.1 + 84)), (1, .ref (B.1 + 8))] dX1_copyFrom_46 0 rfl (by decide) (by decide) rfl ?_
  refine z_goto C 13 dX1_copyFrom_49 (by decide) ?_
  refine z_iload_n C dX1_copyFrom_13 0 rfl rfl ?_
  refine z_aload_n C dX1_copyFrom_14 1 rfl rfl ?_
  refine f_get1 C 1 (v := .ref (B.1 + 86)) (by decide) tw_169 rfl zk_84 zb_84 rfl dX1_copyFrom_15 ?_
  refine f_alen23 C (v := 6) zk_86 zb_86 rfl dX1_copyFrom_18 ?_
  refine z_icmp_ge C 52 dX1_copyFrom_19 (by decide) (fun hbr => absurd hbr (by decide)) (fun _ => ?_)
  refine z_iload_n C dX1_copyFrom_22 0 rfl rfl ?_
  refine z_aload_n C dX1_copyFrom_23 2 rfl rfl ?_
  refine f_get1 C 1 (v := .ref (B.1 + 10)) (by decide) tw_169 rfl zk_8 zb_8 rfl dX1_copyFrom_24 ?_
  refine f_alen23 C (v := 6) zk_10 zb_10 rfl dX1_copyFrom_27 ?_
  refine z_icmp_ge C 52 dX1_copyFrom_28 (by decide) (fun hbr => absurd hbr (by decide)) (fun _ => ?_)
  refine z_aload_n C dX1_copyFrom_31 1 rfl rfl ?_
  refine f_get1 C 1 (v := .ref (B.1 + 86)) (by decide) tw_169 rfl zk_84 zb_84 rfl dX1_copyFrom_32 ?_
  refine z_iload_n C dX1_copyFrom_35 0 rfl rfl ?_
  refine f_aaldL23 C zk_86 zb_86 (by unfold vp_in; decide) (r := 89) (by decide) dX1_copyFrom_36 ?_
  refine z_aload_n C dX1_copyFrom_37 2 rfl rfl ?_
  refine f_get1 C 1 (v := .ref (B.1 + 10)) (by decide) tw_169 rfl zk_8 zb_8 rfl dX1_copyFrom_38 ?_
  refine z_iload_n C dX1_copyFrom_41 0 rfl rfl ?_
  refine f_aaldL23 C zk_10 zb_10 (by unfold vp_in; decide) (r := 13) (by decide) dX1_copyFrom_42 ?_
  refine f_callVv C hl (As := [.ref (B.1 + 13)]) (rest := []) (c_X0_copyFrom l B (zcp (zcp (zcp s 85 9 6) 87 11 4) 88 12 4) t 89 13 zk_89 zb_89 zk_13 zb_13) zb_89 (zg_0 zk_89) rfl (zCB (nA := 1) C rfl rfl tw_449 tw_10 tw_446 (by decide +kernel) ⟨Nat.le_of_ble_eq_true rfl, Nat.le_of_ble_eq_true rfl⟩) tw_447 tw_448 rfl rfl (Nat.le_of_ble_eq_true rfl) dX1_copyFrom_43 (Nat.zero_le _) ?_
  refine z_iinc C [(2, .int 3), (0, .ref (B.1 + 84)), (1, .ref (B.1 + 8))] dX1_copyFrom_46 0 rfl (by decide) (by decide) rfl ?_
  refine z_goto C 13 dX1_copyFrom_49 (by decide) ?_
  refine z_iload_n C dX1_copyFrom_13 0 rfl rfl ?_
  refine z_aload_n C dX1_copyFrom_14 1 rfl rfl ?_
  refine f_get1 C 1 (v := .ref (B.1 + 86)) (by decide) tw_169 rfl zk_84 zb_84 rfl dX1_copyFrom_15 ?_
  refine f_alen23 C (v := 6) zk_86 zb_86 rfl dX1_copyFrom_18 ?_
  refine z_icmp_ge C 52 dX1_copyFrom_19 (by decide) (fun hbr => absurd hbr (by decide)) (fun _ => ?_)
  refine z_iload_n C dX1_copyFrom_22 0 rfl rfl ?_
  refine z_aload_n C dX1_copyFrom_23 2 rfl rfl ?_
  refine f_get1 C 1 (v := .ref (B.1 + 10)) (by decide) tw_169 rfl zk_8 zb_8 rfl dX1_copyFrom_24 ?_
  refine f_alen23 C (v := 6) zk_10 zb_10 rfl dX1_copyFrom_27 ?_
  refine z_icmp_ge C 52 dX1_copyFrom_28 (by decide) (fun hbr => absurd hbr (by decide)) (fun _ => ?_)
  refine z_aload_n C dX1_copyFrom_31 1 rfl rfl ?_
  refine f_get1 C 1 (v := .ref (B.1 + 86)) (by decide) tw_169 rfl zk_84 zb_84 rfl dX1_copyFrom_32 ?_
  refine z_iload_n C dX1_copyFrom_35 0 rfl rfl ?_
  refine f_aaldL23 C zk_86 zb_86 (by unfold vp_in; decide) (r := 90) (by decide) dX1_copyFrom_36 ?_
  refine z_aload_n C dX1_copyFrom_37 2 rfl rfl ?_
  refine f_get1 C 1 (v := .ref (B.1 + 10)) (by decide) tw_169 rfl zk_8 zb_8 rfl dX1_copyFrom_38 ?_
  refine z_iload_n C dX1_copyFrom_41 0 rfl rfl ?_
  refine f_aaldL23 C zk_10 zb_10 (by unfold vp_in; decide) (r := 14) (by decide) dX1_copyFrom_42 ?_
  refine f_callVv C hl (As := [.ref (B.1 + 14)]) (rest := []) (c_X0_copyFrom l B (zcp (zcp (zcp (zcp s 85 9 6) 87 11 4) 88 12 4) 89 13 4) t 90 14 zk_90 zb_90 zk_14 zb_14) zb_90 (zg_0 zk_90) rfl (zCB (nA := 1) C rfl rfl tw_449 tw_10 tw_446 (by decide +kernel) ⟨Nat.le_of_ble_eq_true rfl, Nat.le_of_ble_eq_true rfl⟩) tw_447 tw_448 rfl rfl (Nat.le_of_ble_eq_true rfl) dX1_copyFrom_43 (Nat.zero_le _) ?_
  refine z_iinc C [(2, .int 4), (0, .ref (B.1 + 84)), (1, .ref (B.1 + 8))] dX1_copyFrom_46 0 rfl (by decide) (by decide) rfl ?_
  refine z_goto C 13 dX1_copyFrom_49 (by decide) ?_
  refine z_iload_n C dX1_copyFrom_13 0 rfl rfl ?_
  refine z_aload_n C dX1_copyFrom_14 1 rfl rfl ?_
  refine f_get1 C 1 (v := .ref (B.1 + 86)) (by decide) tw_169 rfl zk_84 zb_84 rfl dX1_copyFrom_15 ?_
  refine f_alen23 C (v := 6) zk_86 zb_86 rfl dX1_copyFrom_18 ?_
  refine z_icmp_ge C 52 dX1_copyFrom_19 (by decide) (fun hbr => absurd hbr (by decide)) (fun _ => ?_)
  refine z_iload_n C dX1_copyFrom_22 0 rfl rfl ?_
  refine z_aload_n C dX1_copyFrom_23 2 rfl rfl ?_
  refine f_get1 C 1 (v := .ref (B.1 + 10)) (by decide) tw_169 rfl zk_8 zb_8 rfl dX1_copyFrom_24 ?_
  refine f_alen23 C (v := 6) zk_10 zb_10 rfl dX1_copyFrom_27 ?_
  refine z_icmp_ge C 52 dX1_copyFrom_28 (by decide) (fun hbr => absurd hbr (by decide)) (fun _ => ?_)
  refine z_aload_n C dX1_copyFrom_31 1 rfl rfl ?_
  refine f_get1 C 1 (v := .ref (B.1 + 86)) (by decide) tw_169 rfl zk_84 zb_84 rfl dX1_copyFrom_32 ?_
  refine z_iload_n C dX1_copyFrom_35 0 rfl rfl ?_
  refine f_aaldL23 C zk_86 zb_86 (by unfold vp_in; decide) (r := 91) (by decide) dX1_copyFrom_36 ?_
  refine z_aload_n C dX1_copyFrom_37 2 rfl rfl ?_
  refine f_get1 C 1 (v := .ref (B.1 + 10)) (by decide) tw_169 rfl zk_8 zb_8 rfl dX1_copyFrom_38 ?_
  refine z_iload_n C dX1_copyFrom_41 0 rfl rfl ?_
  refine f_aaldL23 C zk_10 zb_10 (by unfold vp_in; decide) (r := 15) (by decide) dX1_copyFrom_42 ?_
  refine f_callVv C hl (As := [.ref (B.1 + 15)]) (rest := []) (c_X0_copyFrom l B (zcp (zcp (zcp (zcp (zcp s 85 9 6) 87 11 4) 88 12 4) 89 13 4) 90 14 4) t 91 15 zk_91 zb_91 zk_15 zb_15) zb_91 (zg_0 zk_91) rfl (zCB (nA := 1) C rfl rfl tw_449 tw_10 tw_446 (by decide +kernel) ⟨Nat.le_of_ble_eq_true rfl, Nat.le_of_ble_eq_true rfl⟩) tw_447 tw_448 rfl rfl (Nat.le_of_ble_eq_true rfl) dX1_copyFrom_43 (Nat.zero_le _) ?_
  refine z_iinc C [(2, .int 5), (0, .ref (B.1 + 84)), (1, .ref (B.1 + 8))] dX1_copyFrom_46 0 rfl (by decide) (by decide) rfl ?_
  refine z_goto C 13 dX1_copyFrom_49 (by decide) ?_
  refine z_iload_n C dX1_copyFrom_13 0 rfl rfl ?_
  refine z_aload_n C dX1_copyFrom_14 1 rfl rfl ?_
  refine f_get1 C 1 (v := .ref (B.1 + 86)) (by decide) tw_169 rfl zk_84 zb_84 rfl dX1_copyFrom_15 ?_
  refine f_alen23 C (v := 6) zk_86 zb_86 rfl dX1_copyFrom_18 ?_
  refine z_icmp_ge C 52 dX1_copyFrom_19 (by decide) (fun hbr => absurd hbr (by decide)) (fun _ => ?_)
  refine z_iload_n C dX1_copyFrom_22 0 rfl rfl ?_
  refine z_aload_n C dX1_copyFrom_23 2 rfl rfl ?_
  refine f_get1 C 1 (v := .ref (B.1 + 10)) (by decide) tw_169 rfl zk_8 zb_8 rfl dX1_copyFrom_24 ?_
  refine f_alen23 C (v := 6) zk_10 zb_10 rfl dX1_copyFrom_27 ?_
  refine z_icmp_ge C 52 dX1_copyFrom_28 (by decide) (fun hbr => absurd hbr (by decide)) (fun _ => ?_)
  refine z_aload_n C dX1_copyFrom_31 1 rfl rfl ?_
  refine f_get1 C 1 (v := .ref (B.1 + 86)) (by decide) tw_169 rfl zk_84 zb_84 rfl dX1_copyFrom_32 ?_
  refine z_iload_n C dX1_copyFrom_35 0 rfl rfl ?_
  refine f_aaldL23 C zk_86 zb_86 (by unfold vp_in; decide) (r := 92) (by decide) dX1_copyFrom_36 ?_
  refine z_aload_n C dX1_copyFrom_37 2 rfl rfl ?_
  refine f_get1 C 1 (v := .ref (B.1 + 10)) (by decide) tw_169 rfl zk_8 zb_8 rfl dX1_copyFrom_38 ?_
  refine z_iload_n C dX1_copyFrom_41 0 rfl rfl ?_
  refine f_aaldL23 C zk_10 zb_10 (by unfold vp_in; decide) (r := 16) (by decide) dX1_copyFrom_42 ?_
  refine f_callVv C hl (As := [.ref (B.1 + 16)]) (rest := []) (c_X0_copyFrom l B (zcp (zcp (zcp (zcp (zcp (zcp s 85 9 6) 87 11 4) 88 12 4) 89 13 4) 90 14 4) 91 15 4) t 92 16 zk_92 zb_92 zk_16 zb_16) zb_92 (zg_0 zk_92) rfl (zCB (nA := 1) C rfl rfl tw_449 tw_10 tw_446 (by decide +kernel) ⟨Nat.le_of_ble_eq_true rfl, Nat.le_of_ble_eq_true rfl⟩) tw_447 tw_448 rfl rfl (Nat.le_of_ble_eq_true rfl) dX1_copyFrom_43 (Nat.zero_le _) ?_
  refine z_iinc C [(2, .int 6), (0, .ref (B.1 + 84)), (1, .ref (B.1 + 8))] dX1_copyFrom_46 0 rfl (by decide) (by decide) rfl ?_
  refine z_goto C 13 dX1_copyFrom_49 (by decide) ?_
  refine z_iload_n C dX1_copyFrom_13 0 rfl rfl ?_
  refine z_aload_n C dX1_copyFrom_14 1 rfl rfl ?_
  refine f_get1 C 1 (v := .ref (B.1 + 86)) (by decide) tw_169 rfl zk_84 zb_84 rfl dX1_copyFrom_15 ?_
  refine f_alen23 C (v := 6) zk_86 zb_86 rfl dX1_copyFrom_18 ?_
  refine z_icmp_ge C 52 dX1_copyFrom_19 (by decide) (fun _ => ?_) (fun hbr => absurd (by decide) hbr)
  refine z_iconst C dX1_copyFrom_52 ki_0 ?_
  refine z_istore_n C [(2, .int 0), (0, .ref (B.1 + 84)), (1, .ref (B.1 + 8))] dX1_copyFrom_53 rfl (by decide) rfl ?_
  refine z_iload_n C dX1_copyFrom_54 0 rfl rfl ?_
  refine z_aload_n C dX1_copyFrom_55 1 rfl rfl ?_
  refine f_get1 C 2 (v := .ref (B.1 + 93)) (by decide) tw_170 rfl zk_84 zb_84 rfl dX1_copyFrom_56 ?_
  refine f_alen25 C (v := 6) zk_93 zb_93 rfl dX1_copyFrom_59 ?_
  refine z_icmp_ge C 93 dX1_copyFrom_60 (by decide) (fun hbr => absurd hbr (by decide)) (fun _ => ?_)
  refine z_iload_n C dX1_copyFrom_63 0 rfl rfl ?_
  refine z_aload_n C dX1_copyFrom_64 2 rfl rfl ?_
  refine f_get1 C 2 (v := .ref (B.1 + 17)) (by decide) tw_170 rfl zk_8 zb_8 rfl dX1_copyFrom_65 ?_
  refine f_alen25 C (v := 6) zk_17 zb_17 rfl dX1_copyFrom_68 ?_
  refine z_icmp_ge C 93 dX1_copyFrom_69 (by decide) (fun hbr => absurd hbr (by decide)) (fun _ => ?_)
  refine z_aload_n C dX1_copyFrom_72 1 rfl rfl ?_
  refine f_get1 C 2 (v := .ref (B.1 + 93)) (by decide) tw_170 rfl zk_84 zb_84 rfl dX1_copyFrom_73 ?_
  refine z_iload_n C dX1_copyFrom_76 0 rfl rfl ?_
  refine f_aaldL25 C zk_93 zb_93 (by unfold vp_in; decide) (r := 94) (by decide) dX1_copyFrom_77 ?_
  refine z_aload_n C dX1_copyFrom_78 2 rfl rfl ?_
  refine f_get1 C 2 (v := .ref (B.1 + 17)) (by decide) tw_170 rfl zk_8 zb_8 rfl dX1_copyFrom_79 ?_
  refine z_iload_n C dX1_copyFrom_82 0 rfl rfl ?_
  refine f_aaldL25 C zk_17 zb_17 (by unfold vp_in; decide) (r := 18) (by decide) dX1_copyFrom_83 ?_
  refine f_callVv C hl (As := [.ref (B.1 + 18)]) (rest := []) (c_X4_copyFrom l B (zcp (zcp (zcp (zcp (zcp (zcp (zcp s 85 9 6) 87 11 4) 88 12 4) 89 13 4) 90 14 4) 91 15 4) 92 16 4) t 94 18 zk_94 zb_94 zk_18 zb_18) zb_94 (zg_4 zk_94) rfl (zCB (nA := 1) C rfl rfl tw_453 tw_11 tw_450 (by decide +kernel) ⟨Nat.le_of_ble_eq_true rfl, Nat.le_of_ble_eq_true rfl⟩) tw_451 tw_452 rfl rfl (Nat.le_of_ble_eq_true rfl) dX1_copyFrom_84 (Nat.zero_le _) ?_
  refine z_iinc C [(2, .int 1), (0, .ref (B.1 + 84)), (1, .ref (B.1 + 8))] dX1_copyFrom_87 0 rfl (by decide) (by decide) rfl ?_
  refine z_goto C 54 dX1_copyFrom_90 (by decide) ?_
  refine z_iload_n C dX1_copyFrom_54 0 rfl rfl ?_
  refine z_aload_n C dX1_copyFrom_55 1 rfl rfl ?_
  refine f_get1 C 2 (v := .ref (B.1 + 93)) (by decide) tw_170 rfl zk_84 zb_84 rfl dX1_copyFrom_56 ?_
  refine f_alen25 C (v := 6) zk_93 zb_93 rfl dX1_copyFrom_59 ?_
  refine z_icmp_ge C 93 dX1_copyFrom_60 (by decide) (fun hbr => absurd hbr (by decide)) (fun _ => ?_)
  refine z_iload_n C dX1_copyFrom_63 0 rfl rfl ?_
  refine z_aload_n C dX1_copyFrom_64 2 rfl rfl ?_
  refine f_get1 C 2 (v := .ref (B.1 + 17)) (by decide) tw_170 rfl zk_8 zb_8 rfl dX1_copyFrom_65 ?_
  refine f_alen25 C (v := 6) zk_17 zb_17 rfl dX1_copyFrom_68 ?_
  refine z_icmp_ge C 93 dX1_copyFrom_69 (by decide) (fun hbr => absurd hbr (by decide)) (fun _ => ?_)
  refine z_aload_n C dX1_copyFrom_72 1 rfl rfl ?_
  refine f_get1 C 2 (v := .ref (B.1 + 93)) (by decide) tw_170 rfl zk_84 zb_84 rfl dX1_copyFrom_73 ?_
  refine z_iload_n C dX1_copyFrom_76 0 rfl rfl ?_
  refine f_aaldL25 C zk_93 zb_93 (by unfold vp_in; decide) (r := 95) (by decide) dX1_copyFrom_77 ?_
  refine z_aload_n C dX1_copyFrom_78 2 rfl rfl ?_
  refine f_get1 C 2 (v := .ref (B.1 + 17)) (by decide) tw_170 rfl zk_8 zb_8 rfl dX1_copyFrom_79 ?_
  refine z_iload_n C dX1_copyFrom_82 0 rfl rfl ?_
  refine f_aaldL25 C zk_17 zb_17 (by unfold vp_in; decide) (r := 19) (by decide) dX1_copyFrom_83 ?_
  refine f_callVv C hl (As := [.ref (B.1 + 19)]) (rest := []) (c_X4_copyFrom l B (zcp (zcp (zcp (zcp (zcp (zcp (zcp (zcp s 85 9 6) 87 11 4) 88 12 4) 89 13 4) 90 14 4) 91 15 4) 92 16 4) 94 18 4) t 95 19 zk_95 zb_95 zk_19 zb_19) zb_95 (zg_4 zk_95) rfl (zCB (nA := 1) C rfl rfl tw_453 tw_11 tw_450 (by decide +kernel) ⟨Nat.le_of_ble_eq_true rfl, Nat.le_of_ble_eq_true rfl⟩) tw_451 tw_452 rfl rfl (Nat.le_of_ble_eq_true rfl) dX1_copyFrom_84 (Nat.zero_le _) ?_
  refine z_iinc C [(2, .int 2), (0, .ref (B.1 + 84)), (1, .ref (B.1 + 8))] dX1_copyFrom_87 0 rfl (by decide) (by decide) rfl ?_
  refine z_goto C 54 dX1_copyFrom_90 (by decide) ?_
  refine z_iload_n C dX1_copyFrom_54 0 rfl rfl ?_
  refine z_aload_n C dX1_copyFrom_55 1 rfl rfl ?_
  refine f_get1 C 2 (v := .ref (B.1 + 93)) (by decide) tw_170 rfl zk_84 zb_84 rfl dX1_copyFrom_56 ?_
  refine f_alen25 C (v := 6) zk_93 zb_93 rfl dX1_copyFrom_59 ?_
  refine z_icmp_ge C 93 dX1_copyFrom_60 (by decide) (fun hbr => absurd hbr (by decide)) (fun _ => ?_)
  refine z_iload_n C dX1_copyFrom_63 0 rfl rfl ?_
  refine z_aload_n C dX1_copyFrom_64 2 rfl rfl ?_
  refine f_get1 C 2 (v := .ref (B.1 + 17)) (by decide) tw_170 rfl zk_8 zb_8 rfl dX1_copyFrom_65 ?_
  refine f_alen25 C (v := 6) zk_17 zb_17 rfl dX1_copyFrom_68 ?_
  refine z_icmp_ge C 93 dX1_copyFrom_69 (by decide) (fun hbr => absurd hbr (by decide)) (fun _ => ?_)
  refine z_aload_n C dX1_copyFrom_72 1 rfl rfl ?_
  refine f_get1 C 2 (v := .ref (B.1 + 93)) (by decide) tw_170 rfl zk_84 zb_84 rfl dX1_copyFrom_73 ?_
  refine z_iload_n C dX1_copyFrom_76 0 rfl rfl ?_
  refine f_aaldL25 C zk_93 zb_93 (by unfold vp_in; decide) (r := 96) (by decide) dX1_copyFrom_77 ?_
  refine z_aload_n C dX1_copyFrom_78 2 rfl rfl ?_
  refine f_get1 C 2 (v := .ref (B.1 + 17)) (by decide) tw_170 rfl zk_8 zb_8 rfl dX1_copyFrom_79 ?_
  refine z_iload_n C dX1_copyFrom_82 0 rfl rfl ?_
  refine f_aaldL25 C zk_17 zb_17 (by unfold vp_in; decide) (r := 20) (by decide) dX1_copyFrom_83 ?_
  refine f_callVv C hl (As := [.ref (B.1 + 20)]) (rest := []) (c_X4_copyFrom l B (zcp (zcp (zcp (zcp (zcp (zcp (zcp (zcp (zcp s 85 9 6) 87 11 4) 88 12 4) 89 13 4) 90 14 4) 91 15 4) 92 16 4) 94 18 4) 95 19 4) t 96 20 zk_96 zb_96 zk_20 zb_20) zb_96 (zg_4 zk_96) rfl (zCB (nA := 1) C rfl rfl tw_453 tw_11 tw_450 (by decide +kernel) ⟨Nat.le_of_ble_eq_true rfl, Nat.le_of_ble_eq_true rfl⟩) tw_451 tw_452 rfl rfl (Nat.le_of_ble_eq_true rfl) dX1_copyFrom_84 (Nat.zero_le _) ?_
  refine z_iinc C [(2, .int 3), (0, .ref (B.1 + 84)), (1, .ref (B.1 + 8))] dX1_copyFrom_87 0 rfl (by decide) (by decide) rfl ?_
  refine z_goto C 54 dX1_copyFrom_90 (by decide) ?_
  refine z_iload_n C dX1_copyFrom_54 0 rfl rfl ?_
  refine z_aload_n C dX1_copyFrom_55 1 rfl rfl ?_
  refine f_get1 C 2 (v := .ref (B.1 + 93)) (by decide) tw_170 rfl zk_84 zb_84 rfl dX1_copyFrom_56 ?_
  refine f_alen25 C (v := 6) zk_93 zb_93 rfl dX1_copyFrom_59 ?_
  refine z_icmp_ge C 93 dX1_copyFrom_60 (by decide) (fun hbr => absurd hbr (by decide)) (fun _ => ?_)
  refine z_iload_n C dX1_copyFrom_63 0 rfl rfl ?_
  refine z_aload_n C dX1_copyFrom_64 2 rfl rfl ?_
  refine f_get1 C 2 (v := .ref (B.1 + 17)) (by decide) tw_170 rfl zk_8 zb_8 rfl dX1_copyFrom_65 ?_
  refine f_alen25 C (v := 6) zk_17 zb_17 rfl dX1_copyFrom_68 ?_
  refine z_icmp_ge C 93 dX1_copyFrom_69 (by decide) (fun hbr => absurd hbr (by decide)) (fun _ => ?_)
  refine z_aload_n C dX1_copyFrom_72 1 rfl rfl ?_
  refine f_get1 C 2 (v := .ref (B.1 + 93)) (by decide) tw_170 rfl zk_84 zb_84 rfl dX1_copyFrom_73 ?_
  refine z_iload_n C dX1_copyFrom_76 0 rfl rfl ?_
  refine f_aaldL25 C zk_93 zb_93 (by unfold vp_in; decide) (r := 97) (by decide) dX1_copyFrom_77 ?_
  refine z_aload_n C dX1_copyFrom_78 2 rfl rfl ?_
  refine f_get1 C 2 (v := .ref (B.1 + 17)) (by decide) tw_170 rfl zk_8 zb_8 rfl dX1_copyFrom_79 ?_
  refine z_iload_n C dX1_copyFrom_82 0 rfl rfl ?_
  refine f_aaldL25 C zk_17 zb_17 (by unfold vp_in; decide) (r := 21) (by decide) dX1_copyFrom_83 ?_
  refine f_callVv C hl (As := [.ref (B.1 + 21)]) (rest := []) (c_X4_copyFrom l B (zcp (zcp (zcp (zcp (zcp (zcp (zcp (zcp (zcp (zcp s 85 9 6) 87 11 4) 88 12 4) 89 13 4) 90 14 4) 91 15 4) 92 16 4) 94 18 4) 95 19 4) 96 20 4) t 97 21 zk_97 zb_97 zk_21 zb_21) zb_97 (zg_4 zk_97) rfl (zCB (nA := 1) C rfl rfl tw_453 tw_11 tw_450 (by decide +kernel) ⟨Nat.le_of_ble_eq_true rfl, Nat.le_of_ble_eq_true rfl⟩) tw_451 tw_452 rfl rfl (Nat.le_of_ble_eq_true rfl) dX1_copyFrom_84 (Nat.zero_le _) ?_
  refine z_iinc C [(2, .int 4), (0, .ref (B.1 + 84)), (1, .ref (B.1 + 8))] dX1_copyFrom_87 0 rfl (by decide) (by decide) rfl ?_
  refine z_goto C 54 dX1_copyFrom_90 (by decide) ?_
  refine z_iload_n C dX1_copyFrom_54 0 rfl rfl ?_
  refine z_aload_n C dX1_copyFrom_55 1 rfl rfl ?_
  refine f_get1 C 2 (v := .ref (B.1 + 93)) (by decide) tw_170 rfl zk_84 zb_84 rfl dX1_copyFrom_56 ?_
  refine f_alen25 C (v := 6) zk_93 zb_93 rfl dX1_copyFrom_59 ?_
  refine z_icmp_ge C 93 dX1_copyFrom_60 (by decide) (fun hbr => absurd hbr (by decide)) (fun _ => ?_)
  refine z_iload_n C dX1_copyFrom_63 0 rfl rfl ?_
  refine z_aload_n C dX1_copyFrom_64 2 rfl rfl ?_
  refine f_get1 C 2 (v := .ref (B.1 + 17)) (by decide) tw_170 rfl zk_8 zb_8 rfl dX1_copyFrom_65 ?_
  refine f_alen25 C (v := 6) zk_17 zb_17 rfl dX1_copyFrom_68 ?_
  refine z_icmp_ge C 93 dX1_copyFrom_69 (by decide) (fun hbr => absurd hbr (by decide)) (fun _ => ?_)
  refine z_aload_n C dX1_copyFrom_72 1 rfl rfl ?_
  refine f_get1 C 2 (v := .ref (B.1 + 93)) (by decide) tw_170 rfl zk_84 zb_84 rfl dX1_copyFrom_73 ?_
  refine z_iload_n C dX1_copyFrom_76 0 rfl rfl ?_
  refine f_aaldL25 C zk_93 zb_93 (by unfold vp_in; decide) (r := 98) (by decide) dX1_copyFrom_77 ?_
  refine z_aload_n C dX1_copyFrom_78 2 rfl rfl ?_
  refine f_get1 C 2 (v := .ref (B.1 + 17)) (by decide) tw_170 rfl zk_8 zb_8 rfl dX1_copyFrom_79 ?_
  refine z_iload_n C dX1_copyFrom_82 0 rfl rfl ?_
  refine f_aaldL25 C zk_17 zb_17 (by unfold vp_in; decide) (r := 22) (by decide) dX1_copyFrom_83 ?_
  refine f_callVv C hl (As := [.ref (B.1 + 22)]) (rest := []) (c_X4_copyFrom l B (zcp (zcp (zcp (zcp (zcp (zcp (zcp (zcp (zcp (zcp (zcp s 85 9 6) 87 11 4) 88 12 4) 89 13 4) 90 14 4) 91 15 4) 92 16 4) 94 18 4) 95 19 4) 96 20 4) 97 21 4) t 98 22 zk_98 zb_98 zk_22 zb_22) zb_98 (zg_4 zk_98) rfl (zCB (nA := 1) C rfl rfl tw_453 tw_11 tw_450 (by decide +kernel) ⟨Nat.le_of_ble_eq_true rfl, Nat.le_of_ble_eq_true rfl⟩) tw_451 tw_452 rfl rfl (Nat.le_of_ble_eq_true rfl) dX1_copyFrom_84 (Nat.zero_le _) ?_
  refine z_iinc C [(2, .int 5), (0, .ref (B.1 + 84)), (1, .ref (B.1 + 8))] dX1_copyFrom_87 0 rfl (by decide) (by decide) rfl ?_
  refine z_goto C 54 dX1_copyFrom_90 (by decide) ?_
  refine z_iload_n C dX1_copyFrom_54 0 rfl rfl ?_
  refine z_aload_n C dX1_copyFrom_55 1 rfl rfl ?_
  refine f_get1 C 2 (v := .ref (B.1 + 93)) (by decide) tw_170 rfl zk_84 zb_84 rfl dX1_copyFrom_56 ?_
  refine f_alen25 C (v := 6) zk_93 zb_93 rfl dX1_copyFrom_59 ?_
  refine z_icmp_ge C 93 dX1_copyFrom_60 (by decide) (fun hbr => absurd hbr (by decide)) (fun _ => ?_)
  refine z_iload_n C dX1_copyFrom_63 0 rfl rfl ?_
  refine z_aload_n C dX1_copyFrom_64 2 rfl rfl ?_
  refine f_get1 C 2 (v := .ref (B.1 + 17)) (by decide) tw_170 rfl zk_8 zb_8 rfl dX1_copyFrom_65 ?_
  refine f_alen25 C (v := 6) zk_17 zb_17 rfl dX1_copyFrom_68 ?_
  refine z_icmp_ge C 93 dX1_copyFrom_69 (by decide) (fun hbr => absurd hbr (by decide)) (fun _ => ?_)
  refine z_aload_n C dX1_copyFrom_72 1 rfl rfl ?_
  refine f_get1 C 2 (v := .ref (B.1 + 93)) (by decide) tw_170 rfl zk_84 zb_84 rfl dX1_copyFrom_73 ?_
  refine z_iload_n C dX1_copyFrom_76 0 rfl rfl ?_
  refine f_aaldL25 C zk_93 zb_93 (by unfold vp_in; decide) (r := 99) (by decide) dX1_copyFrom_77 ?_
  refine z_aload_n C dX1_copyFrom_78 2 rfl rfl ?_
  refine f_get1 C 2 (v := .ref (B.1 + 17)) (by decide) tw_170 rfl zk_8 zb_8 rfl dX1_copyFrom_79 ?_
  refine z_iload_n C dX1_copyFrom_82 0 rfl rfl ?_
  refine f_aaldL25 C zk_17 zb_17 (by unfold vp_in; decide) (r := 23) (by decide) dX1_copyFrom_83 ?_
  refine f_callVv C hl (As := [.ref (B.1 + 23)]) (rest := []) (c_X4_copyFrom l B (zcp (zcp (zcp (zcp (zcp (zcp (zcp (zcp (zcp (zcp (zcp (zcp s 85 9 6) 87 11 4) 88 12 4) 89 13 4) 90 14 4) 91 15 4) 92 16 4) 94 18 4) 95 19 4) 96 20 4) 97 21 4) 98 22 4) t 99 23 zk_99 zb_99 zk_23 zb_23) zb_99 (zg_4 zk_99) rfl (zCB (nA := 1) C rfl rfl tw_453 tw_11 tw_450 (by decide +kernel) ⟨Nat.le_of_ble_eq_true rfl, Nat.le_of_ble_eq_true rfl⟩) tw_451 tw_452 rfl rfl (Nat.le_of_ble_eq_true rfl) dX1_copyFrom_84 (Nat.zero_le _) ?_
  refine z_iinc C [(2, .int 6), (0, .ref (B.1 + 84)), (1, .ref (B.1 + 8))] dX1_copyFrom_87 0 rfl (by decide) (by decide) rfl ?_
  refine z_goto C 54 dX1_copyFrom_90 (by decide) ?_
  refine z_iload_n C dX1_copyFrom_54 0 rfl rfl ?_
  refine z_aload_n C dX1_copyFrom_55 1 rfl rfl ?_
  refine f_get1 C 2 (v := .ref (B.1 + 93)) (by decide) tw_170 rfl zk_84 zb_84 rfl dX1_copyFrom_56 ?_
  refine f_alen25 C (v := 6) zk_93 zb_93 rfl dX1_copyFrom_59 ?_
  refine z_icmp_ge C 93 dX1_copyFrom_60 (by decide) (fun _ => ?_) (fun hbr => absurd (by decide) hbr)
  refine z_iconst C dX1_copyFrom_93 ki_0 ?_
  refine z_istore_n C [(2, .int 0), (0, .ref (B.1 + 84)), (1, .ref (B.1 + 8))] dX1_copyFrom_94 rfl (by decide) rfl ?_
  refine z_iload_n C dX1_copyFrom_95 0 rfl rfl ?_
  refine z_aload_n C dX1_copyFrom_96 1 rfl rfl ?_
  refine f_get1 C 3 (v := .ref (B.1 + 100)) (by decide) tw_171 rfl zk_84 zb_84 rfl dX1_copyFrom_97 ?_
  refine f_alen27 C (v := 8) zk_100 zb_100 rfl dX1_copyFrom_100 ?_
  refine z_icmp_ge C 134 dX1_copyFrom_101 (by decide) (fun hbr => absurd hbr (by decide)) (fun _ => ?_)
  refine z_iload_n C dX1_copyFrom_104 0 rfl rfl ?_
  refine z_aload_n C dX1_copyFrom_105 2 rfl rfl ?_
  refine f_get1 C 3 (v := .ref (B.1 + 24)) (by decide) tw_171 rfl zk_8 zb_8 rfl dX1_copyFrom_106 ?_
  refine f_alen27 C (v := 8) zk_24 zb_24 rfl dX1_copyFrom_109 ?_
  refine z_icmp_ge C 134 dX1_copyFrom_110 (by decide) (fun hbr => absurd hbr (by decide)) (fun _ => ?_)
  refine z_aload_n C dX1_copyFrom_113 1 rfl rfl ?_
  refine f_get1 C 3 (v := .ref (B.1 + 100)) (by decide) tw_171 rfl zk_84 zb_84 rfl dX1_copyFrom_114 ?_
  refine z_iload_n C dX1_copyFrom_117 0 rfl rfl ?_
  refine f_aaldL27 C zk_100 zb_100 (by unfold vp_in; decide) (r := 101) (by decide) dX1_copyFrom_118 ?_
  refine z_aload_n C dX1_copyFrom_119 2 rfl rfl ?_
  refine f_get1 C 3 (v := .ref (B.1 + 24)) (by decide) tw_171 rfl zk_8 zb_8 rfl dX1_copyFrom_120 ?_
  refine z_iload_n C dX1_copyFrom_123 0 rfl rfl ?_
  refine f_aaldL27 C zk_24 zb_24 (by unfold vp_in; decide) (r := 25) (by decide) dX1_copyFrom_124 ?_
  refine f_callVv C hl (As := [.ref (B.1 + 25)]) (rest := []) (c_X8_copyFrom l B (zcp (zcp (zcp (zcp (zcp (zcp (zcp (zcp (zcp (zcp (zcp (zcp (zcp s 85 9 6) 87 11 4) 88 12 4) 89 13 4) 90 14 4) 91 15 4) 92 16 4) 94 18 4) 95 19 4) 96 20 4) 97 21 4) 98 22 4) 99 23 4) t 101 25 zk_101 zb_101 zk_25 zb_25) zb_101 (zg_8 zk_101) rfl (zCB (nA := 1) C rfl rfl tw_445 tw_9 tw_442 (by decide +kernel) ⟨Nat.le_of_ble_eq_true rfl, Nat.le_of_ble_eq_true rfl⟩) tw_443 tw_444 rfl rfl (Nat.le_of_ble_eq_true rfl) dX1_copyFrom_125 (Nat.zero_le _) ?_
  refine z_iinc C [(2, .int 1), (0, .ref (B.1 + 84)), (1, .ref (B.1 + 8))] dX1_copyFrom_128 0 rfl (by decide) (by decide) rfl ?_
  refine z_goto C 95 dX1_copyFrom_131 (by decide) ?_
  refine z_iload_n C dX1_copyFrom_95 0 rfl rfl ?_
  refine z_aload_n C dX1_copyFrom_96 1 rfl rfl ?_
  refine f_get1 C 3 (v := .ref (B.1 + 100)) (by decide) tw_171 rfl zk_84 zb_84 rfl dX1_copyFrom_97 ?_
  refine f_alen27 C (v := 8) zk_100 zb_100 rfl dX1_copyFrom_100 ?_
  refine z_icmp_ge C 134 dX1_copyFrom_101 (by decide) (fun hbr => absurd hbr (by decide)) (fun _ => ?_)
  refine z_iload_n C dX1_copyFrom_104 0 rfl rfl ?_
  refine z_aload_n C dX1_copyFrom_105 2 rfl rfl ?_
  refine f_get1 C 3 (v := .ref (B.1 + 24)) (by decide) tw_171 rfl zk_8 zb_8 rfl dX1_copyFrom_106 ?_
  refine f_alen27 C (v := 8) zk_24 zb_24 rfl dX1_copyFrom_109 ?_
  refine z_icmp_ge C 134 dX1_copyFrom_110 (by decide) (fun hbr => absurd hbr (by decide)) (fun _ => ?_)
  refine z_aload_n C dX1_copyFrom_113 1 rfl rfl ?_
  refine f_get1 C 3 (v := .ref (B.1 + 100)) (by decide) tw_171 rfl zk_84 zb_84 rfl dX1_copyFrom_114 ?_
  refine z_iload_n C dX1_copyFrom_117 0 rfl rfl ?_
  refine f_aaldL27 C zk_100 zb_100 (by unfold vp_in; decide) (r := 102) (by decide) dX1_copyFrom_118 ?_
  refine z_aload_n C dX1_copyFrom_119 2 rfl rfl ?_
  refine f_get1 C 3 (v := .ref (B.1 + 24)) (by decide) tw_171 rfl zk_8 zb_8 rfl dX1_copyFrom_120 ?_
  refine z_iload_n C dX1_copyFrom_123 0 rfl rfl ?_
  refine f_aaldL27 C zk_24 zb_24 (by unfold vp_in; decide) (r := 26) (by decide) dX1_copyFrom_124 ?_
  refine f_callVv C hl (As := [.ref (B.1 + 26)]) (rest := []) (c_X8_copyFrom l B (zcp (zcp (zcp (zcp (zcp (zcp (zcp (zcp (zcp (zcp (zcp (zcp (zcp (zcp s 85 9 6) 87 11 4) 88 12 4) 89 13 4) 90 14 4) 91 15 4) 92 16 4) 94 18 4) 95 19 4) 96 20 4) 97 21 4) 98 22 4) 99 23 4) 101 25 6) t 102 26 zk_102 zb_102 zk_26 zb_26) zb_102 (zg_8 zk_102) rfl (zCB (nA := 1) C rfl rfl tw_445 tw_9 tw_442 (by decide +kernel) ⟨Nat.le_of_ble_eq_true rfl, Nat.le_of_ble_eq_true rfl⟩) tw_443 tw_444 rfl rfl (Nat.le_of_ble_eq_true rfl) dX1_copyFrom_125 (Nat.zero_le _) ?_
  refine z_iinc C [(2, .int 2), (0, .ref (B.1 + 84)), (1, .ref (B.1 + 8))] dX1_copyFrom_128 0 rfl (by decide) (by decide) rfl ?_
  refine z_goto C 95 dX1_copyFrom_131 (by decide) ?_
  refine z_iload_n C dX1_copyFrom_95 0 rfl rfl ?_
  refine z_aload_n C dX1_copyFrom_96 1 rfl rfl ?_
  refine f_get1 C 3 (v := .ref (B.1 + 100)) (by decide) tw_171 rfl zk_84 zb_84 rfl dX1_copyFrom_97 ?_
  refine f_alen27 C (v := 8) zk_100 zb_100 rfl dX1_copyFrom_100 ?_
  refine z_icmp_ge C 134 dX1_copyFrom_101 (by decide) (fun hbr => absurd hbr (by decide)) (fun _ => ?_)
  refine z_iload_n C dX1_copyFrom_104 0 rfl rfl ?_
  refine z_aload_n C dX1_copyFrom_105 2 rfl rfl ?_
  refine f_get1 C 3 (v := .ref (B.1 + 24)) (by decide) tw_171 rfl zk_8 zb_8 rfl dX1_copyFrom_106 ?_
  refine f_alen27 C (v := 8) zk_24 zb_24 rfl dX1_copyFrom_109 ?_
  refine z_icmp_ge C 134 dX1_copyFrom_110 (by decide) (fun hbr => absurd hbr (by decide)) (fun _ => ?_)
  refine z_aload_n C dX1_copyFrom_113 1 rfl rfl ?_
  refine f_get1 C 3 (v := .ref (B.1 + 100)) (by decide) tw_171 rfl zk_84 zb_84 rfl dX1_copyFrom_114 ?_
  refine z_iload_n C dX1_copyFrom_117 0 rfl rfl ?_
  refine f_aaldL27 C zk_100 zb_100 (by unfold vp_in; decide) (r := 103) (by decide) dX1_copyFrom_118 ?_
  refine z_aload_n C dX1_copyFrom_119 2 rfl rfl ?_
  refine f_get1 C 3 (v := .ref (B.1 + 24)) (by decide) tw_171 rfl zk_8 zb_8 rfl dX1_copyFrom_120 ?_
  refine z_iload_n C dX1_copyFrom_123 0 rfl rfl ?_
  refine f_aaldL27 C zk_24 zb_24 (by unfold vp_in; decide) (r := 27) (by decide) dX1_copyFrom_124 ?_
  refine f_callVv C hl (As := [.ref (B.1 + 27)]) (rest := []) (c_X8_copyFrom l B (zcp (zcp (zcp (zcp (zcp (zcp (zcp (zcp (zcp (zcp (zcp (zcp (zcp (zcp (zcp s 85 9 6) 87 11 4) 88 12 4) 89 13 4) 90 14 4) 91 15 4) 92 16 4) 94 18 4) 95 19 4) 96 20 4) 97 21 4) 98 22 4) 99 23 4) 101 25 6) 102 26 6) t 103 27 zk_103 zb_103 zk_27 zb_27) zb_103 (zg_8 zk_103) rfl (zCB (nA := 1) C rfl rfl tw_445 tw_9 tw_442 (by decide +kernel) ⟨Nat.le_of_ble_eq_true rfl, Nat.le_of_ble_eq_true rfl⟩) tw_443 tw_444 rfl rfl (Nat.le_of_ble_eq_true rfl) dX1_copyFrom_125 (Nat.zero_le _) ?_
  refine z_iinc C [(2, .int 3), (0, .ref (B.1 + 84)), (1, .ref (B.1 + 8))] dX1_copyFrom_128 0 rfl (by decide) (by decide) rfl ?_
  refine z_goto C 95 dX1_copyFrom_131 (by decide) ?_
  refine z_iload_n C dX1_copyFrom_95 0 rfl rfl ?_
  refine z_aload_n C dX1_copyFrom_96 1 rfl rfl ?_
  refine f_get1 C 3 (v := .ref (B.1 + 100)) (by decide) tw_171 rfl zk_84 zb_84 rfl dX1_copyFrom_97 ?_
  refine f_alen27 C (v := 8) zk_100 zb_100 rfl dX1_copyFrom_100 ?_
  refine z_icmp_ge C 134 dX1_copyFrom_101 (by decide) (fun hbr => absurd hbr (by decide)) (fun _ => ?_)
  refine z_iload_n C dX1_copyFrom_104 0 rfl rfl ?_
  refine z_aload_n C dX1_copyFrom_105 2 rfl rfl ?_
  refine f_get1 C 3 (v := .ref (B.1 + 24)) (by decide) tw_171 rfl zk_8 zb_8 rfl dX1_copyFrom_106 ?_
  refine f_alen27 C (v := 8) zk_24 zb_24 rfl dX1_copyFrom_109 ?_
  refine z_icmp_ge C 134 dX1_copyFrom_110 (by decide) (fun hbr => absurd hbr (by decide)) (fun _ => ?_)
  refine z_aload_n C dX1_copyFrom_113 1 rfl rfl ?_
  refine f_get1 C 3 (v := .ref (B.1 + 100)) (by decide) tw_171 rfl zk_84 zb_84 rfl dX1_copyFrom_114 ?_
  refine z_iload_n C dX1_copyFrom_117 0 rfl rfl ?_
  refine f_aaldL27 C zk_100 zb_100 (by unfold vp_in; decide) (r := 104) (by decide) dX1_copyFrom_118 ?_
  refine z_aload_n C dX1_copyFrom_119 2 rfl rfl ?_
  refine f_get1 C 3 (v := .ref (B.1 + 24)) (by decide) tw_171 rfl zk_8 zb_8 rfl dX1_copyFrom_120 ?_
  refine z_iload_n C dX1_copyFrom_123 0 rfl rfl ?_
  refine f_aaldL27 C zk_24 zb_24 (by unfold vp_in; decide) (r := 28) (by decide) dX1_copyFrom_124 ?_
  refine f_callVv C hl (As := [.ref (B.1 + 28)]) (rest := []) (c_X8_copyFrom l B (zcp (zcp (zcp (zcp (zcp (zcp (zcp (zcp (zcp (zcp (zcp (zcp (zcp (zcp (zcp (zcp s 85 9 6) 87 11 4) 88 12 4) 89 13 4) 90 14 4) 91 15 4) 92 16 4) 94 18 4) 95 19 4) 96 20 4) 97 21 4) 98 22 4) 99 23 4) 101 25 6) 102 26 6) 103 27 6) t 104 28 zk_104 zb_104 zk_28 zb_28) zb_104 (zg_8 zk_104) rfl (zCB (nA := 1) C rfl rfl tw_445 tw_9 tw_442 (by decide +kernel) ⟨Nat.le_of_ble_eq_true rfl, Nat.le_of_ble_eq_true rfl⟩) tw_443 tw_444 rfl rfl (Nat.le_of_ble_eq_true rfl) dX1_copyFrom_125 (Nat.zero_le _) ?_
  refine z_iinc C [(2, .int 4), (0, .ref (B.1 + 84)), (1, .ref (B.1 + 8))] dX1_copyFrom_128 0 rfl (by decide) (by decide) rfl ?_
  refine z_goto C 95 dX1_copyFrom_131 (by decide) ?_
  refine z_iload_n C dX1_copyFrom_95 0 rfl rfl ?_
  refine z_aload_n C dX1_copyFrom_96 1 rfl rfl ?_
  refine f_get1 C 3 (v := .ref (B.1 + 100)) (by decide) tw_171 rfl zk_84 zb_84 rfl dX1_copyFrom_97 ?_
  refine f_alen27 C (v := 8) zk_100 zb_100 rfl dX1_copyFrom_100 ?_
  refine z_icmp_ge C 134 dX1_copyFrom_101 (by decide) (fun hbr => absurd hbr (by decide)) (fun _ => ?_)
  refine z_iload_n C dX1_copyFrom_104 0 rfl rfl ?_
  refine z_aload_n C dX1_copyFrom_105 2 rfl rfl ?_
  refine f_get1 C 3 (v := .ref (B.1 + 24)) (by decide) tw_171 rfl zk_8 zb_8 rfl dX1_copyFrom_106 ?_
  refine f_alen27 C (v := 8) zk_24 zb_24 rfl dX1_copyFrom_109 ?_
  refine z_icmp_ge C 134 dX1_copyFrom_110 (by decide) (fun hbr => absurd hbr (by decide)) (fun _ => ?_)
  refine z_aload_n C dX1_copyFrom_113 1 rfl rfl ?_
  refine f_get1 C 3 (v := .ref (B.1 + 100)) (by decide) tw_171 rfl zk_84 zb_84 rfl dX1_copyFrom_114 ?_
  refine z_iload_n C dX1_copyFrom_117 0 rfl rfl ?_
  refine f_aaldL27 C zk_100 zb_100 (by unfold vp_in; decide) (r := 105) (by decide) dX1_copyFrom_118 ?_
  refine z_aload_n C dX1_copyFrom_119 2 rfl rfl ?_
  refine f_get1 C 3 (v := .ref (B.1 + 24)) (by decide) tw_171 rfl zk_8 zb_8 rfl dX1_copyFrom_120 ?_
  refine z_iload_n C dX1_copyFrom_123 0 rfl rfl ?_
  refine f_aaldL27 C zk_24 zb_24 (by unfold vp_in; decide) (r := 29) (by decide) dX1_copyFrom_124 ?_
  refine f_callVv C hl (As := [.ref (B.1 + 29)]) (rest := []) (c_X8_copyFrom l B (zcp (zcp (zcp (zcp (zcp (zcp (zcp (zcp (zcp (zcp (zcp (zcp (zcp (zcp (zcp (zcp (zcp s 85 9 6) 87 11 4) 88 12 4) 89 13 4) 90 14 4) 91 15 4) 92 16 4) 94 18 4) 95 19 4) 96 20 4) 97 21 4) 98 22 4) 99 23 4) 101 25 6) 102 26 6) 103 27 6) 104 28 6) t 105 29 zk_105 zb_105 zk_29 zb_29) zb_105 (zg_8 zk_105) rfl (zCB (nA := 1) C rfl rfl tw_445 tw_9 tw_442 (by decide +kernel) ⟨Nat.le_of_ble_eq_true rfl, Nat.le_of_ble_eq_true rfl⟩) tw_443 tw_444 rfl rfl (Nat.le_of_ble_eq_true rfl) dX1_copyFrom_125 (Nat.zero_le _) ?_
  refine z_iinc C [(2, .int 5), (0, .ref (B.1 + 84)), (1, .ref (B.1 + 8))] dX1_copyFrom_128 0 rfl (by decide) (by decide) rfl ?_
  refine z_goto C 95 dX1_copyFrom_131 (by decide) ?_
  refine z_iload_n C dX1_copyFrom_95 0 rfl rfl ?_
  refine z_aload_n C dX1_copyFrom_96 1 rfl rfl ?_
  refine f_get1 C 3 (v := .ref (B.1 + 100)) (by decide) tw_171 rfl zk_84 zb_84 rfl dX1_copyFrom_97 ?_
  refine f_alen27 C (v := 8) zk_100 zb_100 rfl dX1_copyFrom_100 ?_
  refine z_icmp_ge C 134 dX1_copyFrom_101 (by decide) (fun hbr => absurd hbr (by decide)) (fun _ => ?_)
  refine z_iload_n C dX1_copyFrom_104 0 rfl rfl ?_
  refine z_aload_n C dX1_copyFrom_105 2 rfl rfl ?_
  refine f_get1 C 3 (v := .ref (B.1 + 24)) (by decide) tw_171 rfl zk_8 zb_8 rfl dX1_copyFrom_106 ?_
  refine f_alen27 C (v := 8) zk_24 zb_24 rfl dX1_copyFrom_109 ?_
  refine z_icmp_ge C 134 dX1_copyFrom_110 (by decide) (fun hbr => absurd hbr (by decide)) (fun _ => ?_)
  refine z_aload_n C dX1_copyFrom_113 1 rfl rfl ?_
  refine f_get1 C 3 (v := .ref (B.1 + 100)) (by decide) tw_171 rfl zk_84 zb_84 rfl dX1_copyFrom_114 ?_
  refine z_iload_n C dX1_copyFrom_117 0 rfl rfl ?_
  refine f_aaldL27 C zk_100 zb_100 (by unfold vp_in; decide) (r := 106) (by decide) dX1_copyFrom_118 ?_
  refine z_aload_n C dX1_copyFrom_119 2 rfl rfl ?_
  refine f_get1 C 3 (v := .ref (B.1 + 24)) (by decide) tw_171 rfl zk_8 zb_8 rfl dX1_copyFrom_120 ?_
  refine z_iload_n C dX1_copyFrom_123 0 rfl rfl ?_
  refine f_aaldL27 C zk_24 zb_24 (by unfold vp_in; decide) (r := 30) (by decide) dX1_copyFrom_124 ?_
  refine f_callVv C hl (As := [.ref (B.1 + 30)]) (rest := []) (c_X8_copyFrom l B (zcp (zcp (zcp (zcp (zcp (zcp (zcp (zcp (zcp (zcp (zcp (zcp (zcp (zcp (zcp (zcp (zcp (zcp s 85 9 6) 87 11 4) 88 12 4) 89 13 4) 90 14 4) 91 15 4) 92 16 4) 94 18 4) 95 19 4) 96 20 4) 97 21 4) 98 22 4) 99 23 4) 101 25 6) 102 26 6) 103 27 6) 104 28 6) 105 29 6) t 106 30 zk_106 zb_106 zk_30 zb_30) zb_106 (zg_8 zk_106) rfl (zCB (nA := 1) C rfl rfl tw_445 tw_9 tw_442 (by decide +kernel) ⟨Nat.le_of_ble_eq_true rfl, Nat.le_of_ble_eq_true rfl⟩) tw_443 tw_444 rfl rfl (Nat.le_of_ble_eq_true rfl) dX1_copyFrom_125 (Nat.zero_le _) ?_
  refine z_iinc C [(2, .int 6), (0, .ref (B.1 + 84)), (1, .ref (B.1 + 8))] dX1_copyFrom_128 0 rfl (by decide) (by decide) rfl ?_
  refine z_goto C 95 dX1_copyFrom_131 (by decide) ?_
  refine z_iload_n C dX1_copyFrom_95 0 rfl rfl ?_
  refine z_aload_n C dX1_copyFrom_96 1 rfl rfl ?_
  refine f_get1 C 3 (v := .ref (B.1 + 100)) (by decide) tw_171 rfl zk_84 zb_84 rfl dX1_copyFrom_97 ?_
  refine f_alen27 C (v := 8) zk_100 zb_100 rfl dX1_copyFrom_100 ?_
  refine z_icmp_ge C 134 dX1_copyFrom_101 (by decide) (fun hbr => absurd hbr (by decide)) (fun _ => ?_)
  refine z_iload_n C dX1_copyFrom_104 0 rfl rfl ?_
  refine z_aload_n C dX1_copyFrom_105 2 rfl rfl ?_
  refine f_get1 C 3 (v := .ref (B.1 + 24)) (by decide) tw_171 rfl zk_8 zb_8 rfl dX1_copyFrom_106 ?_
  refine f_alen27 C (v := 8) zk_24 zb_24 rfl dX1_copyFrom_109 ?_
  refine z_icmp_ge C 134 dX1_copyFrom_110 (by decide) (fun hbr => absurd hbr (by decide)) (fun _ => ?_)
  refine z_aload_n C dX1_copyFrom_113 1 rfl rfl ?_
  refine f_get1 C 3 (v := .ref (B.1 + 100)) (by decide) tw_171 rfl zk_84 zb_84 rfl dX1_copyFrom_114 ?_
  refine z_iload_n C dX1_copyFrom_117 0 rfl rfl ?_
  refine f_aaldL27 C zk_100 zb_100 (by unfold vp_in; decide) (r := 107) (by decide) dX1_copyFrom_118 ?_
  refine z_aload_n C dX1_copyFrom_119 2 rfl rfl ?_
  refine f_get1 C 3 (v := .ref (B.1 + 24)) (by decide) tw_171 rfl zk_8 zb_8 rfl dX1_copyFrom_120 ?_
  refine z_iload_n C dX1_copyFrom_123 0 rfl rfl ?_
  refine f_aaldL27 C zk_24 zb_24 (by unfold vp_in; decide) (r := 31) (by decide) dX1_copyFrom_124 ?_
  refine f_callVv C hl (As := [.ref (B.1 + 31)]) (rest := []) (c_X8_copyFrom l B (zcp (zcp (zcp (zcp (zcp (zcp (zcp (zcp (zcp (zcp (zcp (zcp (zcp (zcp (zcp (zcp (zcp (zcp (zcp s 85 9 6) 87 11 4) 88 12 4) 89 13 4) 90 14 4) 91 15 4) 92 16 4) 94 18 4) 95 19 4) 96 20 4) 97 21 4) 98 22 4) 99 23 4) 101 25 6) 102 26 6) 103 27 6) 104 28 6) 105 29 6) 106 30 6) t 107 31 zk_107 zb_107 zk_31 zb_31) zb_107 (zg_8 zk_107) rfl (zCB (nA := 1) C rfl rfl tw_445 tw_9 tw_442 (by decide +kernel) ⟨Nat.le_of_ble_eq_true rfl, Nat.le_of_ble_eq_true rfl⟩) tw_443 tw_444 rfl rfl (Nat.le_of_ble_eq_true rfl) dX1_copyFrom_125 (Nat.zero_le _) ?_
  refine z_iinc C [(2, .int 7), (0, .ref (B.1 + 84)), (1, .ref (B.1 + 8))] dX1_copyFrom_128 0 rfl (by decide) (by decide) rfl ?_
  refine z_goto C 95 dX1_copyFrom_131 (by decide) ?_
  refine z_iload_n C dX1_copyFrom_95 0 rfl rfl ?_
  refine z_aload_n C dX1_copyFrom_96 1 rfl rfl ?_
  refine f_get1 C 3 (v := .ref (B.1 + 100)) (by decide) tw_171 rfl zk_84 zb_84 rfl dX1_copyFrom_97 ?_
  refine f_alen27 C (v := 8) zk_100 zb_100 rfl dX1_copyFrom_100 ?_
  refine z_icmp_ge C 134 dX1_copyFrom_101 (by decide) (fun hbr => absurd hbr (by decide)) (fun _ => ?_)
  refine z_iload_n C dX1_copyFrom_104 0 rfl rfl ?_
  refine z_aload_n C dX1_copyFrom_105 2 rfl rfl ?_
  refine f_get1 C 3 (v := .ref (B.1 + 24)) (by decide) tw_171 rfl zk_8 zb_8 rfl dX1_copyFrom_106 ?_
  refine f_alen27 C (v := 8) zk_24 zb_24 rfl dX1_copyFrom_109 ?_
  refine z_icmp_ge C 134 dX1_copyFrom_110 (by decide) (fun hbr => absurd hbr (by decide)) (fun _ => ?_)
  refine z_aload_n C dX1_copyFrom_113 1 rfl rfl ?_
  refine f_get1 C 3 (v := .ref (B.1 + 100)) (by decide) tw_171 rfl zk_84 zb_84 rfl dX1_copyFrom_114 ?_
  refine z_iload_n C dX1_copyFrom_117 0 rfl rfl ?_
  refine f_aaldL27 C zk_100 zb_100 (by unfold vp_in; decide) (r := 108) (by decide) dX1_copyFrom_118 ?_
  refine z_aload_n C dX1_copyFrom_119 2 rfl rfl ?_
  refine f_get1 C 3 (v := .ref (B.1 + 24)) (by decide) tw_171 rfl zk_8 zb_8 rfl dX1_copyFrom_120 ?_
  refine z_iload_n C dX1_copyFrom_123 0 rfl rfl ?_
  refine f_aaldL27 C zk_24 zb_24 (by unfold vp_in; decide) (r := 32) (by decide) dX1_copyFrom_124 ?_
  refine f_callVv C hl (As := [.ref (B.1 + 32)]) (rest := []) (c_X8_copyFrom l B (zcp (zcp (zcp (zcp (zcp (zcp (zcp (zcp (zcp (zcp (zcp (zcp (zcp (zcp (zcp (zcp (zcp (zcp (zcp (zcp s 85 9 6) 87 11 4) 88 12 4) 89 13 4) 90 14 4) 91 15 4) 92 16 4) 94 18 4) 95 19 4) 96 20 4) 97 21 4) 98 22 4) 99 23 4) 101 25 6) 102 26 6) 103 27 6) 104 28 6) 105 29 6) 106 30 6) 107 31 6) t 108 32 zk_108 zb_108 zk_32 zb_32) zb_108 (zg_8 zk_108) rfl (zCB (nA := 1) C rfl rfl tw_445 tw_9 tw_442 (by decide +kernel) ⟨Nat.le_of_ble_eq_true rfl, Nat.le_of_ble_eq_true rfl⟩) tw_443 tw_444 rfl rfl (Nat.le_of_ble_eq_true rfl) dX1_copyFrom_125 (Nat.zero_le _) ?_
  refine z_iinc C [(2, .int 8), (0, .ref (B.1 + 84)), (1, .ref (B.1 + 8))] dX1_copyFrom_128 0 rfl (by decide) (by decide) rfl ?_
  refine z_goto C 95 dX1_copyFrom_131 (by decide) ?_
  refine z_iload_n C dX1_copyFrom_95 0 rfl rfl ?_
  refine z_aload_n C dX1_copyFrom_96 1 rfl rfl ?_
  refine f_get1 C 3 (v := .ref (B.1 + 100)) (by decide) tw_171 rfl zk_84 zb_84 rfl dX1_copyFrom_97 ?_
  refine f_alen27 C (v := 8) zk_100 zb_100 rfl dX1_copyFrom_100 ?_
  refine z_icmp_ge C 134 dX1_copyFrom_101 (by decide) (fun _ => ?_) (fun hbr => absurd (by decide) hbr)
  refine z_aload_n C dX1_copyFrom_134 1 rfl rfl ?_
  refine z_aload_n C dX1_copyFrom_135 2 rfl rfl ?_
  refine f_get1 C 4 (v := .int ((zcp (zcp (zcp (zcp (zcp (zcp (zcp (zcp (zcp (zcp (zcp (zcp (zcp (zcp (zcp (zcp (zcp (zcp (zcp (zcp (zcp s 85 9 6) 87 11 4) 88 12 4) 89 13 4) 90 14 4) 91 15 4) 92 16 4) 94 18 4) 95 19 4) 96 20 4) 97 21 4) 98 22 4) 99 23 4) 101 25 6) 102 26 6) 103 27 6) 104 28 6) 105 29 6) 106 30 6) 107 31 6) 108 32 6) 8 4)) (by decide) tw_172 rfl zk_8 zb_8 rfl dX1_copyFrom_136 ?_
  refine f_put1_4 C tw_172 zk_84 zb_84 dX1_copyFrom_139 ?_
  refine z_aload_n C dX1_copyFrom_142 1 rfl rfl ?_
  refine z_aload_n C dX1_copyFrom_143 2 rfl rfl ?_
  refine f_get1 C 5 (v := .int ((zu (zcp (zcp (zcp (zcp (zcp (zcp (zcp (zcp (zcp (zcp (zcp (zcp (zcp (zcp (zcp (zcp (zcp (zcp (zcp (zcp (zcp s 85 9 6) 87 11 4) 88 12 4) 89 13 4) 90 14 4) 91 15 4) 92 16 4) 94 18 4) 95 19 4) 96 20 4) 97 21 4) 98 22 4) 99 23 4) 101 25 6) 102 26 6) 103 27 6) 104 28 6) 105 29 6) 106 30 6) 107 31 6) 108 32 6) 84 4 ((zcp (zcp (zcp (zcp (zcp (zcp (zcp (zcp (zcp (zcp (zcp (zcp (zcp (zcp (zcp (zcp (zcp (zcp (zcp (zcp (zcp s 85 9 6) 87 11 4) 88 12 4) 89 13 4) 90 14 4) 91 15 4) 92 16 4) 94 18 4) 95 19 4) 96 20 4) 97 21 4) 98 22 4) 99 23 4) 101 25 6) 102 26 6) 103 27 6) 104 28 6) 105 29 6) 106 30 6) 107 31 6) 108 32 6) 8 4)) 8 5)) (by decide) tw_174 rfl zk_8 zb_8 rfl dX1_copyFrom_144 ?_
  refine f_put1_5 C tw_174 zk_84 zb_84 dX1_copyFrom_147 ?_
  refine z_aload_n C dX1_copyFrom_150 1 rfl rfl ?_
  refine z_aload_n C dX1_copyFrom_151 2 rfl rfl ?_
  refine f_get1 C 6 (v := .int ((zu (zu (zcp (zcp (zcp (zcp (zcp (zcp (zcp (zcp (zcp (zcp (zcp (zcp (zcp (zcp (zcp (zcp (zcp (zcp (zcp (zcp (zcp s 85 9 6) 87 11 4) 88 12 4) 89 13 4) 90 14 4) 91 15 4) 92 16 4) 94 18 4) 95 19 4) 96 20 4) 97 21 4) 98 22 4) 99 23 4) 101 25 6) 102 26 6) 103 27 6) 104 28 6) 105 29 6) 106 30 6) 107 31 6) 108 32 6) 84 4 ((zcp (zcp (zcp (zcp (zcp (zcp (zcp (zcp (zcp (zcp (zcp (zcp (zcp (zcp (zcp (zcp (zcp (zcp (zcp (zcp (zcp s 85 9 6) 87 11 4) 88 12 4) 89 13 4) 90 14 4) 91 15 4) 92 16 4) 94 18 4) 95 19 4) 96 20 4) 97 21 4) 98 22 4) 99 23 4) 101 25 6) 102 26 6) 103 27 6) 104 28 6) 105 29 6) 106 30 6) 107 31 6) 108 32 6) 8 4)) 84 5 ((zu (zcp (zcp (zcp (zcp (zcp (zcp (zcp (zcp (zcp (zcp (zcp (zcp (zcp (zcp (zcp (zcp (zcp (zcp (zcp (zcp (zcp s 85 9 6) 87 11 4) 88 12 4) 89 13 4) 90 14 4) 91 15 4) 92 16 4) 94 18 4) 95 19 4) 96 20 4) 97 21 4) 98 22 4) 99 23 4) 101 25 6) 102 26 6) 103 27 6) 104 28 6) 105 29 6) 106 30 6) 107 31 6) 108 32 6) 84 4 ((zcp (zcp (zcp (zcp (zcp (zcp (zcp (zcp (zcp (zcp (zcp (zcp (zcp (zcp (zcp (zcp (zcp (zcp (zcp (zcp (zcp s 85 9 6) 87 11 4) 88 12 4) 89 13 4) 90 14 4) 91 15 4) 92 16 4) 94 18 4) 95 19 4) 96 20 4) 97 21 4) 98 22 4) 99 23 4) 101 25 6) 102 26 6) 103 27 6) 104 28 6) 105 29 6) 106 30 6) 107 31 6) 108 32 6) 8 4)) 8 5)) 8 6)) (by decide) tw_176 rfl zk_8 zb_8 rfl dX1_copyFrom_152 ?_
  refine f_put1_6 C tw_176 zk_84 zb_84 dX1_copyFrom_155 ?_
  refine z_vret C E rfl dX1_copyFrom_158 rfl (Nat.le_refl _) ⟨rfl, rfl⟩
def wCopy8_59 (s : zS) : zS := (zu (zu (zu (zcp (zcp (zcp (zcp (zcp (zcp (zcp (zcp (zcp (zcp (zcp (zcp (zcp (zcp (zcp (zcp (zcp (zcp (zcp (zcp (zcp s 9 60 6) 11 62 4) 12 63 4) 13 64 4) 14 65 4) 15 66 4) 16 67 4) 18 69 4) 19 70 4) 20 71 4) 21 72 4) 22 73 4) 23 74 4) 25 76 6) 26 77 6) 27 78 6) 28 79 6) 29 80 6) 30 81 6) 31 82 6) 32 83 6) 8 4 ((zcp (zcp (zcp (zcp (zcp (zcp (zcp (zcp (zcp (zcp (zcp (zcp (zcp (zcp (zcp (zcp (zcp (zcp (zcp (zcp (zcp s 9 60 6) 11 62 4) 12 63 4) 13 64 4) 14 65 4) 15 66 4) 16 67 4) 18 69 4) 19 70 4) 20 71 4) 21 72 4) 22 73 4) 23 74 4) 25 76 6) 26 77 6) 27 78 6) 28 79 6) 29 80 6) 30 81 6) 31 82 6) 32 83 6) 59 4)) 8 5 ((zu (zcp (zcp (zcp (zcp (zcp (zcp (zcp (zcp (zcp (zcp (zcp (zcp (zcp (zcp (zcp (zcp (zcp (zcp (zcp (zcp (zcp s 9 60 6) 11 62 4) 12 63 4) 13 64 4) 14 65 4) 15 66 4) 16 67 4) 18 69 4) 19 70 4) 20 71 4) 21 72 4) 22 73 4) 23 74 4) 25 76 6) 26 77 6) 27 78 6) 28 79 6) 29 80 6) 30 81 6) 31 82 6) 32 83 6) 8 4 ((zcp (zcp (zcp (zcp (zcp (zcp (zcp (zcp (zcp (zcp (zcp (zcp (zcp (zcp (zcp (zcp (zcp (zcp (zcp (zcp (zcp s 9 60 6) 11 62 4) 12 63 4) 13 64 4) 14 65 4) 15 66 4) 16 67 4) 18 69 4) 19 70 4) 20 71 4) 21 72 4) 22 73 4) 23 74 4) 25 76 6) 26 77 6) 27 78 6) 28 79 6) 29 80 6) 30 81 6) 31 82 6) 32 83 6) 59 4)) 59 5)) 8 6 ((zu (zu (zcp (zcp (zcp (zcp (zcp (zcp (zcp (zcp (zcp (zcp (zcp (zcp (zcp (zcp (zcp (zcp (zcp (zcp (zcp (zcp (zcp s 9 60 6) 11 62 4) 12 63 4) 13 64 4) 14 65 4) 15 66 4) 16 67 4) 18 69 4) 19 70 4) 20 71 4) 21 72 4) 22 73 4) 23 74 4) 25 76 6) 26 77 6) 27 78 6) 28 79 6) 29 80 6) 30 81 6) 31 82 6) 32 83 6) 8 4 ((zcp (zcp (zcp (zcp (zcp (zcp (zcp (zcp (zcp (zcp (zcp (zcp (zcp (zcp (zcp (zcp (zcp (zcp (zcp (zcp (zcp s 9 60 6) 11 62 4) 12 63 4) 13 64 4) 14 65 4) 15 66 4) 16 67 4) 18 69 4) 19 70 4) 20 71 4) 21 72 4) 22 73 4) 23 74 4) 25 76 6) 26 77 6) 27 78 6) 28 79 6) 29 80 6) 30 81 6) 31 82 6) 32 83 6) 59 4)) 8 5 ((zu (zcp (zcp (zcp (zcp (zcp (zcp (zcp (zcp (zcp (zcp (zcp (zcp (zcp (zcp (zcp (zcp (zcp (zcp (zcp (zcp (zcp s 9 60 6) 11 62 4) 12 63 4) 13 64 4) 14 65 4) 15 66 4) 16 67 4) 18 69 4) 19 70 4) 20 71 4) 21 72 4) 22 73 4) 23 74 4) 25 76 6) 26 77 6) 27 78 6) 28 79 6) 29 80 6) 30 81 6) 31 82 6) 32 83 6) 8 4 ((zcp (zcp (zcp (zcp (zcp (zcp (zcp (zcp (zcp (zcp (zcp (zcp (zcp (zcp (zcp (zcp (zcp (zcp (zcp (zcp (zcp s 9 60 6) 11 62 4) 12 63 4) 13 64 4) 14 65 4) 15 66 4) 16 67 4) 18 69 4) 19 70 4) 20 71 4) 21 72 4) 22 73 4) 23 74 4) 25 76 6) 26 77 6) 27 78 6) 28 79 6) 29 80 6) 30 81 6) 31 82 6) 32 83 6) 59 4)) 59 5)) 59 6))
set_option maxRecDepth 100000 in
set_option maxHeartbeats 4000000 in
theorem c_X1_copyFrom8_59 (l : Launch) (B : zB) (s : zS) (t : zL)  : zD l B mX1_copyFrom s t [.ref (B.1 + 8), .ref (B.1 + 59)] none (wCopy8_59 s) t := by
  refine z_met (by decide) (Nat.le_of_ble_eq_true rfl) ?_
  intro X hl C E hnm
  show Zf X B mX1_copyFrom s t 0 [(0, .ref (B.1 + 8)), (1, .ref (B.1 + 59))] []
  refine z_aload_n C dX1_copyFrom_0 0 rfl rfl ?_
  refine f_get1 C 0 (v := .ref (B.1 + 9)) (by decide) tw_167 rfl zk_8 zb_8 rfl dX1_copyFrom_1 ?_
  refine z_aload_n C dX1_copyFrom_4 1 rfl rfl ?_
  refine f_get1 C 0 (v := .ref (B.1 + 60)) (by decide) tw_167 rfl zk_59 zb_59 rfl dX1_copyFrom_5 ?_
  refine f_callVv C hl (As := [.ref (B.1 + 60)]) (rest := []) (c_X8_copyFrom l B s t 9 60 zk_9 zb_9 zk_60 zb_60) zb_9 (zg_8 zk_9) rfl (zCB (nA := 1) C rfl rfl tw_445 tw_9 tw_442 (by decide +kernel) ⟨Nat.le_of_ble_eq_true rfl, Nat.le_of_ble_eq_true rfl⟩) tw_443 tw_444 rfl rfl (Nat.le_of_ble_eq_true rfl) dX1_copyFrom_8 (Nat.zero_le _) ?_
  refine z_iconst C dX1_copyFrom_11 ki_0 ?_
  refine z_istore_n C [(2, .int 0), (0, .ref (B.1 + 8)), (1, .ref (B.1 + 59))] dX1_copyFrom_12 rfl (by decide) rfl ?_
  refine z_iload_n C dX1_copyFrom_13 0 rfl rfl ?_
  refine z_aload_n C dX1_copyFrom_14 1 rfl rfl ?_
  refine f_get1 C 1 (v := .ref (B.1 + 10)) (by decide) tw_169 rfl zk_8 zb_8 rfl dX1_copyFrom_15 ?_
  refine f_alen23 C (v := 6) zk_10 zb_10 rfl dX1_copyFrom_18 ?_
  refine z_icmp_ge C 52 dX1_copyFrom_19 (by decide) (fun hbr => absurd hbr (by decide)) (fun _ => ?_)
  refine z_iload_n C dX1_copyFrom_22 0 rfl rfl ?_
  refine z_aload_n C dX1_copyFrom_23 2 rfl rfl ?_
  refine f_get1 C 1 (v := .ref (B.1 + 61)) (by decide) tw_169 rfl zk_59 zb_59 rfl dX1_copyFrom_24 ?_
  refine f_alen23 C (v := 6) zk_61 zb_61 rfl dX1_copyFrom_27 ?_
  refine z_icmp_ge C 52 dX1_copyFrom_28 (by decide) (fun hbr => absurd hbr (by decide)) (fun _ => ?_)
  refine z_aload_n C dX1_copyFrom_31 1 rfl rfl ?_
  refine f_get1 C 1 (v := .ref (B.1 + 10)) (by decide) tw_169 rfl zk_8 zb_8 rfl dX1_copyFrom_32 ?_
  refine z_iload_n C dX1_copyFrom_35 0 rfl rfl ?_
  refine f_aaldL23 C zk_10 zb_10 (by unfold vp_in; decide) (r := 11) (by decide) dX1_copyFrom_36 ?_
  refine z_aload_n C dX1_copyFrom_37 2 rfl rfl ?_
  refine f_get1 C 1 (v := .ref (B.1 + 61)) (by decide) tw_169 rfl zk_59 zb_59 rfl dX1_copyFrom_38 ?_
  refine z_iload_n C dX1_copyFrom_41 0 rfl rfl ?_
  refine f_aaldL23 C zk_61 zb_61 (by unfold vp_in; decide) (r := 62) (by decide) dX1_copyFrom_42 ?_
  refine f_callVv C hl (As := [.ref (B.1 + 62)]) (rest := []) (c_X0_copyFrom l B (zcp s 9 60 6) t 11 62 zk_11 zb_11 zk_62 zb_62) zb_11 (zg_0 zk_11) rfl (zCB (nA := 1) C rfl rfl tw_449 tw_10 tw_446 (by decide +kernel) ⟨Nat.le_of_ble_eq_true rfl, Nat.le_of_ble_eq_true rfl⟩) tw_447 tw_448 rfl rfl (Nat.le_of_ble_eq_true rfl) dX1_copyFrom_43 (Nat.zero_le _) ?_
  refine z_iinc C [(2, .int 1), (0, .ref (B.1 + 8)), (1, .ref (B.1 + 59))] dX1_copyFrom_46 0 rfl (by decide) (by decide) rfl ?_
  refine z_goto C 13 dX1_copyFrom_49 (by decide) ?_
  refine z_iload_n C dX1_copyFrom_13 0 rfl rfl ?_
  refine z_aload_n C dX1_copyFrom_14 1 rfl rfl ?_
  refine f_get1 C 1 (v := .ref (B.1 + 10)) (by decide) tw_169 rfl zk_8 zb_8 rfl dX1_copyFrom_15 ?_
  refine f_alen23 C (v := 6) zk_10 zb_10 rfl dX1_copyFrom_18 ?_
  refine z_icmp_ge C 52 dX1_copyFrom_19 (by decide) (fun hbr => absurd hbr (by decide)) (fun _ => ?_)
  refine z_iload_n C dX1_copyFrom_22 0 rfl rfl ?_
  refine z_aload_n C dX1_copyFrom_23 2 rfl rfl ?_
  refine f_get1 C 1 (v := .ref (B.1 + 61)) (by decide) tw_169 rfl zk_59 zb_59 rfl dX1_copyFrom_24 ?_
  refine f_alen23 C (v := 6) zk_61 zb_61 rfl dX1_copyFrom_27 ?_
  refine z_icmp_ge C 52 dX1_copyFrom_28 (by decide) (fun hbr => absurd hbr (by decide)) (fun _ => ?_)
  refine z_aload_n C dX1_copyFrom_31 1 rfl rfl ?_
  refine f_get1 C 1 (v := .ref (B.1 + 10)) (by decide) tw_169 rfl zk_8 zb_8 rfl dX1_copyFrom_32 ?_
  refine z_iload_n C dX1_copyFrom_35 0 rfl rfl ?_
  refine f_aaldL23 C zk_10 zb_10 (by unfold vp_in; decide) (r := 12) (by decide) dX1_copyFrom_36 ?_
  refine z_aload_n C dX1_copyFrom_37 2 rfl rfl ?_
  refine f_get1 C 1 (v := .ref (B.1 + 61)) (by decide) tw_169 rfl zk_59 zb_59 rfl dX1_copyFrom_38 ?_
  refine z_iload_n C dX1_copyFrom_41 0 rfl rfl ?_
  refine f_aaldL23 C zk_61 zb_61 (by unfold vp_in; decide) (r := 63) (by decide) dX1_copyFrom_42 ?_
  refine f_callVv C hl (As := [.ref (B.1 + 63)]) (rest := []) (c_X0_copyFrom l B (zcp (zcp s 9 60 6) 11 62 4) t 12 63 zk_12 zb_12 zk_63 zb_63) zb_12 (zg_0 zk_12) rfl (zCB (nA := 1) C rfl rfl tw_449 tw_10 tw_446 (by decide +kernel) ⟨Nat.le_of_ble_eq_true rfl, Nat.le_of_ble_eq_true rfl⟩) tw_447 tw_448 rfl rfl (Nat.le_of_ble_eq_true rfl) dX1_copyFrom_43 (Nat.zero_le _) ?_
  refine z_iinc C [(2, .int 2), (0, .ref (B.1 + 8)), (1, .ref (B.1 + 59))] dX1_copyFrom_46 0 rfl (by decide) (by decide) rfl ?_
  refine z_goto C 13 dX1_copyFrom_49 (by decide) ?_
  refine z_iload_n C dX1_copyFrom_13 0 rfl rfl ?_
  refine z_aload_n C dX1_copyFrom_14 1 rfl rfl ?_
  refine f_get1 C 1 (v := .ref (B.1 + 10)) (by decide) tw_169 rfl zk_8 zb_8 rfl dX1_copyFrom_15 ?_
  refine f_alen23 C (v := 6) zk_10 zb_10 rfl dX1_copyFrom_18 ?_
  refine z_icmp_ge C 52 dX1_copyFrom_19 (by decide) (fun hbr => absurd hbr (by decide)) (fun _ => ?_)
  refine z_iload_n C dX1_copyFrom_22 0 rfl rfl ?_
  refine z_aload_n C dX1_copyFrom_23 2 rfl rfl ?_
  refine f_get1 C 1 (v := .ref (B.1 + 61)) (by decide) tw_169 rfl zk_59 zb_59 rfl dX1_copyFrom_24 ?_
  refine f_alen23 C (v := 6) zk_61 zb_61 rfl dX1_copyFrom_27 ?_
  refine z_icmp_ge C 52 dX1_copyFrom_28 (by decide) (fun hbr => absurd hbr (by decide)) (fun _ => ?_)
  refine z_aload_n C dX1_copyFrom_31 1 rfl rfl ?_
  refine f_get1 C 1 (v := .ref (B.1 + 10)) (by decide) tw_169 rfl zk_8 zb_8 rfl dX1_copyFrom_32 ?_
  refine z_iload_n C dX1_copyFrom_35 0 rfl rfl ?_
  refine f_aaldL23 C zk_10 zb_10 (by unfold vp_in; decide) (r := 13) (by decide) dX1_copyFrom_36 ?_
  refine z_aload_n C dX1_copyFrom_37 2 rfl rfl ?_
  refine f_get1 C 1 (v := .ref (B.1 + 61)) (by decide) tw_169 rfl zk_59 zb_59 rfl dX1_copyFrom_38 ?_
  refine z_iload_n C dX1_copyFrom_41 0 rfl rfl ?_
  refine f_aaldL23 C zk_61 zb_61 (by unfold vp_in; decide) (r := 64) (by decide) dX1_copyFrom_42 ?_
  refine f_callVv C hl (As := [.ref (B.1 + 64)]) (rest := []) (c_X0_copyFrom l B (zcp (zcp (zcp s 9 60 6) 11 62 4) 12 63 4) t 13 64 zk_13 zb_13 zk_64 zb_64) zb_13 (zg_0 zk_13) rfl (zCB (nA := 1) C rfl rfl tw_449 tw_10 tw_446 (by decide +kernel) ⟨Nat.le_of_ble_eq_true rfl, Nat.le_of_ble_eq_true rfl⟩) tw_447 tw_448 rfl rfl (Nat.le_of_ble_eq_true rfl) dX1_copyFrom_43 (Nat.zero_le _) ?_
  refine z_iinc C [(2, .int 3), (0, .ref (B.1 + 8)), (1, .ref (B.1 + 59))] dX1_copyFrom_46 0 rfl (by decide) (by decide) rfl ?_
  refine z_goto C 13 dX1_copyFrom_49 (by decide) ?_
  refine z_iload_n C dX1_copyFrom_13 0 rfl rfl ?_
  refine z_aload_n C dX1_copyFrom_14 1 rfl rfl ?_
  refine f_get1 C 1 (v := .ref (B.1 + 10)) (by decide) tw_169 rfl zk_8 zb_8 rfl dX1_copyFrom_15 ?_
  refine f_alen23 C (v := 6) zk_10 zb_10 rfl dX1_copyFrom_18 ?_
  refine z_icmp_ge C 52 dX1_copyFrom_19 (by decide) (fun hbr => absurd hbr (by decide)) (fun _ => ?_)
  refine z_iload_n C dX1_copyFrom_22 0 rfl rfl ?_
  refine z_aload_n C dX1_copyFrom_23 2 rfl rfl ?_
  refine f_get1 C 1 (v := .ref (B.1 + 61)) (by decide) tw_169 rfl zk_59 zb_59 rfl dX1_copyFrom_24 ?_
  refine f_alen23 C (v := 6) zk_61 zb_61 rfl dX1_copyFrom_27 ?_
  refine z_icmp_ge C 52 dX1_copyFrom_28 (by decide) (fun hbr => absurd hbr (by decide)) (fun _ => ?_)
  refine z_aload_n C dX1_copyFrom_31 1 rfl rfl ?_
  refine f_get1 C 1 (v := .ref (B.1 + 10)) (by decide) tw_169 rfl zk_8 zb_8 rfl dX1_copyFrom_32 ?_
  refine z_iload_n C dX1_copyFrom_35 0 rfl rfl ?_
  refine f_aaldL23 C zk_10 zb_10 (by unfold vp_in; decide) (r := 14) (by decide) dX1_copyFrom_36 ?_
  refine z_aload_n C dX1_copyFrom_37 2 rfl rfl ?_
  refine f_get1 C 1 (v := .ref (B.1 + 61)) (by decide) tw_169 rfl zk_59 zb_59 rfl dX1_copyFrom_38 ?_
  refine z_iload_n C dX1_copyFrom_41 0 rfl rfl ?_
  refine f_aaldL23 C zk_61 zb_61 (by unfold vp_in; decide) (r := 65) (by decide) dX1_copyFrom_42 ?_
  refine f_callVv C hl (As := [.ref (B.1 + 65)]) (rest := []) (c_X0_copyFrom l B (zcp (zcp (zcp (zcp s 9 60 6) 11 62 4) 12 63 4) 13 64 4) t 14 65 zk_14 zb_14 zk_65 zb_65) zb_14 (zg_0 zk_14) rfl (zCB (nA := 1) C rfl rfl tw_449 tw_10 tw_446 (by decide +kernel) ⟨Nat.le_of_ble_eq_true rfl, Nat.le_of_ble_eq_true rfl⟩) tw_447 tw_448 rfl rfl (Nat.le_of_ble_eq_true rfl) dX1_copyFrom_43 (Nat.zero_le _) ?_
  refine z_iinc C [(2, .int 4), (0, .ref (B.1 + 8)), (1, .ref (B.1 + 59))] dX1_copyFrom_46 0 rfl (by decide) (by decide) rfl ?_
  refine z_goto C 13 dX1_copyFrom_49 (by decide) ?_
  refine z_iload_n C dX1_copyFrom_13 0 rfl rfl ?_
  refine z_aload_n C dX1_copyFrom_14 1 rfl rfl ?_
  refine f_get1 C 1 (v := .ref (B.1 + 10)) (by decide) tw_169 rfl zk_8 zb_8 rfl dX1_copyFrom_15 ?_
  refine f_alen23 C (v := 6) zk_10 zb_10 rfl dX1_copyFrom_18 ?_
  refine z_icmp_ge C 52 dX1_copyFrom_19 (by decide) (fun hbr => absurd hbr (by decide)) (fun _ => ?_)
  refine z_iload_n C dX1_copyFrom_22 0 rfl rfl ?_
  refine z_aload_n C dX1_copyFrom_23 2 rfl rfl ?_
  refine f_get1 C 1 (v := .ref (B.1 + 61)) (by decide) tw_169 rfl zk_59 zb_59 rfl dX1_copyFrom_24 ?_
  refine f_alen23 C (v := 6) zk_61 zb_61 rfl dX1_copyFrom_27 ?_
  refine z_icmp_ge C 52 dX1_copyFrom_28 (by decide) (fun hbr => absurd hbr (by decide)) (fun _ => ?_)
  refine z_aload_n C dX1_copyFrom_31 1 rfl rfl ?_
  refine f_get1 C 1 (v := .ref (B.1 + 10)) (by decide) tw_169 rfl zk_8 zb_8 rfl dX1_copyFrom_32 ?_
  refine z_iload_n C dX1_copyFrom_35 0 rfl rfl ?_
  refine f_aaldL23 C zk_10 zb_10 (by unfold vp_in; decide) (r := 15) (by decide) dX1_copyFrom_36 ?_
  refine z_aload_n C dX1_copyFrom_37 2 rfl rfl ?_
  refine f_get1 C 1 (v := .ref (B.1 + 61)) (by decide) tw_169 rfl zk_59 zb_59 rfl dX1_copyFrom_38 ?_
  refine z_iload_n C dX1_copyFrom_41 0 rfl rfl ?_
  refine f_aaldL23 C zk_61 zb_61 (by unfold vp_in; decide) (r := 66) (by decide) dX1_copyFrom_42 ?_
  refine f_callVv C hl (As := [.ref (B.1 + 66)]) (rest := []) (c_X0_copyFrom l B (zcp (zcp (zcp (zcp (zcp s 9 60 6) 11 62 4) 12 63 4) 13 64 4) 14 65 4) t 15 66 zk_15 zb_15 zk_66 zb_66) zb_15 (zg_0 zk_15) rfl (zCB (nA := 1) C rfl rfl tw_449 tw_10 tw_446 (by decide +kernel) ⟨Nat.le_of_ble_eq_true rfl, Nat.le_of_ble_eq_true rfl⟩) tw_447 tw_448 rfl rfl (Nat.le_of_ble_eq_true rfl) dX1_copyFrom_43 (Nat.zero_le _) ?_
  refine z_iinc C [(2, .int 5), (0, .ref (B.1 + 8)), (1, .ref (B.1 + 59))] dX1_copyFrom_46 0 rfl (by decide) (by decide) rfl ?_
  refine z_goto C 13 dX1_copyFrom_49 (by decide) ?_
  refine z_iload_n C dX1_copyFrom_13 0 rfl rfl ?_
  refine z_aload_n C dX1_copyFrom_14 1 rfl rfl ?_
  refine f_get1 C 1 (v := .ref (B.1 + 10)) (by decide) tw_169 rfl zk_8 zb_8 rfl dX1_copyFrom_15 ?_
  refine f_alen23 C (v := 6) zk_10 zb_10 rfl dX1_copyFrom_18 ?_
  refine z_icmp_ge C 52 dX1_copyFrom_19 (by decide) (fun hbr => absurd hbr (by decide)) (fun _ => ?_)
  refine z_iload_n C dX1_copyFrom_22 0 rfl rfl ?_
  refine z_aload_n C dX1_copyFrom_23 2 rfl rfl ?_
  refine f_get1 C 1 (v := .ref (B.1 + 61)) (by decide) tw_169 rfl zk_59 zb_59 rfl dX1_copyFrom_24 ?_
  refine f_alen23 C (v := 6) zk_61 zb_61 rfl dX1_copyFrom_27 ?_
  refine z_icmp_ge C 52 dX1_copyFrom_28 (by decide) (fun hbr => absurd hbr (by decide)) (fun _ => ?_)
  refine z_aload_n C dX1_copyFrom_31 1 rfl rfl ?_
  refine f_get1 C 1 (v := .ref (B.1 + 10)) (by decide) tw_169 rfl zk_8 zb_8 rfl dX1_copyFrom_32 ?_
  refine z_iload_n C dX1_copyFrom_35 0 rfl rfl ?_
  refine f_aaldL23 C zk_10 zb_10 (by unfold vp_in; decide) (r := 16) (by decide) dX1_copyFrom_36 ?_
  refine z_aload_n C dX1_copyFrom_37 2 rfl rfl ?_
  refine f_get1 C 1 (v := .ref (B.1 + 61)) (by decide) tw_169 rfl zk_59 zb_59 rfl dX1_copyFrom_38 ?_
  refine z_iload_n C dX1_copyFrom_41 0 rfl rfl ?_
  refine f_aaldL23 C zk_61 zb_61 (by unfold vp_in; decide) (r := 67) (by decide) dX1_copyFrom_42 ?_
  refine f_callVv C hl (As := [.ref (B.1 + 67)]) (rest := []) (c_X0_copyFrom l B (zcp (zcp (zcp (zcp (zcp (zcp s 9 60 6) 11 62 4) 12 63 4) 13 64 4) 14 65 4) 15 66 4) t 16 67 zk_16 zb_16 zk_67 zb_67) zb_16 (zg_0 zk_16) rfl (zCB (nA := 1) C rfl rfl tw_449 tw_10 tw_446 (by decide +kernel) ⟨Nat.le_of_ble_eq_true rfl, Nat.le_of_ble_eq_true rfl⟩) tw_447 tw_448 rfl rfl (Nat.le_of_ble_eq_true rfl) dX1_copyFrom_43 (Nat.zero_le _) ?_
  refine z_iinc C [(2, .int 6), (0, .ref (B.1 + 8)), (1, .ref (B.1 + 59))] dX1_copyFrom_46 0 rfl (by decide) (by decide) rfl ?_
  refine z_goto C 13 dX1_copyFrom_49 (by decide) ?_
  refine z_iload_n C dX1_copyFrom_13 0 rfl rfl ?_
  refine z_aload_n C dX1_copyFrom_14 1 rfl rfl ?_
  refine f_get1 C 1 (v := .ref (B.1 + 10)) (by decide) tw_169 rfl zk_8 zb_8 rfl dX1_copyFrom_15 ?_
  refine f_alen23 C (v := 6) zk_10 zb_10 rfl dX1_copyFrom_18 ?_
  refine z_icmp_ge C 52 dX1_copyFrom_19 (by decide) (fun _ => ?_) (fun hbr => absurd (by decide) hbr)
  refine z_iconst C dX1_copyFrom_52 ki_0 ?_
  refine z_istore_n C [(2, .int 0), (0, .ref (B.1 + 8)), (1, .ref (B.1 + 59))] dX1_copyFrom_53 rfl (by decide) rfl ?_
  refine z_iload_n C dX1_copyFrom_54 0 rfl rfl ?_
  refine z_aload_n C dX1_copyFrom_55 1 rfl rfl ?_
  refine f_get1 C 2 (v := .ref (B.1 + 17)) (by decide) tw_170 rfl zk_8 zb_8 rfl dX1_copyFrom_56 ?_
  refine f_alen25 C (v := 6) zk_17 zb_17 rfl dX1_copyFrom_59 ?_
  refine z_icmp_ge C 93 dX1_copyFrom_60 (by decide) (fun hbr => absurd hbr (by decide)) (fun _ => ?_)
  refine z_iload_n C dX1_copyFrom_63 0 rfl rfl ?_
  refine z_aload_n C dX1_copyFrom_64 2 rfl rfl ?_
  refine f_get1 C 2 (v := .ref (B.1 + 68)) (by decide) tw_170 rfl zk_59 zb_59 rfl dX1_copyFrom_65 ?_
  refine f_alen25 C (v := 6) zk_68 zb_68 rfl dX1_copyFrom_68 ?_
  refine z_icmp_ge C 93 dX1_copyFrom_69 (by decide) (fun hbr => absurd hbr (by decide)) (fun _ => ?_)
  refine z_aload_n C dX1_copyFrom_72 1 rfl rfl ?_
  refine f_get1 C 2 (v := .ref (B.1 + 17)) (by decide) tw_170 rfl zk_8 zb_8 rfl dX1_copyFrom_73 ?_
  refine z_iload_n C dX1_copyFrom_76 0 rfl rfl ?_
  refine f_aaldL25 C zk_17 zb_17 (by unfold vp_in; decide) (r := 18) (by decide) dX1_copyFrom_77 ?_
  refine z_aload_n C dX1_copyFrom_78 2 rfl rfl ?_
  refine f_get1 C 2 (v := .ref (B.1 + 68)) (by decide) tw_170 rfl zk_59 zb_59 rfl dX1_copyFrom_79 ?_
  refine z_iload_n C dX1_copyFrom_82 0 rfl rfl ?_
  refine f_aaldL25 C zk_68 zb_68 (by unfold vp_in; decide) (r := 69) (by decide) dX1_copyFrom_83 ?_
  refine f_callVv C hl (As := [.ref (B.1 + 69)]) (rest := []) (c_X4_copyFrom l B (zcp (zcp (zcp (zcp (zcp (zcp (zcp s 9 60 6) 11 62 4) 12 63 4) 13 64 4) 14 65 4) 15 66 4) 16 67 4) t 18 69 zk_18 zb_18 zk_69 zb_69) zb_18 (zg_4 zk_18) rfl (zCB (nA := 1) C rfl rfl tw_453 tw_11 tw_450 (by decide +kernel) ⟨Nat.le_of_ble_eq_true rfl, Nat.le_of_ble_eq_true rfl⟩) tw_451 tw_452 rfl rfl (Nat.le_of_ble_eq_true rfl) dX1_copyFrom_84 (Nat.zero_le _) ?_
  refine z_iinc C [(2, .int 1), (0, .ref (B.1 + 8)), (1, .ref (B.1 + 59))] dX1_copyFrom_87 0 rfl (by decide) (by decide) rfl ?_
  refine z_goto C 54 dX1_copyFrom_90 (by decide) ?_
  refine z_iload_n C dX1_copyFrom_54 0 rfl rfl ?_
  refine z_aload_n C dX1_copyFrom_55 1 rfl rfl ?_
  refine f_get1 C 2 (v := .ref (B.1 + 17)) (by decide) tw_170 rfl zk_8 zb_8 rfl dX1_copyFrom_56 ?_
  refine f_alen25 C (v := 6) zk_17 zb_17 rfl dX1_copyFrom_59 ?_
  refine z_icmp_ge C 93 dX1_copyFrom_60 (by decide) (fun hbr => absurd hbr (by decide)) (fun _ => ?_)
  refine z_iload_n C dX1_copyFrom_63 0 rfl rfl ?_
  refine z_aload_n C dX1_copyFrom_64 2 rfl rfl ?_
  refine f_get1 C 2 (v := .ref (B.1 + 68)) (by decide) tw_170 rfl zk_59 zb_59 rfl dX1_copyFrom_65 ?_
  refine f_alen25 C (v := 6) zk_68 zb_68 rfl dX1_copyFrom_68 ?_
  refine z_icmp_ge C 93 dX1_copyFrom_69 (by decide) (fun hbr => absurd hbr (by decide)) (fun _ => ?_)
  refine z_aload_n C dX1_copyFrom_72 1 rfl rfl ?_
  refine f_get1 C 2 (v := .ref (B.1 + 17)) (by decide) tw_170 rfl zk_8 zb_8 rfl dX1_copyFrom_73 ?_
  refine z_iload_n C dX1_copyFrom_76 0 rfl rfl ?_
  refine f_aaldL25 C zk_17 zb_17 (by unfold vp_in; decide) (r := 19) (by decide) dX1_copyFrom_77 ?_
  refine z_aload_n C dX1_copyFrom_78 2 rfl rfl ?_
  refine f_get1 C 2 (v := .ref (B.1 + 68)) (by decide) tw_170 rfl zk_59 zb_59 rfl dX1_copyFrom_79 ?_
  refine z_iload_n C dX1_copyFrom_82 0 rfl rfl ?_
  refine f_aaldL25 C zk_68 zb_68 (by unfold vp_in; decide) (r := 70) (by decide) dX1_copyFrom_83 ?_
  refine f_callVv C hl (As := [.ref (B.1 + 70)]) (rest := []) (c_X4_copyFrom l B (zcp (zcp (zcp (zcp (zcp (zcp (zcp (zcp s 9 60 6) 11 62 4) 12 63 4) 13 64 4) 14 65 4) 15 66 4) 16 67 4) 18 69 4) t 19 70 zk_19 zb_19 zk_70 zb_70) zb_19 (zg_4 zk_19) rfl (zCB (nA := 1) C rfl rfl tw_453 tw_11 tw_450 (by decide +kernel) ⟨Nat.le_of_ble_eq_true rfl, Nat.le_of_ble_eq_true rfl⟩) tw_451 tw_452 rfl rfl (Nat.le_of_ble_eq_true rfl) dX1_copyFrom_84 (Nat.zero_le _) ?_
  refine z_iinc C [(2, .int 2), (0, .ref (B.1 + 8)), (1, .ref (B.1 + 59))] dX1_copyFrom_87 0 rfl (by decide) (by decide) rfl ?_
  refine z_goto C 54 dX1_copyFrom_90 (by decide) ?_
  refine z_iload_n C dX1_copyFrom_54 0 rfl rfl ?_
  refine z_aload_n C dX1_copyFrom_55 1 rfl rfl ?_
  refine f_get1 C 2 (v := .ref (B.1 + 17)) (by decide) tw_170 rfl zk_8 zb_8 rfl dX1_copyFrom_56 ?_
  refine f_alen25 C (v := 6) zk_17 zb_17 rfl dX1_copyFrom_59 ?_
  refine z_icmp_ge C 93 dX1_copyFrom_60 (by decide) (fun hbr => absurd hbr (by decide)) (fun _ => ?_)
  refine z_iload_n C dX1_copyFrom_63 0 rfl rfl ?_
  refine z_aload_n C dX1_copyFrom_64 2 rfl rfl ?_
  refine f_get1 C 2 (v := .ref (B.1 + 68)) (by decide) tw_170 rfl zk_59 zb_59 rfl dX1_copyFrom_65 ?_
  refine f_alen25 C (v := 6) zk_68 zb_68 rfl dX1_copyFrom_68 ?_
  refine z_icmp_ge C 93 dX1_copyFrom_69 (by decide) (fun hbr => absurd hbr (by decide)) (fun _ => ?_)
  refine z_aload_n C dX1_copyFrom_72 1 rfl rfl ?_
  refine f_get1 C 2 (v := .ref (B.1 + 17)) (by decide) tw_170 rfl zk_8 zb_8 rfl dX1_copyFrom_73 ?_
  refine z_iload_n C dX1_copyFrom_76 0 rfl rfl ?_
  refine f_aaldL25 C zk_17 zb_17 (by unfold vp_in; decide) (r := 20) (by decide) dX1_copyFrom_77 ?_
  refine z_aload_n C dX1_copyFrom_78 2 rfl rfl ?_
  refine f_get1 C 2 (v := .ref (B.1 + 68)) (by decide) tw_170 rfl zk_59 zb_59 rfl dX1_copyFrom_79 ?_
  refine z_iload_n C dX1_copyFrom_82 0 rfl rfl ?_
  refine f_aaldL25 C zk_68 zb_68 (by unfold vp_in; decide) (r := 71) (by decide) dX1_copyFrom_83 ?_
  refine f_callVv C hl (As := [.ref (B.1 + 71)]) (rest := []) (c_X4_copyFrom l B (zcp (zcp (zcp (zcp (zcp (zcp (zcp (zcp (zcp s 9 60 6) 11 62 4) 12 63 4) 13 64 4) 14 65 4) 15 66 4) 16 67 4) 18 69 4) 19 70 4) t 20 71 zk_20 zb_20 zk_71 zb_71) zb_20 (zg_4 zk_20) rfl (zCB (nA := 1) C rfl rfl tw_453 tw_11 tw_450 (by decide +kernel) ⟨Nat.le_of_ble_eq_true rfl, Nat.le_of_ble_eq_true rfl⟩) tw_451 tw_452 rfl rfl (Nat.le_of_ble_eq_true rfl) dX1_copyFrom_84 (Nat.zero_le _) ?_
  refine z_iinc C [(2, .int 3), (0, .ref (B.1 + 8)), (1, .ref (B.1 + 59))] dX1_copyFrom_87 0 rfl (by decide) (by decide) rfl ?_
  refine z_goto C 54 dX1_copyFrom_90 (by decide) ?_
  refine z_iload_n C dX1_copyFrom_54 0 rfl rfl ?_
  refine z_aload_n C dX1_copyFrom_55 1 rfl rfl ?_
  refine f_get1 C 2 (v := .ref (B.1 + 17)) (by decide) tw_170 rfl zk_8 zb_8 rfl dX1_copyFrom_56 ?_
  refine f_alen25 C (v := 6) zk_17 zb_17 rfl dX1_copyFrom_59 ?_
  refine z_icmp_ge C 93 dX1_copyFrom_60 (by decide) (fun hbr => absurd hbr (by decide)) (fun _ => ?_)
  refine z_iload_n C dX1_copyFrom_63 0 rfl rfl ?_
  refine z_aload_n C dX1_copyFrom_64 2 rfl rfl ?_
  refine f_get1 C 2 (v := .ref (B.1 + 68)) (by decide) tw_170 rfl zk_59 zb_59 rfl dX1_copyFrom_65 ?_
  refine f_alen25 C (v := 6) zk_68 zb_68 rfl dX1_copyFrom_68 ?_
  refine z_icmp_ge C 93 dX1_copyFrom_69 (by decide) (fun hbr => absurd hbr (by decide)) (fun _ => ?_)
  refine z_aload_n C dX1_copyFrom_72 1 rfl rfl ?_
  refine f_get1 C 2 (v := .ref (B.1 + 17)) (by decide) tw_170 rfl zk_8 zb_8 rfl dX1_copyFrom_73 ?_
  refine z_iload_n C dX1_copyFrom_76 0 rfl rfl ?_
  refine f_aaldL25 C zk_17 zb_17 (by unfold vp_in; decide) (r := 21) (by decide) dX1_copyFrom_77 ?_
  refine z_aload_n C dX1_copyFrom_78 2 rfl rfl ?_
  refine f_get1 C 2 (v := .ref (B.1 + 68)) (by decide) tw_170 rfl zk_59 zb_59 rfl dX1_copyFrom_79 ?_
  refine z_iload_n C dX1_copyFrom_82 0 rfl rfl ?_
  refine f_aaldL25 C zk_68 zb_68 (by unfold vp_in; decide) (r := 72) (by decide) dX1_copyFrom_83 ?_
  refine f_callVv C hl (As := [.ref (B.1 + 72)]) (rest := []) (c_X4_copyFrom l B (zcp (zcp (zcp (zcp (zcp (zcp (zcp (zcp (zcp (zcp s 9 60 6) 11 62 4) 12 63 4) 13 64 4) 14 65 4) 15 66 4) 16 67 4) 18 69 4) 19 70 4) 20 71 4) t 21 72 zk_21 zb_21 zk_72 zb_72) zb_21 (zg_4 zk_21) rfl (zCB (nA := 1) C rfl rfl tw_453 tw_11 tw_450 (by decide +kernel) ⟨Nat.le_of_ble_eq_true rfl, Nat.le_of_ble_eq_true rfl⟩) tw_451 tw_452 rfl rfl (Nat.le_of_ble_eq_true rfl) dX1_copyFrom_84 (Nat.zero_le _) ?_
  refine z_iinc C [(2, .int 4), (0, .ref (B.1 + 8)), (1, .ref (B.1 + 59))] dX1_copyFrom_87 0 rfl (by decide) (by decide) rfl ?_
  refine z_goto C 54 dX1_copyFrom_90 (by decide) ?_
  refine z_iload_n C dX1_copyFrom_54 0 rfl rfl ?_
  refine z_aload_n C dX1_copyFrom_55 1 rfl rfl ?_
  refine f_get1 C 2 (v := .ref (B.1 + 17)) (by decide) tw_170 rfl zk_8 zb_8 rfl dX1_copyFrom_56 ?_
  refine f_alen25 C (v := 6) zk_17 zb_17 rfl dX1_copyFrom_59 ?_
  refine z_icmp_ge C 93 dX1_copyFrom_60 (by decide) (fun hbr => absurd hbr (by decide)) (fun _ => ?_)
  refine z_iload_n C dX1_copyFrom_63 0 rfl rfl ?_
  refine z_aload_n C dX1_copyFrom_64 2 rfl rfl ?_
  refine f_get1 C 2 (v := .ref (B.1 + 68)) (by decide) tw_170 rfl zk_59 zb_59 rfl dX1_copyFrom_65 ?_
  refine f_alen25 C (v := 6) zk_68 zb_68 rfl dX1_copyFrom_68 ?_
  refine z_icmp_ge C 93 dX1_copyFrom_69 (by decide) (fun hbr => absurd hbr (by decide)) (fun _ => ?_)
  refine z_aload_n C dX1_copyFrom_72 1 rfl rfl ?_
  refine f_get1 C 2 (v := .ref (B.1 + 17)) (by decide) tw_170 rfl zk_8 zb_8 rfl dX1_copyFrom_73 ?_
  refine z_iload_n C dX1_copyFrom_76 0 rfl rfl ?_
  refine f_aaldL25 C zk_17 zb_17 (by unfold vp_in; decide) (r := 22) (by decide) dX1_copyFrom_77 ?_
  refine z_aload_n C dX1_copyFrom_78 2 rfl rfl ?_
  refine f_get1 C 2 (v := .ref (B.1 + 68)) (by decide) tw_170 rfl zk_59 zb_59 rfl dX1_copyFrom_79 ?_
  refine z_iload_n C dX1_copyFrom_82 0 rfl rfl ?_
  refine f_aaldL25 C zk_68 zb_68 (by unfold vp_in; decide) (r := 73) (by decide) dX1_copyFrom_83 ?_
  refine f_callVv C hl (As := [.ref (B.1 + 73)]) (rest := []) (c_X4_copyFrom l B (zcp (zcp (zcp (zcp (zcp (zcp (zcp (zcp (zcp (zcp (zcp s 9 60 6) 11 62 4) 12 63 4) 13 64 4) 14 65 4) 15 66 4) 16 67 4) 18 69 4) 19 70 4) 20 71 4) 21 72 4) t 22 73 zk_22 zb_22 zk_73 zb_73) zb_22 (zg_4 zk_22) rfl (zCB (nA := 1) C rfl rfl tw_453 tw_11 tw_450 (by decide +kernel) ⟨Nat.le_of_ble_eq_true rfl, Nat.le_of_ble_eq_true rfl⟩) tw_451 tw_452 rfl rfl (Nat.le_of_ble_eq_true rfl) dX1_copyFrom_84 (Nat.zero_le _) ?_
  refine z_iinc C [(2, .int 5), (0, .ref (B.1 + 8)), (1, .ref (B.1 + 59))] dX1_copyFrom_87 0 rfl (by decide) (by decide) rfl ?_
  refine z_goto C 54 dX1_copyFrom_90 (by decide) ?_
  refine z_iload_n C dX1_copyFrom_54 0 rfl rfl ?_
  refine z_aload_n C dX1_copyFrom_55 1 rfl rfl ?_
  refine f_get1 C 2 (v := .ref (B.1 + 17)) (by decide) tw_170 rfl zk_8 zb_8 rfl dX1_copyFrom_56 ?_
  refine f_alen25 C (v := 6) zk_17 zb_17 rfl dX1_copyFrom_59 ?_
  refine z_icmp_ge C 93 dX1_copyFrom_60 (by decide) (fun hbr => absurd hbr (by decide)) (fun _ => ?_)
  refine z_iload_n C dX1_copyFrom_63 0 rfl rfl ?_
  refine z_aload_n C dX1_copyFrom_64 2 rfl rfl ?_
  refine f_get1 C 2 (v := .ref (B.1 + 68)) (by decide) tw_170 rfl zk_59 zb_59 rfl dX1_copyFrom_65 ?_
  refine f_alen25 C (v := 6) zk_68 zb_68 rfl dX1_copyFrom_68 ?_
  refine z_icmp_ge C 93 dX1_copyFrom_69 (by decide) (fun hbr => absurd hbr (by decide)) (fun _ => ?_)
  refine z_aload_n C dX1_copyFrom_72 1 rfl rfl ?_
  refine f_get1 C 2 (v := .ref (B.1 + 17)) (by decide) tw_170 rfl zk_8 zb_8 rfl dX1_copyFrom_73 ?_
  refine z_iload_n C dX1_copyFrom_76 0 rfl rfl ?_
  refine f_aaldL25 C zk_17 zb_17 (by unfold vp_in; decide) (r := 23) (by decide) dX1_copyFrom_77 ?_
  refine z_aload_n C dX1_copyFrom_78 2 rfl rfl ?_
  refine f_get1 C 2 (v := .ref (B.1 + 68)) (by decide) tw_170 rfl zk_59 zb_59 rfl dX1_copyFrom_79 ?_
  refine z_iload_n C dX1_copyFrom_82 0 rfl rfl ?_
  refine f_aaldL25 C zk_68 zb_68 (by unfold vp_in; decide) (r := 74) (by decide) dX1_copyFrom_83 ?_
  refine f_callVv C hl (As := [.ref (B.1 + 74)]) (rest := []) (c_X4_copyFrom l B (zcp (zcp (zcp (zcp (zcp (zcp (zcp (zcp (zcp (zcp (zcp (zcp s 9 60 6) 11 62 4) 12 63 4) 13 64 4) 14 65 4) 15 66 4) 16 67 4) 18 69 4) 19 70 4) 20 71 4) 21 72 4) 22 73 4) t 23 74 zk_23 zb_23 zk_74 zb_74) zb_23 (zg_4 zk_23) rfl (zCB (nA := 1) C rfl rfl tw_453 tw_11 tw_450 (by decide +kernel) ⟨Nat.le_of_ble_eq_true rfl, Nat.le_of_ble_eq_true rfl⟩) tw_451 tw_452 rfl rfl (Nat.le_of_ble_eq_true rfl) dX1_copyFrom_84 (Nat.zero_le _) ?_
  refine z_iinc C [(2, .int 6), (0, .ref (B.1 + 8)), (1, .ref (B.1 + 59))] dX1_copyFrom_87 0 rfl (by decide) (by decide) rfl ?_
  refine z_goto C 54 dX1_copyFrom_90 (by decide) ?_
  refine z_iload_n C dX1_copyFrom_54 0 rfl rfl ?_
  refine z_aload_n C dX1_copyFrom_55 1 rfl rfl ?_
  refine f_get1 C 2 (v := .ref (B.1 + 17)) (by decide) tw_170 rfl zk_8 zb_8 rfl dX1_copyFrom_56 ?_
  refine f_alen25 C (v := 6) zk_17 zb_17 rfl dX1_copyFrom_59 ?_
  refine z_icmp_ge C 93 dX1_copyFrom_60 (by decide) (fun _ => ?_) (fun hbr => absurd (by decide) hbr)
  refine z_iconst C dX1_copyFrom_93 ki_0 ?_
  refine z_istore_n C [(2, .int 0), (0, .ref (B.1 + 8)), (1, .ref (B.1 + 59))] dX1_copyFrom_94 rfl (by decide) rfl ?_
  refine z_iload_n C dX1_copyFrom_95 0 rfl rfl ?_
  refine z_aload_n C dX1_copyFrom_96 1 rfl rfl ?_
  refine f_get1 C 3 (v := .ref (B.1 + 24)) (by decide) tw_171 rfl zk_8 zb_8 rfl dX1_copyFrom_97 ?_
  refine f_alen27 C (v := 8) zk_24 zb_24 rfl dX1_copyFrom_100 ?_
  refine z_icmp_ge C 134 dX1_copyFrom_101 (by decide) (fun hbr => absurd hbr (by decide)) (fun _ => ?_)
  refine z_iload_n C dX1_copyFrom_104 0 rfl rfl ?_
  refine z_aload_n C dX1_copyFrom_105 2 rfl rfl ?_
  refine f_get1 C 3 (v := .ref (B.1 + 75)) (by decide) tw_171 rfl zk_59 zb_59 rfl dX1_copyFrom_106 ?_
  refine f_alen27 C (v := 8) zk_75 zb_75 rfl dX1_copyFrom_109 ?_
  refine z_icmp_ge C 134 dX1_copyFrom_110 (by decide) (fun hbr => absurd hbr (by decide)) (fun _ => ?_)
  refine z_aload_n C dX1_copyFrom_113 1 rfl rfl ?_
  refine f_get1 C 3 (v := .ref (B.1 + 24)) (by decide) tw_171 rfl zk_8 zb_8 rfl dX1_copyFrom_114 ?_
  refine z_iload_n C dX1_copyFrom_117 0 rfl rfl ?_
  refine f_aaldL27 C zk_24 zb_24 (by unfold vp_in; decide) (r := 25) (by decide) dX1_copyFrom_118 ?_
  refine z_aload_n C dX1_copyFrom_119 2 rfl rfl ?_
  refine f_get1 C 3 (v := .ref (B.1 + 75)) (by decide) tw_171 rfl zk_59 zb_59 rfl dX1_copyFrom_120 ?_
  refine z_iload_n C dX1_copyFrom_123 0 rfl rfl ?_
  refine f_aaldL27 C zk_75 zb_75 (by unfold vp_in; decide) (r := 76) (by decide) dX1_copyFrom_124 ?_
  refine f_callVv C hl (As := [.ref (B.1 + 76)]) (rest := []) (c_X8_copyFrom l B (zcp (zcp (zcp (zcp (zcp (zcp (zcp (zcp (zcp (zcp (zcp (zcp (zcp s 9 60 6) 11 62 4) 12 63 4) 13 64 4) 14 65 4) 15 66 4) 16 67 4) 18 69 4) 19 70 4) 20 71 4) 21 72 4) 22 73 4) 23 74 4) t 25 76 zk_25 zb_25 zk_76 zb_76) zb_25 (zg_8 zk_25) rfl (zCB (nA := 1) C rfl rfl tw_445 tw_9 tw_442 (by decide +kernel) ⟨Nat.le_of_ble_eq_true rfl, Nat.le_of_ble_eq_true rfl⟩) tw_443 tw_444 rfl rfl (Nat.le_of_ble_eq_true rfl) dX1_copyFrom_125 (Nat.zero_le _) ?_
  refine z_iinc C [(2, .int 1), (0, .ref (B.1 + 8)), (1, .ref (B.1 + 59))] dX1_copyFrom_128 0 rfl (by decide) (by decide) rfl ?_
  refine z_goto C 95 dX1_copyFrom_131 (by decide) ?_
  refine z_iload_n C dX1_copyFrom_95 0 rfl rfl ?_
  refine z_aload_n C dX1_copyFrom_96 1 rfl rfl ?_
  refine f_get1 C 3 (v := .ref (B.1 + 24)) (by decide) tw_171 rfl zk_8 zb_8 rfl dX1_copyFrom_97 ?_
  refine f_alen27 C (v := 8) zk_24 zb_24 rfl dX1_copyFrom_100 ?_
  refine z_icmp_ge C 134 dX1_copyFrom_101 (by decide) (fun hbr => absurd hbr (by decide)) (fun _ => ?_)
  refine z_iload_n C dX1_copyFrom_104 0 rfl rfl ?_
  refine z_aload_n C dX1_copyFrom_105 2 rfl rfl ?_
  refine f_get1 C 3 (v := .ref (B.1 + 75)) (by decide) tw_171 rfl zk_59 zb_59 rfl dX1_copyFrom_106 ?_
  refine f_alen27 C (v := 8) zk_75 zb_75 rfl dX1_copyFrom_109 ?_
  refine z_icmp_ge C 134 dX1_copyFrom_110 (by decide) (fun hbr => absurd hbr (by decide)) (fun _ => ?_)
  refine z_aload_n C dX1_copyFrom_113 1 rfl rfl ?_
  refine f_get1 C 3 (v := .ref (B.1 + 24)) (by decide) tw_171 rfl zk_8 zb_8 rfl dX1_copyFrom_114 ?_
  refine z_iload_n C dX1_copyFrom_117 0 rfl rfl ?_
  refine f_aaldL27 C zk_24 zb_24 (by unfold vp_in; decide) (r := 26) (by decide) dX1_copyFrom_118 ?_
  refine z_aload_n C dX1_copyFrom_119 2 rfl rfl ?_
  refine f_get1 C 3 (v := .ref (B.1 + 75)) (by decide) tw_171 rfl zk_59 zb_59 rfl dX1_copyFrom_120 ?_
  refine z_iload_n C dX1_copyFrom_123 0 rfl rfl ?_
  refine f_aaldL27 C zk_75 zb_75 (by unfold vp_in; decide) (r := 77) (by decide) dX1_copyFrom_124 ?_
  refine f_callVv C hl (As := [.ref (B.1 + 77)]) (rest := []) (c_X8_copyFrom l B (zcp (zcp (zcp (zcp (zcp (zcp (zcp (zcp (zcp (zcp (zcp (zcp (zcp (zcp s 9 60 6) 11 62 4) 12 63 4) 13 64 4) 14 65 4) 15 66 4) 16 67 4) 18 69 4) 19 70 4) 20 71 4) 21 72 4) 22 73 4) 23 74 4) 25 76 6) t 26 77 zk_26 zb_26 zk_77 zb_77) zb_26 (zg_8 zk_26) rfl (zCB (nA := 1) C rfl rfl tw_445 tw_9 tw_442 (by decide +kernel) ⟨Nat.le_of_ble_eq_true rfl, Nat.le_of_ble_eq_true rfl⟩) tw_443 tw_444 rfl rfl (Nat.le_of_ble_eq_true rfl) dX1_copyFrom_125 (Nat.zero_le _) ?_
  refine z_iinc C [(2, .int 2), (0, .ref (B.1 + 8)), (1, .ref (B.1 + 59))] dX1_copyFrom_128 0 rfl (by decide) (by decide) rfl ?_
  refine z_goto C 95 dX1_copyFrom_131 (by decide) ?_
  refine z_iload_n C dX1_copyFrom_95 0 rfl rfl ?_
  refine z_aload_n C dX1_copyFrom_96 1 rfl rfl ?_
  refine f_get1 C 3 (v := .ref (B.1 + 24)) (by decide) tw_171 rfl zk_8 zb_8 rfl dX1_copyFrom_97 ?_
  refine f_alen27 C (v := 8) zk_24 zb_24 rfl dX1_copyFrom_100 ?_
  refine z_icmp_ge C 134 dX1_copyFrom_101 (by decide) (fun hbr => absurd hbr (by decide)) (fun _ => ?_)
  refine z_iload_n C dX1_copyFrom_104 0 rfl rfl ?_
  refine z_aload_n C dX1_copyFrom_105 2 rfl rfl ?_
  refine f_get1 C 3 (v := .ref (B.1 + 75)) (by decide) tw_171 rfl zk_59 zb_59 rfl dX1_copyFrom_106 ?_
  refine f_alen27 C (v := 8) zk_75 zb_75 rfl dX1_copyFrom_109 ?_
  refine z_icmp_ge C 134 dX1_copyFrom_110 (by decide) (fun hbr => absurd hbr (by decide)) (fun _ => ?_)
  refine z_aload_n C dX1_copyFrom_113 1 rfl rfl ?_
  refine f_get1 C 3 (v := .ref (B.1 + 24)) (by decide) tw_171 rfl zk_8 zb_8 rfl dX1_copyFrom_114 ?_
  refine z_iload_n C dX1_copyFrom_117 0 rfl rfl ?_
  refine f_aaldL27 C zk_24 zb_24 (by unfold vp_in; decide) (r := 27) (by decide) dX1_copyFrom_118 ?_
  refine z_aload_n C dX1_copyFrom_119 2 rfl rfl ?_
  refine f_get1 C 3 (v := .ref (B.1 + 75)) (by decide) tw_171 rfl zk_59 zb_59 rfl dX1_copyFrom_120 ?_
  refine z_iload_n C dX1_copyFrom_123 0 rfl rfl ?_
  refine f_aaldL27 C zk_75 zb_75 (by unfold vp_in; decide) (r := 78) (by decide) dX1_copyFrom_124 ?_
  refine f_callVv C hl (As := [.ref (B.1 + 78)]) (rest := []) (c_X8_copyFrom l B (zcp (zcp (zcp (zcp (zcp (zcp (zcp (zcp (zcp (zcp (zcp (zcp (zcp (zcp (zcp s 9 60 6) 11 62 4) 12 63 4) 13 64 4) 14 65 4) 15 66 4) 16 67 4) 18 69 4) 19 70 4) 20 71 4) 21 72 4) 22 73 4) 23 74 4) 25 76 6) 26 77 6) t 27 78 zk_27 zb_27 zk_78 zb_78) zb_27 (zg_8 zk_27) rfl (zCB (nA := 1) C rfl rfl tw_445 tw_9 tw_442 (by decide +kernel) ⟨Nat.le_of_ble_eq_true rfl, Nat.le_of_ble_eq_true rfl⟩) tw_443 tw_444 rfl rfl (Nat.le_of_ble_eq_true rfl) dX1_copyFrom_125 (Nat.zero_le _) ?_
  refine z_iinc C [(2, .int 3), (0, .ref (B.1 + 8)), (1, .ref (B.1 + 59))] dX1_copyFrom_128 0 rfl (by decide) (by decide) rfl ?_
  refine z_goto C 95 dX1_copyFrom_131 (by decide) ?_
  refine z_iload_n C dX1_copyFrom_95 0 rfl rfl ?_
  refine z_aload_n C dX1_copyFrom_96 1 rfl rfl ?_
  refine f_get1 C 3 (v := .ref (B.1 + 24)) (by decide) tw_171 rfl zk_8 zb_8 rfl dX1_copyFrom_97 ?_
  refine f_alen27 C (v := 8) zk_24 zb_24 rfl dX1_copyFrom_100 ?_
  refine z_icmp_ge C 134 dX1_copyFrom_101 (by decide) (fun hbr => absurd hbr (by decide)) (fun _ => ?_)
  refine z_iload_n C dX1_copyFrom_104 0 rfl rfl ?_
  refine z_aload_n C dX1_copyFrom_105 2 rfl rfl ?_
  refine f_get1 C 3 (v := .ref (B.1 + 75)) (by decide) tw_171 rfl zk_59 zb_59 rfl dX1_copyFrom_106 ?_
  refine f_alen27 C (v := 8) zk_75 zb_75 rfl dX1_copyFrom_109 ?_
  refine z_icmp_ge C 134 dX1_copyFrom_110 (by decide) (fun hbr => absurd hbr (by decide)) (fun _ => ?_)
  refine z_aload_n C dX1_copyFrom_113 1 rfl rfl ?_
  refine f_get1 C 3 (v := .ref (B.1 + 24)) (by decide) tw_171 rfl zk_8 zb_8 rfl dX1_copyFrom_114 ?_
  refine z_iload_n C dX1_copyFrom_117 0 rfl rfl ?_
  refine f_aaldL27 C zk_24 zb_24 (by unfold vp_in; decide) (r := 28) (by decide) dX1_copyFrom_118 ?_
  refine z_aload_n C dX1_copyFrom_119 2 rfl rfl ?_
  refine f_get1 C 3 (v := .ref (B.1 + 75)) (by decide) tw_171 rfl zk_59 zb_59 rfl dX1_copyFrom_120 ?_
  refine z_iload_n C dX1_copyFrom_123 0 rfl rfl ?_
  refine f_aaldL27 C zk_75 zb_75 (by unfold vp_in; decide) (r := 79) (by decide) dX1_copyFrom_124 ?_
  refine f_callVv C hl (As := [.ref (B.1 + 79)]) (rest := []) (c_X8_copyFrom l B (zcp (zcp (zcp (zcp (zcp (zcp (zcp (zcp (zcp (zcp (zcp (zcp (zcp (zcp (zcp (zcp s 9 60 6) 11 62 4) 12 63 4) 13 64 4) 14 65 4) 15 66 4) 16 67 4) 18 69 4) 19 70 4) 20 71 4) 21 72 4) 22 73 4) 23 74 4) 25 76 6) 26 77 6) 27 78 6) t 28 79 zk_28 zb_28 zk_79 zb_79) zb_28 (zg_8 zk_28) rfl (zCB (nA := 1) C rfl rfl tw_445 tw_9 tw_442 (by decide +kernel) ⟨Nat.le_of_ble_eq_true rfl, Nat.le_of_ble_eq_true rfl⟩) tw_443 tw_444 rfl rfl (Nat.le_of_ble_eq_true rfl) dX1_copyFrom_125 (Nat.zero_le _) ?_
  refine z_iinc C [(2, .int 4), (0, .ref (B.1 + 8)), (1, .ref (B.1 + 59))] dX1_copyFrom_128 0 rfl (by decide) (by decide) rfl ?_
  refine z_goto C 95 dX1_copyFrom_131 (by decide) ?_
  refine z_iload_n C dX1_copyFrom_95 0 rfl rfl ?_
  refine z_aload_n C dX1_copyFrom_96 1 rfl rfl ?_
  refine f_get1 C 3 (v := .ref (B.1 + 24)) (by decide) tw_171 rfl zk_8 zb_8 rfl dX1_copyFrom_97 ?_
  refine f_alen27 C (v := 8) zk_24 zb_24 rfl dX1_copyFrom_100 ?_
  refine z_icmp_ge C 134 dX1_copyFrom_101 (by decide) (fun hbr => absurd hbr (by decide)) (fun _ => ?_)
  refine z_iload_n C dX1_copyFrom_104 0 rfl rfl ?_
  refine z_aload_n C dX1_copyFrom_105 2 rfl rfl ?_
  refine f_get1 C 3 (v := .ref (B.1 + 75)) (by decide) tw_171 rfl zk_59 zb_59 rfl dX1_copyFrom_106 ?_
  refine f_alen27 C (v := 8) zk_75 zb_75 rfl dX1_copyFrom_109 ?_
  refine z_icmp_ge C 134 dX1_copyFrom_110 (by decide) (fun hbr => absurd hbr (by decide)) (fun _ => ?_)
  refine z_aload_n C dX1_copyFrom_113 1 rfl rfl ?_
  refine f_get1 C 3 (v := .ref (B.1 + 24)) (by decide) tw_171 rfl zk_8 zb_8 rfl dX1_copyFrom_114 ?_
  refine z_iload_n C dX1_copyFrom_117 0 rfl rfl ?_
  refine f_aaldL27 C zk_24 zb_24 (by unfold vp_in; decide) (r := 29) (by decide) dX1_copyFrom_118 ?_
  refine z_aload_n C dX1_copyFrom_119 2 rfl rfl ?_
  refine f_get1 C 3 (v := .ref (B.1 + 75)) (by decide) tw_171 rfl zk_59 zb_59 rfl dX1_copyFrom_120 ?_
  refine z_iload_n C dX1_copyFrom_123 0 rfl rfl ?_
  refine f_aaldL27 C zk_75 zb_75 (by unfold vp_in; decide) (r := 80) (by decide) dX1_copyFrom_124 ?_
  refine f_callVv C hl (As := [.ref (B.1 + 80)]) (rest := []) (c_X8_copyFrom l B (zcp (zcp (zcp (zcp (zcp (zcp (zcp (zcp (zcp (zcp (zcp (zcp (zcp (zcp (zcp (zcp (zcp s 9 60 6) 11 62 4) 12 63 4) 13 64 4) 14 65 4) 15 66 4) 16 67 4) 18 69 4) 19 70 4) 20 71 4) 21 72 4) 22 73 4) 23 74 4) 25 76 6) 26 77 6) 27 78 6) 28 79 6) t 29 80 zk_29 zb_29 zk_80 zb_80) zb_29 (zg_8 zk_29) rfl (zCB (nA := 1) C rfl rfl tw_445 tw_9 tw_442 (by decide +kernel) ⟨Nat.le_of_ble_eq_true rfl, Nat.le_of_ble_eq_true rfl⟩) tw_443 tw_444 rfl rfl (Nat.le_of_ble_eq_true rfl) dX1_copyFrom_125 (Nat.zero_le _) ?_
  refine z_iinc C [(2, .int 5), (0, .ref (B.1 + 8)), (1, .ref (B.1 + 59))] dX1_copyFrom_128 0 rfl (by decide) (by decide) rfl ?_
  refine z_goto C 95 dX1_copyFrom_131 (by decide) ?_
  refine z_iload_n C dX1_copyFrom_95 0 rfl rfl ?_
  refine z_aload_n C dX1_copyFrom_96 1 rfl rfl ?_
  refine f_get1 C 3 (v := .ref (B.1 + 24)) (by decide) tw_171 rfl zk_8 zb_8 rfl dX1_copyFrom_97 ?_
  refine f_alen27 C (v := 8) zk_24 zb_24 rfl dX1_copyFrom_100 ?_
  refine z_icmp_ge C 134 dX1_copyFrom_101 (by decide) (fun hbr => absurd hbr (by decide)) (fun _ => ?_)
  refine z_iload_n C dX1_copyFrom_104 0 rfl rfl ?_
  refine z_aload_n C dX1_copyFrom_105 2 rfl rfl ?_
  refine f_get1 C 3 (v := .ref (B.1 + 75)) (by decide) tw_171 rfl zk_59 zb_59 rfl dX1_copyFrom_106 ?_
  refine f_alen27 C (v := 8) zk_75 zb_75 rfl dX1_copyFrom_109 ?_
  refine z_icmp_ge C 134 dX1_copyFrom_110 (by decide) (fun hbr => absurd hbr (by decide)) (fun _ => ?_)
  refine z_aload_n C dX1_copyFrom_113 1 rfl rfl ?_
  refine f_get1 C 3 (v := .ref (B.1 + 24)) (by decide) tw_171 rfl zk_8 zb_8 rfl dX1_copyFrom_114 ?_
  refine z_iload_n C dX1_copyFrom_117 0 rfl rfl ?_
  refine f_aaldL27 C zk_24 zb_24 (by unfold vp_in; decide) (r := 30) (by decide) dX1_copyFrom_118 ?_
  refine z_aload_n C dX1_copyFrom_119 2 rfl rfl ?_
  refine f_get1 C 3 (v := .ref (B.1 + 75)) (by decide) tw_171 rfl zk_59 zb_59 rfl dX1_copyFrom_120 ?_
  refine z_iload_n C dX1_copyFrom_123 0 rfl rfl ?_
  refine f_aaldL27 C zk_75 zb_75 (by unfold vp_in; decide) (r := 81) (by decide) dX1_copyFrom_124 ?_
  refine f_callVv C hl (As := [.ref (B.1 + 81)]) (rest := []) (c_X8_copyFrom l B (zcp (zcp (zcp (zcp (zcp (zcp (zcp (zcp (zcp (zcp (zcp (zcp (zcp (zcp (zcp (zcp (zcp (zcp s 9 60 6) 11 62 4) 12 63 4) 13 64 4) 14 65 4) 15 66 4) 16 67 4) 18 69 4) 19 70 4) 20 71 4) 21 72 4) 22 73 4) 23 74 4) 25 76 6) 26 77 6) 27 78 6) 28 79 6) 29 80 6) t 30 81 zk_30 zb_30 zk_81 zb_81) zb_30 (zg_8 zk_30) rfl (zCB (nA := 1) C rfl rfl tw_445 tw_9 tw_442 (by decide +kernel) ⟨Nat.le_of_ble_eq_true rfl, Nat.le_of_ble_eq_true rfl⟩) tw_443 tw_444 rfl rfl (Nat.le_of_ble_eq_true rfl) dX1_copyFrom_125 (Nat.zero_le _) ?_
  refine z_iinc C [(2, .int 6), (0, .ref (B.1 + 8)), (1, .ref (B.1 + 59))] dX1_copyFrom_128 0 rfl (by decide) (by decide) rfl ?_
  refine z_goto C 95 dX1_copyFrom_131 (by decide) ?_
  refine z_iload_n C dX1_copyFrom_95 0 rfl rfl ?_
  refine z_aload_n C dX1_copyFrom_96 1 rfl rfl ?_
  refine f_get1 C 3 (v := .ref (B.1 + 24)) (by decide) tw_171 rfl zk_8 zb_8 rfl dX1_copyFrom_97 ?_
  refine f_alen27 C (v := 8) zk_24 zb_24 rfl dX1_copyFrom_100 ?_
  refine z_icmp_ge C 134 dX1_copyFrom_101 (by decide) (fun hbr => absurd hbr (by decide)) (fun _ => ?_)
  refine z_iload_n C dX1_copyFrom_104 0 rfl rfl ?_
  refine z_aload_n C dX1_copyFrom_105 2 rfl rfl ?_
  refine f_get1 C 3 (v := .ref (B.1 + 75)) (by decide) tw_171 rfl zk_59 zb_59 rfl dX1_copyFrom_106 ?_
  refine f_alen27 C (v := 8) zk_75 zb_75 rfl dX1_copyFrom_109 ?_
  refine z_icmp_ge C 134 dX1_copyFrom_110 (by decide) (fun hbr => absurd hbr (by decide)) (fun _ => ?_)
  refine z_aload_n C dX1_copyFrom_113 1 rfl rfl ?_
  refine f_get1 C 3 (v := .ref (B.1 + 24)) (by decide) tw_171 rfl zk_8 zb_8 rfl dX1_copyFrom_114 ?_
  refine z_iload_n C dX1_copyFrom_117 0 rfl rfl ?_
  refine f_aaldL27 C zk_24 zb_24 (by unfold vp_in; decide) (r := 31) (by decide) dX1_copyFrom_118 ?_
  refine z_aload_n C dX1_copyFrom_119 2 rfl rfl ?_
  refine f_get1 C 3 (v := .ref (B.1 + 75)) (by decide) tw_171 rfl zk_59 zb_59 rfl dX1_copyFrom_120 ?_
  refine z_iload_n C dX1_copyFrom_123 0 rfl rfl ?_
  refine f_aaldL27 C zk_75 zb_75 (by unfold vp_in; decide) (r := 82) (by decide) dX1_copyFrom_124 ?_
  refine f_callVv C hl (As := [.ref (B.1 + 82)]) (rest := []) (c_X8_copyFrom l B (zcp (zcp (zcp (zcp (zcp (zcp (zcp (zcp (zcp (zcp (zcp (zcp (zcp (zcp (zcp (zcp (zcp (zcp (zcp s 9 60 6) 11 62 4) 12 63 4) 13 64 4) 14 65 4) 15 66 4) 16 67 4) 18 69 4) 19 70 4) 20 71 4) 21 72 4) 22 73 4) 23 74 4) 25 76 6) 26 77 6) 27 78 6) 28 79 6) 29 80 6) 30 81 6) t 31 82 zk_31 zb_31 zk_82 zb_82) zb_31 (zg_8 zk_31) rfl (zCB (nA := 1) C rfl rfl tw_445 tw_9 tw_442 (by decide +kernel) ⟨Nat.le_of_ble_eq_true rfl, Nat.le_of_ble_eq_true rfl⟩) tw_443 tw_444 rfl rfl (Nat.le_of_ble_eq_true rfl) dX1_copyFrom_125 (Nat.zero_le _) ?_
  refine z_iinc C [(2, .int 7), (0, .ref (B.1 + 8)), (1, .ref (B.1 + 59))] dX1_copyFrom_128 0 rfl (by decide) (by decide) rfl ?_
  refine z_goto C 95 dX1_copyFrom_131 (by decide) ?_
  refine z_iload_n C dX1_copyFrom_95 0 rfl rfl ?_
  refine z_aload_n C dX1_copyFrom_96 1 rfl rfl ?_
  refine f_get1 C 3 (v := .ref (B.1 + 24)) (by decide) tw_171 rfl zk_8 zb_8 rfl dX1_copyFrom_97 ?_
  refine f_alen27 C (v := 8) zk_24 zb_24 rfl dX1_copyFrom_100 ?_
  refine z_icmp_ge C 134 dX1_copyFrom_101 (by decide) (fun hbr => absurd hbr (by decide)) (fun _ => ?_)
  refine z_iload_n C dX1_copyFrom_104 0 rfl rfl ?_
  refine z_aload_n C dX1_copyFrom_105 2 rfl rfl ?_
  refine f_get1 C 3 (v := .ref (B.1 + 75)) (by decide) tw_171 rfl zk_59 zb_59 rfl dX1_copyFrom_106 ?_
  refine f_alen27 C (v := 8) zk_75 zb_75 rfl dX1_copyFrom_109 ?_
  refine z_icmp_ge C 134 dX1_copyFrom_110 (by decide) (fun hbr => absurd hbr (by decide)) (fun _ => ?_)
  refine z_aload_n C dX1_copyFrom_113 1 rfl rfl ?_
  refine f_get1 C 3 (v := .ref (B.1 + 24)) (by decide) tw_171 rfl zk_8 zb_8 rfl dX1_copyFrom_114 ?_
  refine z_iload_n C dX1_copyFrom_117 0 rfl rfl ?_
  refine f_aaldL27 C zk_24 zb_24 (by unfold vp_in; decide) (r := 32) (by decide) dX1_copyFrom_118 ?_
  refine z_aload_n C dX1_copyFrom_119 2 rfl rfl ?_
  refine f_get1 C 3 (v := .ref (B.1 + 75)) (by decide) tw_171 rfl zk_59 zb_59 rfl dX1_copyFrom_120 ?_
  refine z_iload_n C dX1_copyFrom_123 0 rfl rfl ?_
  refine f_aaldL27 C zk_75 zb_75 (by unfold vp_in; decide) (r := 83) (by decide) dX1_copyFrom_124 ?_
  refine f_callVv C hl (As := [.ref (B.1 + 83)]) (rest := []) (c_X8_copyFrom l B (zcp (zcp (zcp (zcp (zcp (zcp (zcp (zcp (zcp (zcp (zcp (zcp (zcp (zcp (zcp (zcp (zcp (zcp (zcp (zcp s 9 60 6) 11 62 4) 12 63 4) 13 64 4) 14 65 4) 15 66 4) 16 67 4) 18 69 4) 19 70 4) 20 71 4) 21 72 4) 22 73 4) 23 74 4) 25 76 6) 26 77 6) 27 78 6) 28 79 6) 29 80 6) 30 81 6) 31 82 6) t 32 83 zk_32 zb_32 zk_83 zb_83) zb_32 (zg_8 zk_32) rfl (zCB (nA := 1) C rfl rfl tw_445 tw_9 tw_442 (by decide +kernel) ⟨Nat.le_of_ble_eq_true rfl, Nat.le_of_ble_eq_true rfl⟩) tw_443 tw_444 rfl rfl (Nat.le_of_ble_eq_true rfl) dX1_copyFrom_125 (Nat.zero_le _) ?_
  refine z_iinc C [(2, .int 8), (0, .ref (B.1 + 8)), (1, .ref (B.1 + 59))] dX1_copyFrom_128 0 rfl (by decide) (by decide) rfl ?_
  refine z_goto C 95 dX1_copyFrom_131 (by decide) ?_
  refine z_iload_n C dX1_copyFrom_95 0 rfl rfl ?_
  refine z_aload_n C dX1_copyFrom_96 1 rfl rfl ?_
  refine f_get1 C 3 (v := .ref (B.1 + 24)) (by decide) tw_171 rfl zk_8 zb_8 rfl dX1_copyFrom_97 ?_
  refine f_alen27 C (v := 8) zk_24 zb_24 rfl dX1_copyFrom_100 ?_
  refine z_icmp_ge C 134 dX1_copyFrom_101 (by decide) (fun _ => ?_) (fun hbr => absurd (by decide) hbr)
  refine z_aload_n C dX1_copyFrom_134 1 rfl rfl ?_
  refine z_aload_n C dX1_copyFrom_135 2 rfl rfl ?_
  refine f_get1 C 4 (v := .int ((zcp (zcp (zcp (zcp (zcp (zcp (zcp (zcp (zcp (zcp (zcp (zcp (zcp (zcp (zcp (zcp (zcp (zcp (zcp (zcp (zcp s 9 60 6) 11 62 4) 12 63 4) 13 64 4) 14 65 4) 15 66 4) 16 67 4) 18 69 4) 19 70 4) 20 71 4) 21 72 4) 22 73 4) 23 74 4) 25 76 6) 26 77 6) 27 78 6) 28 79 6) 29 80 6) 30 81 6) 31 82 6) 32 83 6) 59 4)) (by decide) tw_172 rfl zk_59 zb_59 rfl dX1_copyFrom_136 ?_
  refine f_put1_4 C tw_172 zk_8 zb_8 dX1_copyFrom_139 ?_
  refine z_aload_n C dX1_copyFrom_142 1 rfl rfl ?_
  refine z_aload_n C dX1_copyFrom_143 2 rfl rfl ?_
  refine f_get1 C 5 (v := .int ((zu (zcp (zcp (zcp (zcp (zcp (zcp (zcp (zcp (zcp (zcp (zcp (zcp (zcp (zcp (zcp (zcp (zcp (zcp (zcp (zcp (zcp s 9 60 6) 11 62 4) 12 63 4) 13 64 4) 14 65 4) 15 66 4) 16 67 4) 18 69 4) 19 70 4) 20 71 4) 21 72 4) 22 73 4) 23 74 4) 25 76 6) 26 77 6) 27 78 6) 28 79 6) 29 80 6) 30 81 6) 31 82 6) 32 83 6) 8 4 ((zcp (zcp (zcp (zcp (zcp (zcp (zcp (zcp (zcp (zcp (zcp (zcp (zcp (zcp (zcp (zcp (zcp (zcp (zcp (zcp (zcp s 9 60 6) 11 62 4) 12 63 4) 13 64 4) 14 65 4) 15 66 4) 16 67 4) 18 69 4) 19 70 4) 20 71 4) 21 72 4) 22 73 4) 23 74 4) 25 76 6) 26 77 6) 27 78 6) 28 79 6) 29 80 6) 30 81 6) 31 82 6) 32 83 6) 59 4)) 59 5)) (by decide) tw_174 rfl zk_59 zb_59 rfl dX1_copyFrom_144 ?_
  refine f_put1_5 C tw_174 zk_8 zb_8 dX1_copyFrom_147 ?_
  refine z_aload_n C dX1_copyFrom_150 1 rfl rfl ?_
  refine z_aload_n C dX1_copyFrom_151 2 rfl rfl ?_
  refine f_get1 C 6 (v := .int ((zu (zu (zcp (zcp (zcp (zcp (zcp (zcp (zcp (zcp (zcp (zcp (zcp (zcp (zcp (zcp (zcp (zcp (zcp (zcp (zcp (zcp (zcp s 9 60 6) 11 62 4) 12 63 4) 13 64 4) 14 65 4) 15 66 4) 16 67 4) 18 69 4) 19 70 4) 20 71 4) 21 72 4) 22 73 4) 23 74 4) 25 76 6) 26 77 6) 27 78 6) 28 79 6) 29 80 6) 30 81 6) 31 82 6) 32 83 6) 8 4 ((zcp (zcp (zcp (zcp (zcp (zcp (zcp (zcp (zcp (zcp (zcp (zcp (zcp (zcp (zcp (zcp (zcp (zcp (zcp (zcp (zcp s 9 60 6) 11 62 4) 12 63 4) 13 64 4) 14 65 4) 15 66 4) 16 67 4) 18 69 4) 19 70 4) 20 71 4) 21 72 4) 22 73 4) 23 74 4) 25 76 6) 26 77 6) 27 78 6) 28 79 6) 29 80 6) 30 81 6) 31 82 6) 32 83 6) 59 4)) 8 5 ((zu (zcp (zcp (zcp (zcp (zcp (zcp (zcp (zcp (zcp (zcp (zcp (zcp (zcp (zcp (zcp (zcp (zcp (zcp (zcp (zcp (zcp s 9 60 6) 11 62 4) 12 63 4) 13 64 4) 14 65 4) 15 66 4) 16 67 4) 18 69 4) 19 70 4) 20 71 4) 21 72 4) 22 73 4) 23 74 4) 25 76 6) 26 77 6) 27 78 6) 28 79 6) 29 80 6) 30 81 6) 31 82 6) 32 83 6) 8 4 ((zcp (zcp (zcp (zcp (zcp (zcp (zcp (zcp (zcp (zcp (zcp (zcp (zcp (zcp (zcp (zcp (zcp (zcp (zcp (zcp (zcp s 9 60 6) 11 62 4) 12 63 4) 13 64 4) 14 65 4) 15 66 4) 16 67 4) 18 69 4) 19 70 4) 20 71 4) 21 72 4) 22 73 4) 23 74 4) 25 76 6) 26 77 6) 27 78 6) 28 79 6) 29 80 6) 30 81 6) 31 82 6) 32 83 6) 59 4)) 59 5)) 59 6)) (by decide) tw_176 rfl zk_59 zb_59 rfl dX1_copyFrom_152 ?_
  refine f_put1_6 C tw_176 zk_8 zb_8 dX1_copyFrom_155 ?_
  refine z_vret C E rfl dX1_copyFrom_158 rfl (Nat.le_refl _) ⟨rfl, rfl⟩
def wCopy8_84 (s : zS) : zS := (zu (zu (zu (zcp (zcp (zcp (zcp (zcp (zcp (zcp (zcp (zcp (zcp (zcp (zcp (zcp (zcp (zcp (zcp (zcp (zcp (zcp (zcp (zcp s 9 85 6) 11 87 4) 12 88 4) 13 89 4) 14 90 4) 15 91 4) 16 92 4) 18 94 4) 19 95 4) 20 96 4) 21 97 4) 22 98 4) 23 99 4) 25 101 6) 26 102 6) 27 103 6) 28 104 6) 29 105 6) 30 106 6) 31 107 6) 32 108 6) 8 4 ((zcp (zcp (zcp (zcp (zcp (zcp (zcp (zcp (zcp (zcp (zcp (zcp (zcp (zcp (zcp (zcp (zcp (zcp (zcp (zcp (zcp s 9 85 6) 11 87 4) 12 88 4) 13 89 4) 14 90 4) 15 91 4) 16 92 4) 18 94 4) 19 95 4) 20 96 4) 21 97 4) 22 98 4) 23 99 4) 25 101 6) 26 102 6) 27 103 6) 28 104 6) 29 105 6) 30 106 6) 31 107 6) 32 108 6) 84 4)) 8 5 ((zu (zcp (zcp (zcp (zcp (zcp (zcp (zcp (zcp (zcp (zcp (zcp (zcp (zcp (zcp (zcp (zcp (zcp (zcp (zcp (zcp (zcp s 9 85 6) 11 87 4) 12 88 4) 13 89 4) 14 90 4) 15 91 4) 16 92 4) 18 94 4) 19 95 4) 20 96 4) 21 97 4) 22 98 4) 23 99 4) 25 101 6) 26 102 6) 27 103 6) 28 104 6) 29 105 6) 30 106 6) 31 107 6) 32 108 6) 8 4 ((zcp (zcp (zcp (zcp (zcp (zcp (zcp (zcp (zcp (zcp (zcp (zcp (zcp (zcp (zcp (zcp (zcp (zcp (zcp (zcp (zcp s 9 85 6) 11 87 4) 12 88 4) 13 89 4) 14 90 4) 15 91 4) 16 92 4) 18 94 4) 19 95 4) 20 96 4) 21 97 4) 22 98 4) 23 99 4) 25 101 6) 26 102 6) 27 103 6) 28 104 6) 29 105 6) 30 106 6) 31 107 6) 32 108 6) 84 4)) 84 5)) 8 6 ((zu (zu (zcp (zcp (zcp (zcp (zcp (zcp (zcp (zcp (zcp (zcp (zcp (zcp (zcp (zcp (zcp (zcp (zcp (zcp (zcp (zcp (zcp s 9 85 6) 11 87 4) 12 88 4) 13 89 4) 14 90 4) 15 91 4) 16 92 4) 18 94 4) 19 95 4) 20 96 4) 21 97 4) 22 98 4) 23 99 4) 25 101 6) 26 102 6) 27 103 6) 28 104 6) 29 105 6) 30 106 6) 31 107 6) 32 108 6) 8 4 ((zcp (zcp (zcp (zcp (zcp (zcp (zcp (zcp (zcp (zcp (zcp (zcp (zcp (zcp (zcp (zcp (zcp (zcp (zcp (zcp (zcp s 9 85 6) 11 87 4) 12 88 4) 13 89 4) 14 90 4) 15 91 4) 16 92 4) 18 94 4) 19 95 4) 20 96 4) 21 97 4) 22 98 4) 23 99 4) 25 101 6) 26 102 6) 27 103 6) 28 104 6) 29 105 6) 30 106 6) 31 107 6) 32 108 6) 84 4)) 8 5 ((zu (zcp (zcp (zcp (zcp (zcp (zcp (zcp (zcp (zcp (zcp (zcp (zcp (zcp (zcp (zcp (zcp (zcp (zcp (zcp (zcp (zcp s 9 85 6) 11 87 4) 12 88 4) 13 89 4) 14 90 4) 15 91 4) 16 92 4) 18 94 4) 19 95 4) 20 96 4) 21 97 4) 22 98 4) 23 99 4) 25 101 6) 26 102 6) 27 103 6) 28 104 6) 29 105 6) 30 106 6) 31 107 6) 32 108 6) 8 4 ((zcp (zcp (zcp (zcp (zcp (zcp (zcp (zcp (zcp (zcp (zcp (zcp (zcp (zcp (zcp (zcp (zcp (zcp (zcp (zcp (zcp s 9 85 6) 11 87 4) 12 88 4) 13 89 4) 14 90 4) 15 91 4) 16 92 4) 18 94 4) 19 95 4) 20 96 4) 21 97 4) 22 98 4) 23 99 4) 25 101 6) 26 102 6) 27 103 6) 28 104 6) 29 105 6) 30 106 6) 31 107 6) 32 108 6) 84 4)) 84 5)) 84 6))
set_option maxRecDepth 100000 in
set_option maxHeartbeats 4000000 in
theorem c_X1_copyFrom8_84 (l : Launch) (B : zB) (s : zS) (t : zL)  : zD l B mX1_copyFrom s t [.ref (B.1 + 8), .ref (B.1 + 84)] none (wCopy8_84 s) t := by
  refine z_met (by decide) (Nat.le_of_ble_eq_true rfl) ?_
  intro X hl C E hnm
  show Zf X B mX1_copyFrom s t 0 [(0, .ref (B.1 + 8)), (1, .ref (B.1 + 84))] []
  refine z_aload_n C dX1_copyFrom_0 0 rfl rfl ?_
  refine f_get1 C 0 (v := .ref (B.1 + 9)) (by decide) tw_167 rfl zk_8 zb_8 rfl dX1_copyFrom_1 ?_
  refine z_aload_n C dX1_copyFrom_4 1 rfl rfl ?_
  refine f_get1 C 0 (v := .ref (B.1 + 85)) (by decide) tw_167 rfl zk_84 zb_84 rfl dX1_copyFrom_5 ?_
  refine f_callVv C hl (As := [.ref (B.1 + 85)]) (rest := []) (c_X8_copyFrom l B s t 9 85 zk_9 zb_9 zk_85 zb_85) zb_9 (zg_8 zk_9) rfl (zCB (nA := 1) C rfl rfl tw_445 tw_9 tw_442 (by decide +kernel) ⟨Nat.le_of_ble_eq_true rfl, Nat.le_of_ble_eq_true rfl⟩) tw_443 tw_444 rfl rfl (Nat.le_of_ble_eq_true rfl) dX1_copyFrom_8 (Nat.zero_le _) ?_
  refine z_iconst C dX1_copyFrom_11 ki_0 ?_
  refine z_istore_n C [(2, .int 0), (0, .ref (B.1 + 8)), (1, .ref (B.1 + 84))] dX1_copyFrom_12 rfl (by decide) rfl ?_
  refine z_iload_n C dX1_copyFrom_13 0 rfl rfl ?_
  refine z_aload_n C dX1_copyFrom_14 1 rfl rfl ?_
  refine f_get1 C 1 (v := .ref (B.1 + 10)) (by decide) tw_169 rfl zk_8 zb_8 rfl dX1_copyFrom_15 ?_
  refine f_alen23 C (v := 6) zk_10 zb_10 rfl dX1_copyFrom_18 ?_
  refine z_icmp_ge C 52 dX1_copyFrom_19 (by decide) (fun hbr => absurd hbr (by decide)) (fun _ => ?_)
  refine z_iload_n C dX1_copyFrom_22 0 rfl rfl ?_
  refine z_aload_n C dX1_copyFrom_23 2 rfl rfl ?_
  refine f_get1 C 1 (v := .ref (B.1 + 86)) (by decide) tw_169 rfl zk_84 zb_84 rfl dX1_copyFrom_24 ?_
  refine f_alen23 C (v := 6) zk_86 zb_86 rfl dX1_copyFrom_27 ?_
  refine z_icmp_ge C 52 dX1_copyFrom_28 (by decide) (fun hbr => absurd hbr (by decide)) (fun _ => ?_)
  refine z_aload_n C dX1_copyFrom_31 1 rfl rfl ?_
  refine f_get1 C 1 (v := .ref (B.1 + 10)) (by decide) tw_169 rfl zk_8 zb_8 rfl dX1_copyFrom_32 ?_
  refine z_iload_n C dX1_copyFrom_35 0 rfl rfl ?_
  refine f_aaldL23 C zk_10 zb_10 (by unfold vp_in; decide) (r := 11) (by decide) dX1_copyFrom_36 ?_
  refine z_aload_n C dX1_copyFrom_37 2 rfl rfl ?_
  refine f_get1 C 1 (v := .ref (B.1 + 86)) (by decide) tw_169 rfl zk_84 zb_84 rfl dX1_copyFrom_38 ?_
  refine z_iload_n C dX1_copyFrom_41 0 rfl rfl ?_
  refine f_aaldL23 C zk_86 zb_86 (by unfold vp_in; decide) (r := 87) (by decide) dX1_copyFrom_42 ?_
  refine f_callVv C hl (As := [.ref (B.1 + 87)]) (rest := []) (c_X0_copyFrom l B (zcp s 9 85 6) t 11 87 zk_11 zb_11 zk_87 zb_87) zb_11 (zg_0 zk_11) rfl (zCB (nA := 1) C rfl rfl tw_449 tw_10 tw_446 (by decide +kernel) ⟨Nat.le_of_ble_eq_true rfl, Nat.le_of_ble_eq_true rfl⟩) tw_447 tw_448 rfl rfl (Nat.le_of_ble_eq_true rfl) dX1_copyFrom_43 (Nat.zero_le _) ?_
  refine z_iinc C [(2, .int 1), (0, .ref (B.1 + 8)), (1, .ref (B.1 + 84))] dX1_copyFrom_46 0 rfl (by decide) (by decide) rfl ?_
  refine z_goto C 13 dX1_copyFrom_49 (by decide) ?_
  refine z_iload_n C dX1_copyFrom_13 0 rfl rfl ?_
  refine z_aload_n C dX1_copyFrom_14 1 rfl rfl ?_
  refine f_get1 C 1 (v := .ref (B.1 + 10)) (by decide) tw_169 rfl zk_8 zb_8 rfl dX1_copyFrom_15 ?_
  refine f_alen23 C (v := 6) zk_10 zb_10 rfl dX1_copyFrom_18 ?_
  refine z_icmp_ge C 52 dX1_copyFrom_19 (by decide) (fun hbr => absurd hbr (by decide)) (fun _ => ?_)
  refine z_iload_n C dX1_copyFrom_22 0 rfl rfl ?_
  refine z_aload_n C dX1_copyFrom_23 2 rfl rfl ?_
  refine f_get1 C 1 (v := .ref (B.1 + 86)) (by decide) tw_169 rfl zk_84 zb_84 rfl dX1_copyFrom_24 ?_
  refine f_alen23 C (v := 6) zk_86 zb_86 rfl dX1_copyFrom_27 ?_
  refine z_icmp_ge C 52 dX1_copyFrom_28 (by decide) (fun hbr => absurd hbr (by decide)) (fun _ => ?_)
  refine z_aload_n C dX1_copyFrom_31 1 rfl rfl ?_
  refine f_get1 C 1 (v := .ref (B.1 + 10)) (by decide) tw_169 rfl zk_8 zb_8 rfl dX1_copyFrom_32 ?_
  refine z_iload_n C dX1_copyFrom_35 0 rfl rfl ?_
  refine f_aaldL23 C zk_10 zb_10 (by unfold vp_in; decide) (r := 12) (by decide) dX1_copyFrom_36 ?_
  refine z_aload_n C dX1_copyFrom_37 2 rfl rfl ?_
  refine f_get1 C 1 (v := .ref (B.1 + 86)) (by decide) tw_169 rfl zk_84 zb_84 rfl dX1_copyFrom_38 ?_
  refine z_iload_n C dX1_copyFrom_41 0 rfl rfl ?_
  refine f_aaldL23 C zk_86 zb_86 (by unfold vp_in; decide) (r := 88) (by decide) dX1_copyFrom_42 ?_
  refine f_callVv C hl (As := [.ref (B.1 + 88)]) (rest := []) (c_X0_copyFrom l B (zcp (zcp s 9 85 6) 11 87 4) t 12 88 zk_12 zb_12 zk_88 zb_88) zb_12 (zg_0 zk_12) rfl (zCB (nA := 1) C rfl rfl tw_449 tw_10 tw_446 (by decide +kernel) ⟨Nat.le_of_ble_eq_true rfl, Nat.le_of_ble_eq_true rfl⟩) tw_447 tw_448 rfl rfl (Nat.le_of_ble_eq_true rfl) dX1_copyFrom_43 (Nat.zero_le _) ?_
  refine z_iinc C [(2, .int 2), (0, .ref (B.1 + 8)), (1, .ref (B.1 + 84))] dX1_copyFrom_46 0 rfl (by decide) (by decide) rfl ?_
  refine z_goto C 13 dX1_copyFrom_49 (by decide) ?_
  refine z_iload_n C dX1_copyFrom_13 0 rfl rfl ?_
  refine z_aload_n C dX1_copyFrom_14 1 rfl rfl ?_
  refine f_get1 C 1 (v := .ref (B.1 + 10)) (by decide) tw_169 rfl zk_8 zb_8 rfl dX1_copyFrom_15 ?_
  refine f_alen23 C (v := 6) zk_10 zb_10 rfl dX1_copyFrom_18 ?_
  refine z_icmp_ge C 52 dX1_copyFrom_19 (by decide) (fun hbr => absurd hbr (by decide)) (fun _ => ?_)
  refine z_iload_n C dX1_copyFrom_22 0 rfl rfl ?_
  refine z_aload_n C dX1_copyFrom_23 2 rfl rfl ?_
  refine f_get1 C 1 (v := .ref (B.1 + 86)) (by decide) tw_169 rfl zk_84 zb_84 rfl dX1_copyFrom_24 ?_
  refine f_alen23 C (v := 6) zk_86 zb_86 rfl dX1_copyFrom_27 ?_
  refine z_icmp_ge C 52 dX1_copyFrom_28 (by decide) (fun hbr => absurd hbr (by decide)) (fun _ => ?_)
  refine z_aload_n C dX1_copyFrom_31 1 rfl rfl ?_
  refine f_get1 C 1 (v := .ref (B.1 + 10)) (by decide) tw_169 rfl zk_8 zb_8 rfl dX1_copyFrom_32 ?_
  refine z_iload_n C dX1_copyFrom_35 0 rfl rfl ?_
  refine f_aaldL23 C zk_10 zb_10 (by unfold vp_in; decide) (r := 13) (by decide) dX1_copyFrom_36 ?_
  refine z_aload_n C dX1_copyFrom_37 2 rfl rfl ?_
  refine f_get1 C 1 (v := .ref (B.1 + 86)) (by decide) tw_169 rfl zk_84 zb_84 rfl dX1_copyFrom_38 ?_
  refine z_iload_n C dX1_copyFrom_41 0 rfl rfl ?_
  refine f_aaldL23 C zk_86 zb_86 (by unfold vp_in; decide) (r := 89) (by decide) dX1_copyFrom_42 ?_
  refine f_callVv C hl (As := [.ref (B.1 + 89)]) (rest := []) (c_X0_copyFrom l B (zcp (zcp (zcp s 9 85 6) 11 87 4) 12 88 4) t 13 89 zk_13 zb_13 zk_89 zb_89) zb_13 (zg_0 zk_13) rfl (zCB (nA := 1) C rfl rfl tw_449 tw_10 tw_446 (by decide +kernel) ⟨Nat.le_of_ble_eq_true rfl, Nat.le_of_ble_eq_true rfl⟩) tw_447 tw_448 rfl rfl (Nat.le_of_ble_eq_true rfl) dX1_copyFrom_43 (Nat.zero_le _) ?_
  refine z_iinc C [(2, .int 3), (0, .ref (B.1 + 8)), (1, .ref (B.1 + 84))] dX1_copyFrom_46 0 rfl (by decide) (by decide) rfl ?_
  refine z_goto C 13 dX1_copyFrom_49 (by decide) ?_
  refine z_iload_n C dX1_copyFrom_13 0 rfl rfl ?_
  refine z_aload_n C dX1_copyFrom_14 1 rfl rfl ?_
  refine f_get1 C 1 (v := .ref (B.1 + 10)) (by decide) tw_169 rfl zk_8 zb_8 rfl dX1_copyFrom_15 ?_
  refine f_alen23 C (v := 6) zk_10 zb_10 rfl dX1_copyFrom_18 ?_
  refine z_icmp_ge C 52 dX1_copyFrom_19 (by decide) (fun hbr => absurd hbr (by decide)) (fun _ => ?_)
  refine z_iload_n C dX1_copyFrom_22 0 rfl rfl ?_
  refine z_aload_n C dX1_copyFrom_23 2 rfl rfl ?_
  refine f_get1 C 1 (v := .ref (B.1 + 86)) (by decide) tw_169 rfl zk_84 zb_84 rfl dX1_copyFrom_24 ?_
  refine f_alen23 C (v := 6) zk_86 zb_86 rfl dX1_copyFrom_27 ?_
  refine z_icmp_ge C 52 dX1_copyFrom_28 (by decide) (fun hbr => absurd hbr (by decide)) (fun _ => ?_)
  refine z_aload_n C dX1_copyFrom_31 1 rfl rfl ?_
  refine f_get1 C 1 (v := .ref (B.1 + 10)) (by decide) tw_169 rfl zk_8 zb_8 rfl dX1_copyFrom_32 ?_
  refine z_iload_n C dX1_copyFrom_35 0 rfl rfl ?_
  refine f_aaldL23 C zk_10 zb_10 (by unfold vp_in; decide) (r := 14) (by decide) dX1_copyFrom_36 ?_
  refine z_aload_n C dX1_copyFrom_37 2 rfl rfl ?_
  refine f_get1 C 1 (v := .ref (B.1 + 86)) (by decide) tw_169 rfl zk_84 zb_84 rfl dX1_copyFrom_38 ?_
  refine z_iload_n C dX1_copyFrom_41 0 rfl rfl ?_
  refine f_aaldL23 C zk_86 zb_86 (by unfold vp_in; decide) (r := 90) (by decide) dX1_copyFrom_42 ?_
  refine f_callVv C hl (As := [.ref (B.1 + 90)]) (rest := []) (c_X0_copyFrom l B (zcp (zcp (zcp (zcp s 9 85 6) 11 87 4) 12 88 4) 13 89 4) t 14 90 zk_14 zb_14 zk_90 zb_90) zb_14 (zg_0 zk_14) rfl (zCB (nA := 1) C rfl rfl tw_449 tw_10 tw_446 (by decide +kernel) ⟨Nat.le_of_ble_eq_true rfl, Nat.le_of_ble_eq_true rfl⟩) tw_447 tw_448 rfl rfl (Nat.le_of_ble_eq_true rfl) dX1_copyFrom_43 (Nat.zero_le _) ?_
  refine z_iinc C [(2, .int 4), (0, .ref (B.1 + 8)), (1, .ref (B.1 + 84))] dX1_copyFrom_46 0 rfl (by decide) (by decide) rfl ?_
  refine z_goto C 13 dX1_copyFrom_49 (by decide) ?_
  refine z_iload_n C dX1_copyFrom_13 0 rfl rfl ?_
  refine z_aload_n C dX1_copyFrom_14 1 rfl rfl ?_
  refine f_get1 C 1 (v := .ref (B.1 + 10)) (by decide) tw_169 rfl zk_8 zb_8 rfl dX1_copyFrom_15 ?_
  refine f_alen23 C (v := 6) zk_10 zb_10 rfl dX1_copyFrom_18 ?_
  refine z_icmp_ge C 52 dX1_copyFrom_19 (by decide) (fun hbr => absurd hbr (by decide)) (fun _ => ?_)
  refine z_iload_n C dX1_copyFrom_22 0 rfl rfl ?_
  refine z_aload_n C dX1_copyFrom_23 2 rfl rfl ?_
  refine f_get1 C 1 (v := .ref (B.1 + 86)) (by decide) tw_169 rfl zk_84 zb_84 rfl dX1_copyFrom_24 ?_
  refine f_alen23 C (v := 6) zk_86 zb_86 rfl dX1_copyFrom_27 ?_
  refine z_icmp_ge C 52 dX1_copyFrom_28 (by decide) (fun hbr => absurd hbr (by decide)) (fun _ => ?_)
  refine z_aload_n C dX1_copyFrom_31 1 rfl rfl ?_
  refine f_get1 C 1 (v := .ref (B.1 + 10)) (by decide) tw_169 rfl zk_8 zb_8 rfl dX1_copyFrom_32 ?_
  refine z_iload_n C dX1_copyFrom_35 0 rfl rfl ?_
  refine f_aaldL23 C zk_10 zb_10 (by unfold vp_in; decide) (r := 15) (by decide) dX1_copyFrom_36 ?_
  refine z_aload_n C dX1_copyFrom_37 2 rfl rfl ?_
  refine f_get1 C 1 (v := .ref (B.1 + 86)) (by decide) tw_169 rfl zk_84 zb_84 rfl dX1_copyFrom_38 ?_
  refine z_iload_n C dX1_copyFrom_41 0 rfl rfl ?_
  refine f_aaldL23 C zk_86 zb_86 (by unfold vp_in; decide) (r := 91) (by decide) dX1_copyFrom_42 ?_
  refine f_callVv C hl (As := [.ref (B.1 + 91)]) (rest := []) (c_X0_copyFrom l B (zcp (zcp (zcp (zcp (zcp s 9 85 6) 11 87 4) 12 88 4) 13 89 4) 14 90 4) t 15 91 zk_15 zb_15 zk_91 zb_91) zb_15 (zg_0 zk_15) rfl (zCB (nA := 1) C rfl rfl tw_449 tw_10 tw_446 (by decide +kernel) ⟨Nat.le_of_ble_eq_true rfl, Nat.le_of_ble_eq_true rfl⟩) tw_447 tw_448 rfl rfl (Nat.le_of_ble_eq_true rfl) dX1_copyFrom_43 (Nat.zero_le _) ?_
  refine z_iinc C [(2, .int 5), (0, .ref (B.1 + 8)), (1, .ref (B.1 + 84))] dX1_copyFrom_46 0 rfl (by decide) (by decide) rfl ?_
  refine z_goto C 13 dX1_copyFrom_49 (by decide) ?_
  refine z_iload_n C dX1_copyFrom_13 0 rfl rfl ?_
  refine z_aload_n C dX1_copyFrom_14 1 rfl rfl ?_
  refine f_get1 C 1 (v := .ref (B.1 + 10)) (by decide) tw_169 rfl zk_8 zb_8 rfl dX1_copyFrom_15 ?_
  refine f_alen23 C (v := 6) zk_10 zb_10 rfl dX1_copyFrom_18 ?_
  refine z_icmp_ge C 52 dX1_copyFrom_19 (by decide) (fun hbr => absurd hbr (by decide)) (fun _ => ?_)
  refine z_iload_n C dX1_copyFrom_22 0 rfl rfl ?_
  refine z_aload_n C dX1_copyFrom_23 2 rfl rfl ?_
  refine f_get1 C 1 (v := .ref (B.1 + 86)) (by decide) tw_169 rfl zk_84 zb_84 rfl dX1_copyFrom_24 ?_
  refine f_alen23 C (v := 6) zk_86 zb_86 rfl dX1_copyFrom_27 ?_
  refine z_icmp_ge C 52 dX1_copyFrom_28 (by decide) (fun hbr => absurd hbr (by decide)) (fun _ => ?_)
  refine z_aload_n C dX1_copyFrom_31 1 rfl rfl ?_
  refine f_get1 C 1 (v := .ref (B.1 + 10)) (by decide) tw_169 rfl zk_8 zb_8 rfl dX1_copyFrom_32 ?_
  refine z_iload_n C dX1_copyFrom_35 0 rfl rfl ?_
  refine f_aaldL23 C zk_10 zb_10 (by unfold vp_in; decide) (r := 16) (by decide) dX1_copyFrom_36 ?_
  refine z_aload_n C dX1_copyFrom_37 2 rfl rfl ?_
  refine f_get1 C 1 (v := .ref (B.1 + 86)) (by decide) tw_169 rfl zk_84 zb_84 rfl dX1_copyFrom_38 ?_
  refine z_iload_n C dX1_copyFrom_41 0 rfl rfl ?_
  refine f_aaldL23 C zk_86 zb_86 (by unfold vp_in; decide) (r := 92) (by decide) dX1_copyFrom_42 ?_
  refine f_callVv C hl (As := [.ref (B.1 + 92)]) (rest := []) (c_X0_copyFrom l B (zcp (zcp (zcp (zcp (zcp (zcp s 9 85 6) 11 87 4) 12 88 4) 13 89 4) 14 90 4) 15 91 4) t 16 92 zk_16 zb_16 zk_92 zb_92) zb_16 (zg_0 zk_16) rfl (zCB (nA := 1) C rfl rfl tw_449 tw_10 tw_446 (by decide +kernel) ⟨Nat.le_of_ble_eq_true rfl, Nat.le_of_ble_eq_true rfl⟩) tw_447 tw_448 rfl rfl (Nat.le_of_ble_eq_true rfl) dX1_copyFrom_43 (Nat.zero_le _) ?_
  refine z_iinc C [(2, .int 6), (0, .ref (B.1 + 8)), (1, .ref (B.1 + 84))] dX1_copyFrom_46 0 rfl (by decide) (by decide) rfl ?_
  refine z_goto C 13 dX1_copyFrom_49 (by decide) ?_
  refine z_iload_n C dX1_copyFrom_13 0 rfl rfl ?_
  refine z_aload_n C dX1_copyFrom_14 1 rfl rfl ?_
  refine f_get1 C 1 (v := .ref (B.1 + 10)) (by decide) tw_169 rfl zk_8 zb_8 rfl dX1_copyFrom_15 ?_
  refine f_alen23 C (v := 6) zk_10 zb_10 rfl dX1_copyFrom_18 ?_
  refine z_icmp_ge C 52 dX1_copyFrom_19 (by decide) (fun _ => ?_) (fun hbr => absurd (by decide) hbr)
  refine z_iconst C dX1_copyFrom_52 ki_0 ?_
  refine z_istore_n C [(2, .int 0), (0, .ref (B.1 + 8)), (1, .ref (B.1 + 84))] dX1_copyFrom_53 rfl (by decide) rfl ?_
  refine z_iload_n C dX1_copyFrom_54 0 rfl rfl ?_
  refine z_aload_n C dX1_copyFrom_55 1 rfl rfl ?_
  refine f_get1 C 2 (v := .ref (B.1 + 17)) (by decide) tw_170 rfl zk_8 zb_8 rfl dX1_copyFrom_56 ?_
  refine f_alen25 C (v := 6) zk_17 zb_17 rfl dX1_copyFrom_59 ?_
  refine z_icmp_ge C 93 dX1_copyFrom_60 (by decide) (fun hbr => absurd hbr (by decide)) (fun _ => ?_)
  refine z_iload_n C dX1_copyFrom_63 0 rfl rfl ?_
  refine z_aload_n C dX1_copyFrom_64 2 rfl rfl ?_
  refine f_get1 C 2 (v := .ref (B.1 + 93)) (by decide) tw_170 rfl zk_84 zb_84 rfl dX1_copyFrom_65 ?_
  refine f_alen25 C (v := 6) zk_93 zb_93 rfl dX1_copyFrom_68 ?_
  refine z_icmp_ge C 93 dX1_copyFrom_69 (by decide) (fun hbr => absurd hbr (by decide)) (fun _ => ?_)
  refine z_aload_n C dX1_copyFrom_72 1 rfl rfl ?_
  refine f_get1 C 2 (v := .ref (B.1 + 17)) (by decide) tw_170 rfl zk_8 zb_8 rfl dX1_copyFrom_73 ?_
  refine z_iload_n C dX1_copyFrom_76 0 rfl rfl ?_
  refine f_aaldL25 C zk_17 zb_17 (by unfold vp_in; decide) (r := 18) (by decide) dX1_copyFrom_77 ?_
  refine z_aload_n C dX1_copyFrom_78 2 rfl rfl ?_
  refine f_get1 C 2 (v := .ref (B.1 + 93)) (by decide) tw_170 rfl zk_84 zb_84 rfl dX1_copyFrom_79 ?_
  refine z_iload_n C dX1_copyFrom_82 0 rfl rfl ?_
  refine f_aaldL25 C zk_93 zb_93 (by unfold vp_in; decide) (r := 94) (by decide) dX1_copyFrom_83 ?_
  refine f_callVv C hl (As := [.ref (B.1 + 94)]) (rest := []) (c_X4_copyFrom l B (zcp (zcp (zcp (zcp (zcp (zcp (zcp s 9 85 6) 11 87 4) 12 88 4) 13 89 4) 14 90 4) 15 91 4) 16 92 4) t 18 94 zk_18 zb_18 zk_94 zb_94) zb_18 (zg_4 zk_18) rfl (zCB (nA := 1) C rfl rfl tw_453 tw_11 tw_450 (by decide +kernel) ⟨Nat.le_of_ble_eq_true rfl, Nat.le_of_ble_eq_true rfl⟩) tw_451 tw_452 rfl rfl (Nat.le_of_ble_eq_true rfl) dX1_copyFrom_84 (Nat.zero_le _) ?_
  refine z_iinc C [(2, .int 1), (0, .ref (B.1 + 8)), (1, .ref (B.1 + 84))] dX1_copyFrom_87 0 rfl (by decide) (by decide) rfl ?_
  refine z_goto C 54 dX1_copyFrom_90 (by decide) ?_
  refine z_iload_n C dX1_copyFrom_54 0 rfl rfl ?_
  refine z_aload_n C dX1_copyFrom_55 1 rfl rfl ?_
  refine f_get1 C 2 (v := .ref (B.1 + 17)) (by decide) tw_170 rfl zk_8 zb_8 rfl dX1_copyFrom_56 ?_
  refine f_alen25 C (v := 6) zk_17 zb_17 rfl dX1_copyFrom_59 ?_
  refine z_icmp_ge C 93 dX1_copyFrom_60 (by decide) (fun hbr => absurd hbr (by decide)) (fun _ => ?_)
  refine z_iload_n C dX1_copyFrom_63 0 rfl rfl ?_
  refine z_aload_n C dX1_copyFrom_64 2 rfl rfl ?_
  refine f_get1 C 2 (v := .ref (B.1 + 93)) (by decide) tw_170 rfl zk_84 zb_84 rfl dX1_copyFrom_65 ?_
  refine f_alen25 C (v := 6) zk_93 zb_93 rfl dX1_copyFrom_68 ?_
  refine z_icmp_ge C 93 dX1_copyFrom_69 (by decide) (fun hbr => absurd hbr (by decide)) (fun _ => ?_)
  refine z_aload_n C dX1_copyFrom_72 1 rfl rfl ?_
  refine f_get1 C 2 (v := .ref (B.1 + 17)) (by decide) tw_170 rfl zk_8 zb_8 rfl dX1_copyFrom_73 ?_
  refine z_iload_n C dX1_copyFrom_76 0 rfl rfl ?_
  refine f_aaldL25 C zk_17 zb_17 (by unfold vp_in; decide) (r := 19) (by decide) dX1_copyFrom_77 ?_
  refine z_aload_n C dX1_copyFrom_78 2 rfl rfl ?_
  refine f_get1 C 2 (v := .ref (B.1 + 93)) (by decide) tw_170 rfl zk_84 zb_84 rfl dX1_copyFrom_79 ?_
  refine z_iload_n C dX1_copyFrom_82 0 rfl rfl ?_
  refine f_aaldL25 C zk_93 zb_93 (by unfold vp_in; decide) (r := 95) (by decide) dX1_copyFrom_83 ?_
  refine f_callVv C hl (As := [.ref (B.1 + 95)]) (rest := []) (c_X4_copyFrom l B (zcp (zcp (zcp (zcp (zcp (zcp (zcp (zcp s 9 85 6) 11 87 4) 12 88 4) 13 89 4) 14 90 4) 15 91 4) 16 92 4) 18 94 4) t 19 95 zk_19 zb_19 zk_95 zb_95) zb_19 (zg_4 zk_19) rfl (zCB (nA := 1) C rfl rfl tw_453 tw_11 tw_450 (by decide +kernel) ⟨Nat.le_of_ble_eq_true rfl, Nat.le_of_ble_eq_true rfl⟩) tw_451 tw_452 rfl rfl (Nat.le_of_ble_eq_true rfl) dX1_copyFrom_84 (Nat.zero_le _) ?_
  refine z_iinc C [(2, .int 2), (0, .ref (B.1 + 8)), (1, .ref (B.1 + 84))] dX1_copyFrom_87 0 rfl (by decide) (by decide) rfl ?_
  refine z_goto C 54 dX1_copyFrom_90 (by decide) ?_
  refine z_iload_n C dX1_copyFrom_54 0 rfl rfl ?_
  refine z_aload_n C dX1_copyFrom_55 1 rfl rfl ?_
  refine f_get1 C 2 (v := .ref (B.1 + 17)) (by decide) tw_170 rfl zk_8 zb_8 rfl dX1_copyFrom_56 ?_
  refine f_alen25 C (v := 6) zk_17 zb_17 rfl dX1_copyFrom_59 ?_
  refine z_icmp_ge C 93 dX1_copyFrom_60 (by decide) (fun hbr => absurd hbr (by decide)) (fun _ => ?_)
  refine z_iload_n C dX1_copyFrom_63 0 rfl rfl ?_
  refine z_aload_n C dX1_copyFrom_64 2 rfl rfl ?_
  refine f_get1 C 2 (v := .ref (B.1 + 93)) (by decide) tw_170 rfl zk_84 zb_84 rfl dX1_copyFrom_65 ?_
  refine f_alen25 C (v := 6) zk_93 zb_93 rfl dX1_copyFrom_68 ?_
  refine z_icmp_ge C 93 dX1_copyFrom_69 (by decide) (fun hbr => absurd hbr (by decide)) (fun _ => ?_)
  refine z_aload_n C dX1_copyFrom_72 1 rfl rfl ?_
  refine f_get1 C 2 (v := .ref (B.1 + 17)) (by decide) tw_170 rfl zk_8 zb_8 rfl dX1_copyFrom_73 ?_
  refine z_iload_n C dX1_copyFrom_76 0 rfl rfl ?_
  refine f_aaldL25 C zk_17 zb_17 (by unfold vp_in; decide) (r := 20) (by decide) dX1_copyFrom_77 ?_
  refine z_aload_n C dX1_copyFrom_78 2 rfl rfl ?_
  refine f_get1 C 2 (v := .ref (B.1 + 93)) (by decide) tw_170 rfl zk_84 zb_84 rfl dX1_copyFrom_79 ?_
  refine z_iload_n C dX1_copyFrom_82 0 rfl rfl ?_
  refine f_aaldL25 C zk_93 zb_93 (by unfold vp_in; decide) (r := 96) (by decide) dX1_copyFrom_83 ?_
  refine f_callVv C hl (As := [.ref (B.1 + 96)]) (rest := []) (c_X4_copyFrom l B (zcp (zcp (zcp (zcp (zcp (zcp (zcp (zcp (zcp s 9 85 6) 11 87 4) 12 88 4) 13 89 4) 14 90 4) 15 91 4) 16 92 4) 18 94 4) 19 95 4) t 20 96 zk_20 zb_20 zk_96 zb_96) zb_20 (zg_4 zk_20) rfl (zCB (nA := 1) C rfl rfl tw_453 tw_11 tw_450 (by decide +kernel) ⟨Nat.le_of_ble_eq_true rfl, Nat.le_of_ble_eq_true rfl⟩) tw_451 tw_452 rfl rfl (Nat.le_of_ble_eq_true rfl) dX1_copyFrom_84 (Nat.zero_le _) ?_
  refine z_iinc C [(2, .int 3), (0, .ref (B.1 + 8)), (1, .ref (B.1 + 84))] dX1_copyFrom_87 0 rfl (by decide) (by decide) rfl ?_
  refine z_goto C 54 dX1_copyFrom_90 (by decide) ?_
  refine z_iload_n C dX1_copyFrom_54 0 rfl rfl ?_
  refine z_aload_n C dX1_copyFrom_55 1 rfl rfl ?_
  refine f_get1 C 2 (v := .ref (B.1 + 17)) (by decide) tw_170 rfl zk_8 zb_8 rfl dX1_copyFrom_56 ?_
  refine f_alen25 C (v := 6) zk_17 zb_17 rfl dX1_copyFrom_59 ?_
  refine z_icmp_ge C 93 dX1_copyFrom_60 (by decide) (fun hbr => absurd hbr (by decide)) (fun _ => ?_)
  refine z_iload_n C dX1_copyFrom_63 0 rfl rfl ?_
  refine z_aload_n C dX1_copyFrom_64 2 rfl rfl ?_
  refine f_get1 C 2 (v := .ref (B.1 + 93)) (by decide) tw_170 rfl zk_84 zb_84 rfl dX1_copyFrom_65 ?_
  refine f_alen25 C (v := 6) zk_93 zb_93 rfl dX1_copyFrom_68 ?_
  refine z_icmp_ge C 93 dX1_copyFrom_69 (by decide) (fun hbr => absurd hbr (by decide)) (fun _ => ?_)
  refine z_aload_n C dX1_copyFrom_72 1 rfl rfl ?_
  refine f_get1 C 2 (v := .ref (B.1 + 17)) (by decide) tw_170 rfl zk_8 zb_8 rfl dX1_copyFrom_73 ?_
  refine z_iload_n C dX1_copyFrom_76 0 rfl rfl ?_
  refine f_aaldL25 C zk_17 zb_17 (by unfold vp_in; decide) (r := 21) (by decide) dX1_copyFrom_77 ?_
  refine z_aload_n C dX1_copyFrom_78 2 rfl rfl ?_
  refine f_get1 C 2 (v := .ref (B.1 + 93)) (by decide) tw_170 rfl zk_84 zb_84 rfl dX1_copyFrom_79 ?_
  refine z_iload_n C dX1_copyFrom_82 0 rfl rfl ?_
  refine f_aaldL25 C zk_93 zb_93 (by unfold vp_in; decide) (r := 97) (by decide) dX1_copyFrom_83 ?_
  refine f_callVv C hl (As := [.ref (B.1 + 97)]) (rest := []) (c_X4_copyFrom l B (zcp (zcp (zcp (zcp (zcp (zcp (zcp (zcp (zcp (zcp s 9 85 6) 11 87 4) 12 88 4) 13 89 4) 14 90 4) 15 91 4) 16 92 4) 18 94 4) 19 95 4) 20 96 4) t 21 97 zk_21 zb_21 zk_97 zb_97) zb_21 (zg_4 zk_21) rfl (zCB (nA := 1) C rfl rfl tw_453 tw_11 tw_450 (by decide +kernel) ⟨Nat.le_of_ble_eq_true rfl, Nat.le_of_ble_eq_true rfl⟩) tw_451 tw_452 rfl rfl (Nat.le_of_ble_eq_true rfl) dX1_copyFrom_84 (Nat.zero_le _) ?_
  refine z_iinc C [(2, .int 4), (0, .ref (B.1 + 8)), (1, .ref (B.1 + 84))] dX1_copyFrom_87 0 rfl (by decide) (by decide) rfl ?_
  refine z_goto C 54 dX1_copyFrom_90 (by decide) ?_
  refine z_iload_n C dX1_copyFrom_54 0 rfl rfl ?_
  refine z_aload_n C dX1_copyFrom_55 1 rfl rfl ?_
  refine f_get1 C 2 (v := .ref (B.1 + 17)) (by decide) tw_170 rfl zk_8 zb_8 rfl dX1_copyFrom_56 ?_
  refine f_alen25 C (v := 6) zk_17 zb_17 rfl dX1_copyFrom_59 ?_
  refine z_icmp_ge C 93 dX1_copyFrom_60 (by decide) (fun hbr => absurd hbr (by decide)) (fun _ => ?_)
  refine z_iload_n C dX1_copyFrom_63 0 rfl rfl ?_
  refine z_aload_n C dX1_copyFrom_64 2 rfl rfl ?_
  refine f_get1 C 2 (v := .ref (B.1 + 93)) (by decide) tw_170 rfl zk_84 zb_84 rfl dX1_copyFrom_65 ?_
  refine f_alen25 C (v := 6) zk_93 zb_93 rfl dX1_copyFrom_68 ?_
  refine z_icmp_ge C 93 dX1_copyFrom_69 (by decide) (fun hbr => absurd hbr (by decide)) (fun _ => ?_)
  refine z_aload_n C dX1_copyFrom_72 1 rfl rfl ?_
  refine f_get1 C 2 (v := .ref (B.1 + 17)) (by decide) tw_170 rfl zk_8 zb_8 rfl dX1_copyFrom_73 ?_
  refine z_iload_n C dX1_copyFrom_76 0 rfl rfl ?_
  refine f_aaldL25 C zk_17 zb_17 (by unfold vp_in; decide) (r := 22) (by decide) dX1_copyFrom_77 ?_
  refine z_aload_n C dX1_copyFrom_78 2 rfl rfl ?_
  refine f_get1 C 2 (v := .ref (B.1 + 93)) (by decide) tw_170 rfl zk_84 zb_84 rfl dX1_copyFrom_79 ?_
  refine z_iload_n C dX1_copyFrom_82 0 rfl rfl ?_
  refine f_aaldL25 C zk_93 zb_93 (by unfold vp_in; decide) (r := 98) (by decide) dX1_copyFrom_83 ?_
  refine f_callVv C hl (As := [.ref (B.1 + 98)]) (rest := []) (c_X4_copyFrom l B (zcp (zcp (zcp (zcp (zcp (zcp (zcp (zcp (zcp (zcp (zcp s 9 85 6) 11 87 4) 12 88 4) 13 89 4) 14 90 4) 15 91 4) 16 92 4) 18 94 4) 19 95 4) 20 96 4) 21 97 4) t 22 98 zk_22 zb_22 zk_98 zb_98) zb_22 (zg_4 zk_22) rfl (zCB (nA := 1) C rfl rfl tw_453 tw_11 tw_450 (by decide +kernel) ⟨Nat.le_of_ble_eq_true rfl, Nat.le_of_ble_eq_true rfl⟩) tw_451 tw_452 rfl rfl (Nat.le_of_ble_eq_true rfl) dX1_copyFrom_84 (Nat.zero_le _) ?_
  refine z_iinc C [(2, .int 5), (0, .ref (B.1 + 8)), (1, .ref (B.1 + 84))] dX1_copyFrom_87 0 rfl (by decide) (by decide) rfl ?_
  refine z_goto C 54 dX1_copyFrom_90 (by decide) ?_
  refine z_iload_n C dX1_copyFrom_54 0 rfl rfl ?_
  refine z_aload_n C dX1_copyFrom_55 1 rfl rfl ?_
  refine f_get1 C 2 (v := .ref (B.1 + 17)) (by decide) tw_170 rfl zk_8 zb_8 rfl dX1_copyFrom_56 ?_
  refine f_alen25 C (v := 6) zk_17 zb_17 rfl dX1_copyFrom_59 ?_
  refine z_icmp_ge C 93 dX1_copyFrom_60 (by decide) (fun hbr => absurd hbr (by decide)) (fun _ => ?_)
  refine z_iload_n C dX1_copyFrom_63 0 rfl rfl ?_
  refine z_aload_n C dX1_copyFrom_64 2 rfl rfl ?_
  refine f_get1 C 2 (v := .ref (B.1 + 93)) (by decide) tw_170 rfl zk_84 zb_84 rfl dX1_copyFrom_65 ?_
  refine f_alen25 C (v := 6) zk_93 zb_93 rfl dX1_copyFrom_68 ?_
  refine z_icmp_ge C 93 dX1_copyFrom_69 (by decide) (fun hbr => absurd hbr (by decide)) (fun _ => ?_)
  refine z_aload_n C dX1_copyFrom_72 1 rfl rfl ?_
  refine f_get1 C 2 (v := .ref (B.1 + 17)) (by decide) tw_170 rfl zk_8 zb_8 rfl dX1_copyFrom_73 ?_
  refine z_iload_n C dX1_copyFrom_76 0 rfl rfl ?_
  refine f_aaldL25 C zk_17 zb_17 (by unfold vp_in; decide) (r := 23) (by decide) dX1_copyFrom_77 ?_
  refine z_aload_n C dX1_copyFrom_78 2 rfl rfl ?_
  refine f_get1 C 2 (v := .ref (B.1 + 93)) (by decide) tw_170 rfl zk_84 zb_84 rfl dX1_copyFrom_79 ?_
  refine z_iload_n C dX1_copyFrom_82 0 rfl rfl ?_
  refine f_aaldL25 C zk_93 zb_93 (by unfold vp_in; decide) (r := 99) (by decide) dX1_copyFrom_83 ?_
  refine f_callVv C hl (As := [.ref (B.1 + 99)]) (rest := []) (c_X4_copyFrom l B (zcp (zcp (zcp (zcp (zcp (zcp (zcp (zcp (zcp (zcp (zcp (zcp s 9 85 6) 11 87 4) 12 88 4) 13 89 4) 14 90 4) 15 91 4) 16 92 4) 18 94 4) 19 95 4) 20 96 4) 21 97 4) 22 98 4) t 23 99 zk_23 zb_23 zk_99 zb_99) zb_23 (zg_4 zk_23) rfl (zCB (nA := 1) C rfl rfl tw_453 tw_11 tw_450 (by decide +kernel) ⟨Nat.le_of_ble_eq_true rfl, Nat.le_of_ble_eq_true rfl⟩) tw_451 tw_452 rfl rfl (Nat.le_of_ble_eq_true rfl) dX1_copyFrom_84 (Nat.zero_le _) ?_
  refine z_iinc C [(2, .int 6), (0, .ref (B.1 + 8)), (1, .ref (B.1 + 84))] dX1_copyFrom_87 0 rfl (by decide) (by decide) rfl ?_
  refine z_goto C 54 dX1_copyFrom_90 (by decide) ?_
  refine z_iload_n C dX1_copyFrom_54 0 rfl rfl ?_
  refine z_aload_n C dX1_copyFrom_55 1 rfl rfl ?_
  refine f_get1 C 2 (v := .ref (B.1 + 17)) (by decide) tw_170 rfl zk_8 zb_8 rfl dX1_copyFrom_56 ?_
  refine f_alen25 C (v := 6) zk_17 zb_17 rfl dX1_copyFrom_59 ?_
  refine z_icmp_ge C 93 dX1_copyFrom_60 (by decide) (fun _ => ?_) (fun hbr => absurd (by decide) hbr)
  refine z_iconst C dX1_copyFrom_93 ki_0 ?_
  refine z_istore_n C [(2, .int 0), (0, .ref (B.1 + 8)), (1, .ref (B.1 + 84))] dX1_copyFrom_94 rfl (by decide) rfl ?_
  refine z_iload_n C dX1_copyFrom_95 0 rfl rfl ?_
  refine z_aload_n C dX1_copyFrom_96 1 rfl rfl ?_
  refine f_get1 C 3 (v := .ref (B.1 + 24)) (by decide) tw_171 rfl zk_8 zb_8 rfl dX1_copyFrom_97 ?_
  refine f_alen27 C (v := 8) zk_24 zb_24 rfl dX1_copyFrom_100 ?_
  refine z_icmp_ge C 134 dX1_copyFrom_101 (by decide) (fun hbr => absurd hbr (by decide)) (fun _ => ?_)
  refine z_iload_n C dX1_copyFrom_104 0 rfl rfl ?_
  refine z_aload_n C dX1_copyFrom_105 2 rfl rfl ?_
  refine f_get1 C 3 (v := .ref (B.1 + 100)) (by decide) tw_171 rfl zk_84 zb_84 rfl dX1_copyFrom_106 ?_
  refine f_alen27 C (v := 8) zk_100 zb_100 rfl dX1_copyFrom_109 ?_
  refine z_icmp_ge C 134 dX1_copyFrom_110 (by decide) (fun hbr => absurd hbr (by decide)) (fun _ => ?_)
  refine z_aload_n C dX1_copyFrom_113 1 rfl rfl ?_
  refine f_get1 C 3 (v := .ref (B.1 + 24)) (by decide) tw_171 rfl zk_8 zb_8 rfl dX1_copyFrom_114 ?_
  refine z_iload_n C dX1_copyFrom_117 0 rfl rfl ?_
  refine f_aaldL27 C zk_24 zb_24 (by unfold vp_in; decide) (r := 25) (by decide) dX1_copyFrom_118 ?_
  refine z_aload_n C dX1_copyFrom_119 2 rfl rfl ?_
  refine f_get1 C 3 (v := .ref (B.1 + 100)) (by decide) tw_171 rfl zk_84 zb_84 rfl dX1_copyFrom_120 ?_
  refine z_iload_n C dX1_copyFrom_123 0 rfl rfl ?_
  refine f_aaldL27 C zk_100 zb_100 (by unfold vp_in; decide) (r := 101) (by decide) dX1_copyFrom_124 ?_
  refine f_callVv C hl (As := [.ref (B.1 + 101)]) (rest := []) (c_X8_copyFrom l B (zcp (zcp (zcp (zcp (zcp (zcp (zcp (zcp (zcp (zcp (zcp (zcp (zcp s 9 85 6) 11 87 4) 12 88 4) 13 89 4) 14 90 4) 15 91 4) 16 92 4) 18 94 4) 19 95 4) 20 96 4) 21 97 4) 22 98 4) 23 99 4) t 25 101 zk_25 zb_25 zk_101 zb_101) zb_25 (zg_8 zk_25) rfl (zCB (nA := 1) C rfl rfl tw_445 tw_9 tw_442 (by decide +kernel) ⟨Nat.le_of_ble_eq_true rfl, Nat.le_of_ble_eq_true rfl⟩) tw_443 tw_444 rfl rfl (Nat.le_of_ble_eq_true rfl) dX1_copyFrom_125 (Nat.zero_le _) ?_
  refine z_iinc C [(2, .int 1), (0, .ref (B.1 + 8)), (1, .ref (B.1 + 84))] dX1_copyFrom_128 0 rfl (by decide) (by decide) rfl ?_
  refine z_goto C 95 dX1_copyFrom_131 (by decide) ?_
  refine z_iload_n C dX1_copyFrom_95 0 rfl rfl ?_
  refine z_aload_n C dX1_copyFrom_96 1 rfl rfl ?_
  refine f_get1 C 3 (v := .ref (B.1 + 24)) (by decide) tw_171 rfl zk_8 zb_8 rfl dX1_copyFrom_97 ?_
  refine f_alen27 C (v := 8) zk_24 zb_24 rfl dX1_copyFrom_100 ?_
  refine z_icmp_ge C 134 dX1_copyFrom_101 (by decide) (fun hbr => absurd hbr (by decide)) (fun _ => ?_)
  refine z_iload_n C dX1_copyFrom_104 0 rfl rfl ?_
  refine z_aload_n C dX1_copyFrom_105 2 rfl rfl ?_
  refine f_get1 C 3 (v := .ref (B.1 + 100)) (by decide) tw_171 rfl zk_84 zb_84 rfl dX1_copyFrom_106 ?_
  refine f_alen27 C (v := 8) zk_100 zb_100 rfl dX1_copyFrom_109 ?_
  refine z_icmp_ge C 134 dX1_copyFrom_110 (by decide) (fun hbr => absurd hbr (by decide)) (fun _ => ?_)
  refine z_aload_n C dX1_copyFrom_113 1 rfl rfl ?_
  refine f_get1 C 3 (v := .ref (B.1 + 24)) (by decide) tw_171 rfl zk_8 zb_8 rfl dX1_copyFrom_114 ?_
  refine z_iload_n C dX1_copyFrom_117 0 rfl rfl ?_
  refine f_aaldL27 C zk_24 zb_24 (by unfold vp_in; decide) (r := 26) (by decide) dX1_copyFrom_118 ?_
  refine z_aload_n C dX1_copyFrom_119 2 rfl rfl ?_
  refine f_get1 C 3 (v := .ref (B.1 + 100)) (by decide) tw_171 rfl zk_84 zb_84 rfl dX1_copyFrom_120 ?_
  refine z_iload_n C dX1_copyFrom_123 0 rfl rfl ?_
  refine f_aaldL27 C zk_100 zb_100 (by unfold vp_in; decide) (r := 102) (by decide) dX1_copyFrom_124 ?_
  refine f_callVv C hl (As := [.ref (B.1 + 102)]) (rest := []) (c_X8_copyFrom l B (zcp (zcp (zcp (zcp (zcp (zcp (zcp (zcp (zcp (zcp (zcp (zcp (zcp (zcp s 9 85 6) 11 87 4) 12 88 4) 13 89 4) 14 90 4) 15 91 4) 16 92 4) 18 94 4) 19 95 4) 20 96 4) 21 97 4) 22 98 4) 23 99 4) 25 101 6) t 26 102 zk_26 zb_26 zk_102 zb_102) zb_26 (zg_8 zk_26) rfl (zCB (nA := 1) C rfl rfl tw_445 tw_9 tw_442 (by decide +kernel) ⟨Nat.le_of_ble_eq_true rfl, Nat.le_of_ble_eq_true rfl⟩) tw_443 tw_444 rfl rfl (Nat.le_of_ble_eq_true rfl) dX1_copyFrom_125 (Nat.zero_le _) ?_
  refine z_iinc C [(2, .int 2), (0, .ref (B.1 + 8)), (1, .ref (B.1 + 84))] dX1_copyFrom_128 0 rfl (by decide) (by decide) rfl ?_
  refine z_goto C 95 dX1_copyFrom_131 (by decide) ?_
  refine z_iload_n C dX1_copyFrom_95 0 rfl rfl ?_
  refine z_aload_n C dX1_copyFrom_96 1 rfl rfl ?_
  refine f_get1 C 3 (v := .ref (B.1 + 24)) (by decide) tw_171 rfl zk_8 zb_8 rfl dX1_copyFrom_97 ?_
  refine f_alen27 C (v := 8) zk_24 zb_24 rfl dX1_copyFrom_100 ?_
  refine z_icmp_ge C 134 dX1_copyFrom_101 (by decide) (fun hbr => absurd hbr (by decide)) (fun _ => ?_)
  refine z_iload_n C dX1_copyFrom_104 0 rfl rfl ?_
  refine z_aload_n C dX1_copyFrom_105 2 rfl rfl ?_
  refine f_get1 C 3 (v := .ref (B.1 + 100)) (by decide) tw_171 rfl zk_84 zb_84 rfl dX1_copyFrom_106 ?_
  refine f_alen27 C (v := 8) zk_100 zb_100 rfl dX1_copyFrom_109 ?_
  refine z_icmp_ge C 134 dX1_copyFrom_110 (by decide) (fun hbr => absurd hbr (by decide)) (fun _ => ?_)
  refine z_aload_n C dX1_copyFrom_113 1 rfl rfl ?_
  refine f_get1 C 3 (v := .ref (B.1 + 24)) (by decide) tw_171 rfl zk_8 zb_8 rfl dX1_copyFrom_114 ?_
  refine z_iload_n C dX1_copyFrom_117 0 rfl rfl ?_
  refine f_aaldL27 C zk_24 zb_24 (by unfold vp_in; decide) (r := 27) (by decide) dX1_copyFrom_118 ?_
  refine z_aload_n C dX1_copyFrom_119 2 rfl rfl ?_
  refine f_get1 C 3 (v := .ref (B.1 + 100)) (by decide) tw_171 rfl zk_84 zb_84 rfl dX1_copyFrom_120 ?_
  refine z_iload_n C dX1_copyFrom_123 0 rfl rfl ?_
  refine f_aaldL27 C zk_100 zb_100 (by unfold vp_in; decide) (r := 103) (by decide) dX1_copyFrom_124 ?_
  refine f_callVv C hl (As := [.ref (B.1 + 103)]) (rest := []) (c_X8_copyFrom l B (zcp (zcp (zcp (zcp (zcp (zcp (zcp (zcp (zcp (zcp (zcp (zcp (zcp (zcp (zcp s 9 85 6) 11 87 4) 12 88 4) 13 89 4) 14 90 4) 15 91 4) 16 92 4) 18 94 4) 19 95 4) 20 96 4) 21 97 4) 22 98 4) 23 99 4) 25 101 6) 26 102 6) t 27 103 zk_27 zb_27 zk_103 zb_103) zb_27 (zg_8 zk_27) rfl (zCB (nA := 1) C rfl rfl tw_445 tw_9 tw_442 (by decide +kernel) ⟨Nat.le_of_ble_eq_true rfl, Nat.le_of_ble_eq_true rfl⟩) tw_443 tw_444 rfl rfl (Nat.le_of_ble_eq_true rfl) dX1_copyFrom_125 (Nat.zero_le _) ?_
  refine z_iinc C [(2, .int 3), (0, .ref (B.1 + 8)), (1, .ref (B.1 + 84))] dX1_copyFrom_128 0 rfl (by decide) (by decide) rfl ?_
  refine z_goto C 95 dX1_copyFrom_131 (by decide) ?_
  refine z_iload_n C dX1_copyFrom_95 0 rfl rfl ?_
  refine z_aload_n C dX1_copyFrom_96 1 rfl rfl ?_
  refine f_get1 C 3 (v := .ref (B.1 + 24)) (by decide) tw_171 rfl zk_8 zb_8 rfl dX1_copyFrom_97 ?_
  refine f_alen27 C (v := 8) zk_24 zb_24 rfl dX1_copyFrom_100 ?_
  refine z_icmp_ge C 134 dX1_copyFrom_101 (by decide) (fun hbr => absurd hbr (by decide)) (fun _ => ?_)
  refine z_iload_n C dX1_copyFrom_104 0 rfl rfl ?_
  refine z_aload_n C dX1_copyFrom_105 2 rfl rfl ?_
  refine f_get1 C 3 (v := .ref (B.1 + 100)) (by decide) tw_171 rfl zk_84 zb_84 rfl dX1_copyFrom_106 ?_
  refine f_alen27 C (v := 8) zk_100 zb_100 rfl dX1_copyFrom_109 ?_
  refine z_icmp_ge C 134 dX1_copyFrom_110 (by decide) (fun hbr => absurd hbr (by decide)) (fun _ => ?_)
  refine z_aload_n C dX1_copyFrom_113 1 rfl rfl ?_
  refine f_get1 C 3 (v := .ref (B.1 + 24)) (by decide) tw_171 rfl zk_8 zb_8 rfl dX1_copyFrom_114 ?_
  refine z_iload_n C dX1_copyFrom_117 0 rfl rfl ?_
  refine f_aaldL27 C zk_24 zb_24 (by unfold vp_in; decide) (r := 28) (by decide) dX1_copyFrom_118 ?_
  refine z_aload_n C dX1_copyFrom_119 2 rfl rfl ?_
  refine f_get1 C 3 (v := .ref (B.1 + 100)) (by decide) tw_171 rfl zk_84 zb_84 rfl dX1_copyFrom_120 ?_
  refine z_iload_n C dX1_copyFrom_123 0 rfl rfl ?_
  refine f_aaldL27 C zk_100 zb_100 (by unfold vp_in; decide) (r := 104) (by decide) dX1_copyFrom_124 ?_
  refine f_callVv C hl (As := [.ref (B.1 + 104)]) (rest := []) (c_X8_copyFrom l B (zcp (zcp (zcp (zcp (zcp (zcp (zcp (zcp (zcp (zcp (zcp (zcp (zcp (zcp (zcp (zcp s 9 85 6) 11 87 4) 12 88 4) 13 89 4) 14 90 4) 15 91 4) 16 92 4) 18 94 4) 19 95 4) 20 96 4) 21 97 4) 22 98 4) 23 99 4) 25 101 6) 26 102 6) 27 103 6) t 28 104 zk_28 zb_28 zk_104 zb_104) zb_28 (zg_8 zk_28) rfl (zCB (nA := 1) C rfl rfl tw_445 tw_9 tw_442 (by decide +kernel) ⟨Nat.le_of_ble_eq_true rfl, Nat.le_of_ble_eq_true rfl⟩) tw_443 tw_444 rfl rfl (Nat.le_of_ble_eq_true rfl) dX1_copyFrom_125 (Nat.zero_le _) ?_
  refine z_iinc C [(2, .int 4), (0, .ref (B.1 + 8)), (1, .ref (B.1 + 84))] dX1_copyFrom_128 0 rfl (by decide) (by decide) rfl ?_
  refine z_goto C 95 dX1_copyFrom_131 (by decide) ?_
  refine z_iload_n C dX1_copyFrom_95 0 rfl rfl ?_
  refine z_aload_n C dX1_copyFrom_96 1 rfl rfl ?_
  refine f_get1 C 3 (v := .ref (B.1 + 24)) (by decide) tw_171 rfl zk_8 zb_8 rfl dX1_copyFrom_97 ?_
  refine f_alen27 C (v := 8) zk_24 zb_24 rfl dX1_copyFrom_100 ?_
  refine z_icmp_ge C 134 dX1_copyFrom_101 (by decide) (fun hbr => absurd hbr (by decide)) (fun _ => ?_)
  refine z_iload_n C dX1_copyFrom_104 0 rfl rfl ?_
  refine z_aload_n C dX1_copyFrom_105 2 rfl rfl ?_
  refine f_get1 C 3 (v := .ref (B.1 + 100)) (by decide) tw_171 rfl zk_84 zb_84 rfl dX1_copyFrom_106 ?_
  refine f_alen27 C (v := 8) zk_100 zb_100 rfl dX1_copyFrom_109 ?_
  refine z_icmp_ge C 134 dX1_copyFrom_110 (by decide) (fun hbr => absurd hbr (by decide)) (fun _ => ?_)
  refine z_aload_n C dX1_copyFrom_113 1 rfl rfl ?_
  refine f_get1 C 3 (v := .ref (B.1 + 24)) (by decide) tw_171 rfl zk_8 zb_8 rfl dX1_copyFrom_114 ?_
  refine z_iload_n C dX1_copyFrom_117 0 rfl rfl ?_
  refine f_aaldL27 C zk_24 zb_24 (by unfold vp_in; decide) (r := 29) (by decide) dX1_copyFrom_118 ?_
  refine z_aload_n C dX1_copyFrom_119 2 rfl rfl ?_
  refine f_get1 C 3 (v := .ref (B.1 + 100)) (by decide) tw_171 rfl zk_84 zb_84 rfl dX1_copyFrom_120 ?_
  refine z_iload_n C dX1_copyFrom_123 0 rfl rfl ?_
  refine f_aaldL27 C zk_100 zb_100 (by unfold vp_in; decide) (r := 105) (by decide) dX1_copyFrom_124 ?_
  refine f_callVv C hl (As := [.ref (B.1 + 105)]) (rest := []) (c_X8_copyFrom l B (zcp (zcp (zcp (zcp (zcp (zcp (zcp (zcp (zcp (zcp (zcp (zcp (zcp (zcp (zcp (zcp (zcp s 9 85 6) 11 87 4) 12 88 4) 13 89 4) 14 90 4) 15 91 4) 16 92 4) 18 94 4) 19 95 4) 20 96 4) 21 97 4) 22 98 4) 23 99 4) 25 101 6) 26 102 6) 27 103 6) 28 104 6) t 29 105 zk_29 zb_29 zk_105 zb_105) zb_29 (zg_8 zk_29) rfl (zCB (nA := 1) C rfl rfl tw_445 tw_9 tw_442 (by decide +kernel) ⟨Nat.le_of_ble_eq_true rfl, Nat.le_of_ble_eq_true rfl⟩) tw_443 tw_444 rfl rfl (Nat.le_of_ble_eq_true rfl) dX1_copyFrom_125 (Nat.zero_le _) ?_
  refine z_iinc C [(2, .int 5), (0, .ref (B.1 + 8)), (1, .ref (B.1 + 84))] dX1_copyFrom_128 0 rfl (by decide) (by decide) rfl ?_
  refine z_goto C 95 dX1_copyFrom_131 (by decide) ?_
  refine z_iload_n C dX1_copyFrom_95 0 rfl rfl ?_
  refine z_aload_n C dX1_copyFrom_96 1 rfl rfl ?_
  refine f_get1 C 3 (v := .ref (B.1 + 24)) (by decide) tw_171 rfl zk_8 zb_8 rfl dX1_copyFrom_97 ?_
  refine f_alen27 C (v := 8) zk_24 zb_24 rfl dX1_copyFrom_100 ?_
  refine z_icmp_ge C 134 dX1_copyFrom_101 (by decide) (fun hbr => absurd hbr (by decide)) (fun _ => ?_)
  refine z_iload_n C dX1_copyFrom_104 0 rfl rfl ?_
  refine z_aload_n C dX1_copyFrom_105 2 rfl rfl ?_
  refine f_get1 C 3 (v := .ref (B.1 + 100)) (by decide) tw_171 rfl zk_84 zb_84 rfl dX1_copyFrom_106 ?_
  refine f_alen27 C (v := 8) zk_100 zb_100 rfl dX1_copyFrom_109 ?_
  refine z_icmp_ge C 134 dX1_copyFrom_110 (by decide) (fun hbr => absurd hbr (by decide)) (fun _ => ?_)
  refine z_aload_n C dX1_copyFrom_113 1 rfl rfl ?_
  refine f_get1 C 3 (v := .ref (B.1 + 24)) (by decide) tw_171 rfl zk_8 zb_8 rfl dX1_copyFrom_114 ?_
  refine z_iload_n C dX1_copyFrom_117 0 rfl rfl ?_
  refine f_aaldL27 C zk_24 zb_24 (by unfold vp_in; decide) (r := 30) (by decide) dX1_copyFrom_118 ?_
  refine z_aload_n C dX1_copyFrom_119 2 rfl rfl ?_
  refine f_get1 C 3 (v := .ref (B.1 + 100)) (by decide) tw_171 rfl zk_84 zb_84 rfl dX1_copyFrom_120 ?_
  refine z_iload_n C dX1_copyFrom_123 0 rfl rfl ?_
  refine f_aaldL27 C zk_100 zb_100 (by unfold vp_in; decide) (r := 106) (by decide) dX1_copyFrom_124 ?_
  refine f_callVv C hl (As := [.ref (B.1 + 106)]) (rest := []) (c_X8_copyFrom l B (zcp (zcp (zcp (zcp (zcp (zcp (zcp (zcp (zcp (zcp (zcp (zcp (zcp (zcp (zcp (zcp (zcp (zcp s 9 85 6) 11 87 4) 12 88 4) 13 89 4) 14 90 4) 15 91 4) 16 92 4) 18 94 4) 19 95 4) 20 96 4) 21 97 4) 22 98 4) 23 99 4) 25 101 6) 26 102 6) 27 103 6) 28 104 6) 29 105 6) t 30 106 zk_30 zb_30 zk_106 zb_106) zb_30 (zg_8 zk_30) rfl (zCB (nA := 1) C rfl rfl tw_445 tw_9 tw_442 (by decide +kernel) ⟨Nat.le_of_ble_eq_true rfl, Nat.le_of_ble_eq_true rfl⟩) tw_443 tw_444 rfl rfl (Nat.le_of_ble_eq_true rfl) dX1_copyFrom_125 (Nat.zero_le _) ?_
  refine z_iinc C [(2, .int 6), (0, .ref (B.1 + 8)), (1, .ref (B.1 + 84))] dX1_copyFrom_128 0 rfl (by decide) (by decide) rfl ?_
  refine z_goto C 95 dX1_copyFrom_131 (by decide) ?_
  refine z_iload_n C dX1_copyFrom_95 0 rfl rfl ?_
  refine z_aload_n C dX1_copyFrom_96 1 rfl rfl ?_
  refine f_get1 C 3 (v := .ref (B.1 + 24)) (by decide) tw_171 rfl zk_8 zb_8 rfl dX1_copyFrom_97 ?_
  refine f_alen27 C (v := 8) zk_24 zb_24 rfl dX1_copyFrom_100 ?_
  refine z_icmp_ge C 134 dX1_copyFrom_101 (by decide) (fun hbr => absurd hbr (by decide)) (fun _ => ?_)
  refine z_iload_n C dX1_copyFrom_104 0 rfl rfl ?_
  refine z_aload_n C dX1_copyFrom_105 2 rfl rfl ?_
  refine f_get1 C 3 (v := .ref (B.1 + 100)) (by decide) tw_171 rfl zk_84 zb_84 rfl dX1_copyFrom_106 ?_
  refine f_alen27 C (v := 8) zk_100 zb_100 rfl dX1_copyFrom_109 ?_
  refine z_icmp_ge C 134 dX1_copyFrom_110 (by decide) (fun hbr => absurd hbr (by decide)) (fun _ => ?_)
  refine z_aload_n C dX1_copyFrom_113 1 rfl rfl ?_
  refine f_get1 C 3 (v := .ref (B.1 + 24)) (by decide) tw_171 rfl zk_8 zb_8 rfl dX1_copyFrom_114 ?_
  refine z_iload_n C dX1_copyFrom_117 0 rfl rfl ?_
  refine f_aaldL27 C zk_24 zb_24 (by unfold vp_in; decide) (r := 31) (by decide) dX1_copyFrom_118 ?_
  refine z_aload_n C dX1_copyFrom_119 2 rfl rfl ?_
  refine f_get1 C 3 (v := .ref (B.1 + 100)) (by decide) tw_171 rfl zk_84 zb_84 rfl dX1_copyFrom_120 ?_
  refine z_iload_n C dX1_copyFrom_123 0 rfl rfl ?_
  refine f_aaldL27 C zk_100 zb_100 (by unfold vp_in; decide) (r := 107) (by decide) dX1_copyFrom_124 ?_
  refine f_callVv C hl (As := [.ref (B.1 + 107)]) (rest := []) (c_X8_copyFrom l B (zcp (zcp (zcp (zcp (zcp (zcp (zcp (zcp (zcp (zcp (zcp (zcp (zcp (zcp (zcp (zcp (zcp (zcp (zcp s 9 85 6) 11 87 4) 12 88 4) 13 89 4) 14 90 4) 15 91 4) 16 92 4) 18 94 4) 19 95 4) 20 96 4) 21 97 4) 22 98 4) 23 99 4) 25 101 6) 26 102 6) 27 103 6) 28 104 6) 29 105 6) 30 106 6) t 31 107 zk_31 zb_31 zk_107 zb_107) zb_31 (zg_8 zk_31) rfl (zCB (nA := 1) C rfl rfl tw_445 tw_9 tw_442 (by decide +kernel) ⟨Nat.le_of_ble_eq_true rfl, Nat.le_of_ble_eq_true rfl⟩) tw_443 tw_444 rfl rfl (Nat.le_of_ble_eq_true rfl) dX1_copyFrom_125 (Nat.zero_le _) ?_
  refine z_iinc C [(2, .int 7), (0, .ref (B.1 + 8)), (1, .ref (B.1 + 84))] dX1_copyFrom_128 0 rfl (by decide) (by decide) rfl ?_
  refine z_goto C 95 dX1_copyFrom_131 (by decide) ?_
  refine z_iload_n C dX1_copyFrom_95 0 rfl rfl ?_
  refine z_aload_n C dX1_copyFrom_96 1 rfl rfl ?_
  refine f_get1 C 3 (v := .ref (B.1 + 24)) (by decide) tw_171 rfl zk_8 zb_8 rfl dX1_copyFrom_97 ?_
  refine f_alen27 C (v := 8) zk_24 zb_24 rfl dX1_copyFrom_100 ?_
  refine z_icmp_ge C 134 dX1_copyFrom_101 (by decide) (fun hbr => absurd hbr (by decide)) (fun _ => ?_)
  refine z_iload_n C dX1_copyFrom_104 0 rfl rfl ?_
  refine z_aload_n C dX1_copyFrom_105 2 rfl rfl ?_
  refine f_get1 C 3 (v := .ref (B.1 + 100)) (by decide) tw_171 rfl zk_84 zb_84 rfl dX1_copyFrom_106 ?_
  refine f_alen27 C (v := 8) zk_100 zb_100 rfl dX1_copyFrom_109 ?_
  refine z_icmp_ge C 134 dX1_copyFrom_110 (by decide) (fun hbr => absurd hbr (by decide)) (fun _ => ?_)
  refine z_aload_n C dX1_copyFrom_113 1 rfl rfl ?_
  refine f_get1 C 3 (v := .ref (B.1 + 24)) (by decide) tw_171 rfl zk_8 zb_8 rfl dX1_copyFrom_114 ?_
  refine z_iload_n C dX1_copyFrom_117 0 rfl rfl ?_
  refine f_aaldL27 C zk_24 zb_24 (by unfold vp_in; decide) (r := 32) (by decide) dX1_copyFrom_118 ?_
  refine z_aload_n C dX1_copyFrom_119 2 rfl rfl ?_
  refine f_get1 C 3 (v := .ref (B.1 + 100)) (by decide) tw_171 rfl zk_84 zb_84 rfl dX1_copyFrom_120 ?_
  refine z_iload_n C dX1_copyFrom_123 0 rfl rfl ?_
  refine f_aaldL27 C zk_100 zb_100 (by unfold vp_in; decide) (r := 108) (by decide) dX1_copyFrom_124 ?_
  refine f_callVv C hl (As := [.ref (B.1 + 108)]) (rest := []) (c_X8_copyFrom l B (zcp (zcp (zcp (zcp (zcp (zcp (zcp (zcp (zcp (zcp (zcp (zcp (zcp (zcp (zcp (zcp (zcp (zcp (zcp (zcp s 9 85 6) 11 87 4) 12 88 4) 13 89 4) 14 90 4) 15 91 4) 16 92 4) 18 94 4) 19 95 4) 20 96 4) 21 97 4) 22 98 4) 23 99 4) 25 101 6) 26 102 6) 27 103 6) 28 104 6) 29 105 6) 30 106 6) 31 107 6) t 32 108 zk_32 zb_32 zk_108 zb_108) zb_32 (zg_8 zk_32) rfl (zCB (nA := 1) C rfl rfl tw_445 tw_9 tw_442 (by decide +kernel) ⟨Nat.le_of_ble_eq_true rfl, Nat.le_of_ble_eq_true rfl⟩) tw_443 tw_444 rfl rfl (Nat.le_of_ble_eq_true rfl) dX1_copyFrom_125 (Nat.zero_le _) ?_
  refine z_iinc C [(2, .int 8), (0, .ref (B.1 + 8)), (1, .ref (B.1 + 84))] dX1_copyFrom_128 0 rfl (by decide) (by decide) rfl ?_
  refine z_goto C 95 dX1_copyFrom_131 (by decide) ?_
  refine z_iload_n C dX1_copyFrom_95 0 rfl rfl ?_
  refine z_aload_n C dX1_copyFrom_96 1 rfl rfl ?_
  refine f_get1 C 3 (v := .ref (B.1 + 24)) (by decide) tw_171 rfl zk_8 zb_8 rfl dX1_copyFrom_97 ?_
  refine f_alen27 C (v := 8) zk_24 zb_24 rfl dX1_copyFrom_100 ?_
  refine z_icmp_ge C 134 dX1_copyFrom_101 (by decide) (fun _ => ?_) (fun hbr => absurd (by decide) hbr)
  refine z_aload_n C dX1_copyFrom_134 1 rfl rfl ?_
  refine z_aload_n C dX1_copyFrom_135 2 rfl rfl ?_
  refine f_get1 C 4 (v := .int ((zcp (zcp (zcp (zcp (zcp (zcp (zcp (zcp (zcp (zcp (zcp (zcp (zcp (zcp (zcp (zcp (zcp (zcp (zcp (zcp (zcp s 9 85 6) 11 87 4) 12 88 4) 13 89 4) 14 90 4) 15 91 4) 16 92 4) 18 94 4) 19 95 4) 20 96 4) 21 97 4) 22 98 4) 23 99 4) 25 101 6) 26 102 6) 27 103 6) 28 104 6) 29 105 6) 30 106 6) 31 107 6) 32 108 6) 84 4)) (by decide) tw_172 rfl zk_84 zb_84 rfl dX1_copyFrom_136 ?_
  refine f_put1_4 C tw_172 zk_8 zb_8 dX1_copyFrom_139 ?_
  refine z_aload_n C dX1_copyFrom_142 1 rfl rfl ?_
  refine z_aload_n C dX1_copyFrom_143 2 rfl rfl ?_
  refine f_get1 C 5 (v := .int ((zu (zcp (zcp (zcp (zcp (zcp (zcp (zcp (zcp (zcp (zcp (zcp (zcp (zcp (zcp (zcp (zcp (zcp (zcp (zcp (zcp (zcp s 9 85 6) 11 87 4) 12 88 4) 13 89 4) 14 90 4) 15 91 4) 16 92 4) 18 94 4) 19 95 4) 20 96 4) 21 97 4) 22 98 4) 23 99 4) 25 101 6) 26 102 6) 27 103 6) 28 104 6) 29 105 6) 30 106 6) 31 107 6) 32 108 6) 8 4 ((zcp (zcp (zcp (zcp (zcp (zcp (zcp (zcp (zcp (zcp (zcp (zcp (zcp (zcp (zcp (zcp (zcp (zcp (zcp (zcp (zcp s 9 85 6) 11 87 4) 12 88 4) 13 89 4) 14 90 4) 15 91 4) 16 92 4) 18 94 4) 19 95 4) 20 96 4) 21 97 4) 22 98 4) 23 99 4) 25 101 6) 26 102 6) 27 103 6) 28 104 6) 29 105 6) 30 106 6) 31 107 6) 32 108 6) 84 4)) 84 5)) (by decide) tw_174 rfl zk_84 zb_84 rfl dX1_copyFrom_144 ?_
  refine f_put1_5 C tw_174 zk_8 zb_8 dX1_copyFrom_147 ?_
  refine z_aload_n C dX1_copyFrom_150 1 rfl rfl ?_
  refine z_aload_n C dX1_copyFrom_151 2 rfl rfl ?_
  refine f_get1 C 6 (v := .int ((zu (zu (zcp (zcp (zcp (zcp (zcp (zcp (zcp (zcp (zcp (zcp (zcp (zcp (zcp (zcp (zcp (zcp (zcp (zcp (zcp (zcp (zcp s 9 85 6) 11 87 4) 12 88 4) 13 89 4) 14 90 4) 15 91 4) 16 92 4) 18 94 4) 19 95 4) 20 96 4) 21 97 4) 22 98 4) 23 99 4) 25 101 6) 26 102 6) 27 103 6) 28 104 6) 29 105 6) 30 106 6) 31 107 6) 32 108 6) 8 4 ((zcp (zcp (zcp (zcp (zcp (zcp (zcp (zcp (zcp (zcp (zcp (zcp (zcp (zcp (zcp (zcp (zcp (zcp (zcp (zcp (zcp s 9 85 6) 11 87 4) 12 88 4) 13 89 4) 14 90 4) 15 91 4) 16 92 4) 18 94 4) 19 95 4) 20 96 4) 21 97 4) 22 98 4) 23 99 4) 25 101 6) 26 102 6) 27 103 6) 28 104 6) 29 105 6) 30 106 6) 31 107 6) 32 108 6) 84 4)) 8 5 ((zu (zcp (zcp (zcp (zcp (zcp (zcp (zcp (zcp (zcp (zcp (zcp (zcp (zcp (zcp (zcp (zcp (zcp (zcp (zcp (zcp (zcp s 9 85 6) 11 87 4) 12 88 4) 13 89 4) 14 90 4) 15 91 4) 16 92 4) 18 94 4) 19 95 4) 20 96 4) 21 97 4) 22 98 4) 23 99 4) 25 101 6) 26 102 6) 27 103 6) 28 104 6) 29 105 6) 30 106 6) 31 107 6) 32 108 6) 8 4 ((zcp (zcp (zcp (zcp (zcp (zcp (zcp (zcp (zcp (zcp (zcp (zcp (zcp (zcp (zcp (zcp (zcp (zcp (zcp (zcp (zcp s 9 85 6) 11 87 4) 12 88 4) 13 89 4) 14 90 4) 15 91 4) 16 92 4) 18 94 4) 19 95 4) 20 96 4) 21 97 4) 22 98 4) 23 99 4) 25 101 6) 26 102 6) 27 103 6) 28 104 6) 29 105 6) 30 106 6) 31 107 6) 32 108 6) 84 4)) 84 5)) 84 6)) (by decide) tw_176 rfl zk_84 zb_84 rfl dX1_copyFrom_152 ?_
  refine f_put1_6 C tw_176 zk_8 zb_8 dX1_copyFrom_155 ?_
  refine z_vret C E rfl dX1_copyFrom_158 rfl (Nat.le_refl _) ⟨rfl, rfl⟩
theorem i32_lt6 {d : Nat} (h : d < 6) : nI d < (6 : Int32) := nI_lt h (by decide)
abbrev mX1_addDeputy : zM := (yX1_addDeputy, cX1_addDeputy, 6, none, { frames := 0, cells := 0, slots := 0, locals := 0 })
def wAddD8 (s : zS) (n : Nat) (a b c d : Int32) : zS := (zu (zu (zu (zu (zu (zu s (11 + n) 0 a) (11 + n) 1 b) (11 + n) 2 c) (11 + n) 3 d) 8 4 (nI (n + 1))) 8 6 0)
set_option maxRecDepth 100000 in
set_option maxHeartbeats 4000000 in
theorem c_X1_addDeputy8 (l : Launch) (B : zB) (s : zS) (t : zL) (n : Nat) (hn : n < 6) (hc : s 8 4 = nI n) (a b c d : Int32) : zD l B mX1_addDeputy s t [.ref (B.1 + 8), .int a, .int b, .int c, .int d] none (wAddD8 s n a b c d) t := by
  refine z_met (by decide) (Nat.le_of_ble_eq_true rfl) ?_
  intro X hl C E hnm
  show Zf X B mX1_addDeputy s t 0 [(0, .ref (B.1 + 8)), (1, .int a), (2, .int b), (3, .int c), (4, .int d)] []
  refine z_aload_n C dX1_addDeputy_0 0 rfl rfl ?_
  refine f_get1 C 4 (v := .int (s 8 4)) (by decide) tw_172 rfl zk_8 zb_8 rfl dX1_addDeputy_1 ?_
  refine f_topi hc ?_
  refine z_if_lt C 19 dX1_addDeputy_4 (by decide) (fun hbr => absurd hbr (nI_pos (by omega))) (fun _ => ?_)
  refine z_aload_n C dX1_addDeputy_7 0 rfl rfl ?_
  refine f_get1 C 4 (v := .int (s 8 4)) (by decide) tw_172 rfl zk_8 zb_8 rfl dX1_addDeputy_8 ?_
  refine f_topi hc ?_
  refine z_aload_n C dX1_addDeputy_11 0 rfl rfl ?_
  refine f_get1 C 1 (v := .ref (B.1 + 10)) (by decide) tw_169 rfl zk_8 zb_8 rfl dX1_addDeputy_12 ?_
  refine f_alen23 C (v := 6) zk_10 zb_10 rfl dX1_addDeputy_15 ?_
  refine z_icmp_lt C 20 dX1_addDeputy_16 (by decide) (fun _ => ?_) (fun hbr => absurd (i32_lt6 hn) hbr)
  refine z_aload_n C dX1_addDeputy_20 0 rfl rfl ?_
  refine f_get1 C 1 (v := .ref (B.1 + 10)) (by decide) tw_169 rfl zk_8 zb_8 rfl dX1_addDeputy_21 ?_
  refine z_aload_n C dX1_addDeputy_24 0 rfl rfl ?_
  refine f_get1 C 4 (v := .int (s 8 4)) (by decide) tw_172 rfl zk_8 zb_8 rfl dX1_addDeputy_25 ?_
  refine f_topi hc ?_
  refine f_aaldL23 C zk_10 zb_10 (vp_in_nI hn (by decide)) (r := (11 + n)) (by rw [nI_clamp (by omega)]) dX1_addDeputy_28 ?_
  refine z_astore C [(5, .ref (B.1 + (11 + n))), (0, .ref (B.1 + 8)), (1, .int a), (2, .int b), (3, .int c), (4, .int d)] dX1_addDeputy_29 (by decide) rfl ?_
  refine z_aload C dX1_addDeputy_31 0 rfl ?_
  refine z_iload_n C dX1_addDeputy_33 2 rfl rfl ?_
  refine f_put0_0 C tw_118 (zk_dep n hn) (by omega) dX1_addDeputy_34 ?_
  refine z_aload C dX1_addDeputy_37 0 rfl ?_
  refine z_iload_n C dX1_addDeputy_39 3 rfl rfl ?_
  refine f_put0_1 C tw_121 (zk_dep n hn) (by omega) dX1_addDeputy_40 ?_
  refine z_aload C dX1_addDeputy_43 0 rfl ?_
  refine z_iload_n C dX1_addDeputy_45 4 rfl rfl ?_
  refine f_put0_2 C tw_124 (zk_dep n hn) (by omega) dX1_addDeputy_46 ?_
  refine z_aload C dX1_addDeputy_49 0 rfl ?_
  refine z_iload C dX1_addDeputy_51 5 rfl ?_
  refine f_put0_3 C tw_127 (zk_dep n hn) (by omega) dX1_addDeputy_53 ?_
  refine z_aload_n C dX1_addDeputy_56 1 rfl rfl ?_
  refine z_dup C dX1_addDeputy_57 rfl ?_
  refine f_get1 C 4 (v := .int ((zu (zu (zu (zu s (11 + n) 0 a) (11 + n) 1 b) (11 + n) 2 c) (11 + n) 3 d) 8 4)) (by decide) tw_172 rfl zk_8 zb_8 rfl dX1_addDeputy_58 ?_
  refine f_topi (y := nI n) (by rw [zu_row _ _ (show 8 ≠ 11 + n by omega), zu_row _ _ (show 8 ≠ 11 + n by omega), zu_row _ _ (show 8 ≠ 11 + n by omega), zu_row _ _ (show 8 ≠ 11 + n by omega)]; exact hc) ?_
  refine z_iconst C dX1_addDeputy_61 ki_1 ?_
  refine z_iadd C dX1_addDeputy_62 ?_
  refine f_topi (nI_1 n) ?_
  refine f_put1_4 C tw_172 zk_8 zb_8 dX1_addDeputy_63 ?_
  refine z_aload_n C dX1_addDeputy_66 1 rfl rfl ?_
  refine z_iconst C dX1_addDeputy_67 ki_0 ?_
  refine f_put1_6 C tw_176 zk_8 zb_8 dX1_addDeputy_68 ?_
  refine z_vret C E rfl dX1_addDeputy_71 rfl (Nat.le_refl _) ⟨rfl, rfl⟩
def wAddD33 (s : zS) (n : Nat) (a b c d : Int32) : zS := (zu (zu (zu (zu (zu (zu s (36 + n) 0 a) (36 + n) 1 b) (36 + n) 2 c) (36 + n) 3 d) 33 4 (nI (n + 1))) 33 6 0)
set_option maxRecDepth 100000 in
set_option maxHeartbeats 4000000 in
theorem c_X1_addDeputy33 (l : Launch) (B : zB) (s : zS) (t : zL) (n : Nat) (hn : n < 6) (hc : s 33 4 = nI n) (a b c d : Int32) : zD l B mX1_addDeputy s t [.ref (B.1 + 33), .int a, .int b, .int c, .int d] none (wAddD33 s n a b c d) t := by
  refine z_met (by decide) (Nat.le_of_ble_eq_true rfl) ?_
  intro X hl C E hnm
  show Zf X B mX1_addDeputy s t 0 [(0, .ref (B.1 + 33)), (1, .int a), (2, .int b), (3, .int c), (4, .int d)] []
  refine z_aload_n C dX1_addDeputy_0 0 rfl rfl ?_
  refine f_get1 C 4 (v := .int (s 33 4)) (by decide) tw_172 rfl zk_33 zb_33 rfl dX1_addDeputy_1 ?_
  refine f_topi hc ?_
  refine z_if_lt C 19 dX1_addDeputy_4 (by decide) (fun hbr => absurd hbr (nI_pos (by omega))) (fun _ => ?_)
  refine z_aload_n C dX1_addDeputy_7 0 rfl rfl ?_
  refine f_get1 C 4 (v := .int (s 33 4)) (by decide) tw_172 rfl zk_33 zb_33 rfl dX1_addDeputy_8 ?_
  refine f_topi hc ?_
  refine z_aload_n C dX1_addDeputy_11 0 rfl rfl ?_
  refine f_get1 C 1 (v := .ref (B.1 + 35)) (by decide) tw_169 rfl zk_33 zb_33 rfl dX1_addDeputy_12 ?_
  refine f_alen23 C (v := 6) zk_35 zb_35 rfl dX1_addDeputy_15 ?_
  refine z_icmp_lt C 20 dX1_addDeputy_16 (by decide) (fun _ => ?_) (fun hbr => absurd (i32_lt6 hn) hbr)
  refine z_aload_n C dX1_addDeputy_20 0 rfl rfl ?_
  refine f_get1 C 1 (v := .ref (B.1 + 35)) (by decide) tw_169 rfl zk_33 zb_33 rfl dX1_addDeputy_21 ?_
  refine z_aload_n C dX1_addDeputy_24 0 rfl rfl ?_
  refine f_get1 C 4 (v := .int (s 33 4)) (by decide) tw_172 rfl zk_33 zb_33 rfl dX1_addDeputy_25 ?_
  refine f_topi hc ?_
  refine f_aaldL23 C zk_35 zb_35 (vp_in_nI hn (by decide)) (r := (36 + n)) (by rw [nI_clamp (by omega)]) dX1_addDeputy_28 ?_
  refine z_astore C [(5, .ref (B.1 + (36 + n))), (0, .ref (B.1 + 33)), (1, .int a), (2, .int b), (3, .int c), (4, .int d)] dX1_addDeputy_29 (by decide) rfl ?_
  refine z_aload C dX1_addDeputy_31 0 rfl ?_
  refine z_iload_n C dX1_addDeputy_33 2 rfl rfl ?_
  refine f_put0_0 C tw_118 (zk_dep2 n hn) (by omega) dX1_addDeputy_34 ?_
  refine z_aload C dX1_addDeputy_37 0 rfl ?_
  refine z_iload_n C dX1_addDeputy_39 3 rfl rfl ?_
  refine f_put0_1 C tw_121 (zk_dep2 n hn) (by omega) dX1_addDeputy_40 ?_
  refine z_aload C dX1_addDeputy_43 0 rfl ?_
  refine z_iload_n C dX1_addDeputy_45 4 rfl rfl ?_
  refine f_put0_2 C tw_124 (zk_dep2 n hn) (by omega) dX1_addDeputy_46 ?_
  refine z_aload C dX1_addDeputy_49 0 rfl ?_
  refine z_iload C dX1_addDeputy_51 5 rfl ?_
  refine f_put0_3 C tw_127 (zk_dep2 n hn) (by omega) dX1_addDeputy_53 ?_
  refine z_aload_n C dX1_addDeputy_56 1 rfl rfl ?_
  refine z_dup C dX1_addDeputy_57 rfl ?_
  refine f_get1 C 4 (v := .int ((zu (zu (zu (zu s (36 + n) 0 a) (36 + n) 1 b) (36 + n) 2 c) (36 + n) 3 d) 33 4)) (by decide) tw_172 rfl zk_33 zb_33 rfl dX1_addDeputy_58 ?_
  refine f_topi (y := nI n) (by rw [zu_row _ _ (show 33 ≠ 36 + n by omega), zu_row _ _ (show 33 ≠ 36 + n by omega), zu_row _ _ (show 33 ≠ 36 + n by omega), zu_row _ _ (show 33 ≠ 36 + n by omega)]; exact hc) ?_
  refine z_iconst C dX1_addDeputy_61 ki_1 ?_
  refine z_iadd C dX1_addDeputy_62 ?_
  refine f_topi (nI_1 n) ?_
  refine f_put1_4 C tw_172 zk_33 zb_33 dX1_addDeputy_63 ?_
  refine z_aload_n C dX1_addDeputy_66 1 rfl rfl ?_
  refine z_iconst C dX1_addDeputy_67 ki_0 ?_
  refine f_put1_6 C tw_176 zk_33 zb_33 dX1_addDeputy_68 ?_
  refine z_vret C E rfl dX1_addDeputy_71 rfl (Nat.le_refl _) ⟨rfl, rfl⟩
abbrev mX1_addNote : zM := (yX1_addNote, cX1_addNote, 6, none, { frames := 0, cells := 0, slots := 0, locals := 0 })
def wAddN (s : zS) (n : Nat) (a b c d : Int32) : zS := (zu (zu (zu (zu (zu s (18 + n) 0 a) (18 + n) 1 b) (18 + n) 2 c) (18 + n) 3 d) 8 5 (nI (n + 1)))
set_option maxRecDepth 100000 in
set_option maxHeartbeats 4000000 in
theorem c_X1_addNote (l : Launch) (B : zB) (s : zS) (t : zL) (n : Nat) (hn : n < 6) (hc : s 8 5 = nI n) (a b c d : Int32) : zD l B mX1_addNote s t [.ref (B.1 + 8), .int a, .int b, .int c, .int d] none (wAddN s n a b c d) t := by
  refine z_met (by decide) (Nat.le_of_ble_eq_true rfl) ?_
  intro X hl C E hnm
  show Zf X B mX1_addNote s t 0 [(0, .ref (B.1 + 8)), (1, .int a), (2, .int b), (3, .int c), (4, .int d)] []
  refine z_aload_n C dX1_addNote_0 0 rfl rfl ?_
  refine f_get1 C 5 (v := .int (s 8 5)) (by decide) tw_174 rfl zk_8 zb_8 rfl dX1_addNote_1 ?_
  refine f_topi hc ?_
  refine z_if_lt C 19 dX1_addNote_4 (by decide) (fun hbr => absurd hbr (nI_pos (by omega))) (fun _ => ?_)
  refine z_aload_n C dX1_addNote_7 0 rfl rfl ?_
  refine f_get1 C 5 (v := .int (s 8 5)) (by decide) tw_174 rfl zk_8 zb_8 rfl dX1_addNote_8 ?_
  refine f_topi hc ?_
  refine z_aload_n C dX1_addNote_11 0 rfl rfl ?_
  refine f_get1 C 2 (v := .ref (B.1 + 17)) (by decide) tw_170 rfl zk_8 zb_8 rfl dX1_addNote_12 ?_
  refine f_alen25 C (v := 6) zk_17 zb_17 rfl dX1_addNote_15 ?_
  refine z_icmp_lt C 20 dX1_addNote_16 (by decide) (fun _ => ?_) (fun hbr => absurd (i32_lt6 hn) hbr)
  refine z_aload_n C dX1_addNote_20 0 rfl rfl ?_
  refine f_get1 C 2 (v := .ref (B.1 + 17)) (by decide) tw_170 rfl zk_8 zb_8 rfl dX1_addNote_21 ?_
  refine z_aload_n C dX1_addNote_24 0 rfl rfl ?_
  refine f_get1 C 5 (v := .int (s 8 5)) (by decide) tw_174 rfl zk_8 zb_8 rfl dX1_addNote_25 ?_
  refine f_topi hc ?_
  refine f_aaldL25 C zk_17 zb_17 (vp_in_nI hn (by decide)) (r := (18 + n)) (by rw [nI_clamp (by omega)]) dX1_addNote_28 ?_
  refine z_astore C [(5, .ref (B.1 + (18 + n))), (0, .ref (B.1 + 8)), (1, .int a), (2, .int b), (3, .int c), (4, .int d)] dX1_addNote_29 (by decide) rfl ?_
  refine z_aload C dX1_addNote_31 0 rfl ?_
  refine z_iload_n C dX1_addNote_33 2 rfl rfl ?_
  refine f_put4_0 C tw_146 (zk_not n hn) (by omega) dX1_addNote_34 ?_
  refine z_aload C dX1_addNote_37 0 rfl ?_
  refine z_iload_n C dX1_addNote_39 3 rfl rfl ?_
  refine f_put4_1 C tw_149 (zk_not n hn) (by omega) dX1_addNote_40 ?_
  refine z_aload C dX1_addNote_43 0 rfl ?_
  refine z_iload_n C dX1_addNote_45 4 rfl rfl ?_
  refine f_put4_2 C tw_152 (zk_not n hn) (by omega) dX1_addNote_46 ?_
  refine z_aload C dX1_addNote_49 0 rfl ?_
  refine z_iload C dX1_addNote_51 5 rfl ?_
  refine f_put4_3 C tw_155 (zk_not n hn) (by omega) dX1_addNote_53 ?_
  refine z_aload_n C dX1_addNote_56 1 rfl rfl ?_
  refine z_dup C dX1_addNote_57 rfl ?_
  refine f_get1 C 5 (v := .int ((zu (zu (zu (zu s (18 + n) 0 a) (18 + n) 1 b) (18 + n) 2 c) (18 + n) 3 d) 8 5)) (by decide) tw_174 rfl zk_8 zb_8 rfl dX1_addNote_58 ?_
  refine f_topi (y := nI n) (by rw [zu_row _ _ (show 8 ≠ 18 + n by omega), zu_row _ _ (show 8 ≠ 18 + n by omega), zu_row _ _ (show 8 ≠ 18 + n by omega), zu_row _ _ (show 8 ≠ 18 + n by omega)]; exact hc) ?_
  refine z_iconst C dX1_addNote_61 ki_1 ?_
  refine z_iadd C dX1_addNote_62 ?_
  refine f_topi (nI_1 n) ?_
  refine f_put1_5 C tw_174 zk_8 zb_8 dX1_addNote_63 ?_
  refine z_vret C E rfl dX1_addNote_66 rfl (Nat.le_refl _) ⟨rfl, rfl⟩
abbrev mX1_remember : zM := (yX1_remember, cX1_remember, 2, none, { frames := 1, cells := 0, slots := 0, locals := 21 })
def wRem (s : zS) (n : Nat) : zS := (zu (zcp s (25 + n) 9 6) 8 6 (nI (n + 1)))
set_option maxRecDepth 100000 in
set_option maxHeartbeats 4000000 in
theorem c_X1_rememberA (l : Launch) (B : zB) (s : zS) (t : zL) (n : Nat) (hn : n < 8) (hc : s 8 6 = nI n) : zD l B mX1_remember s t [.ref (B.1 + 8)] none (wRem s n) t := by
  refine z_met (by decide) (Nat.le_of_ble_eq_true rfl) ?_
  intro X hl C E hnm
  show Zf X B mX1_remember s t 0 [(0, .ref (B.1 + 8))] []
  refine z_aload_n C dX1_remember_0 0 rfl rfl ?_
  refine f_get1 C 6 (v := .int (s 8 6)) (by decide) tw_176 rfl zk_8 zb_8 rfl dX1_remember_1 ?_
  refine f_topi hc ?_
  refine z_aload_n C dX1_remember_4 0 rfl rfl ?_
  refine f_get1 C 3 (v := .ref (B.1 + 24)) (by decide) tw_171 rfl zk_8 zb_8 rfl dX1_remember_5 ?_
  refine f_alen27 C (v := 8) zk_24 zb_24 rfl dX1_remember_8 ?_
  refine z_icmp_lt C 57 dX1_remember_9 (by decide) (fun _ => ?_) (fun hbr => absurd (show nI n < nI 8 from nI_lt hn (by decide)) hbr)
  refine z_aload_n C dX1_remember_57 0 rfl rfl ?_
  refine f_get1 C 6 (v := .int (s 8 6)) (by decide) tw_176 rfl zk_8 zb_8 rfl dX1_remember_58 ?_
  refine f_topi hc ?_
  refine z_if_lt C 102 dX1_remember_61 (by decide) (fun hbr => absurd hbr (nI_pos (by omega))) (fun _ => ?_)
  refine z_aload_n C dX1_remember_64 0 rfl rfl ?_
  refine f_get1 C 6 (v := .int (s 8 6)) (by decide) tw_176 rfl zk_8 zb_8 rfl dX1_remember_65 ?_
  refine f_topi hc ?_
  refine z_aload_n C dX1_remember_68 0 rfl rfl ?_
  refine f_get1 C 3 (v := .ref (B.1 + 24)) (by decide) tw_171 rfl zk_8 zb_8 rfl dX1_remember_69 ?_
  refine f_alen27 C (v := 8) zk_24 zb_24 rfl dX1_remember_72 ?_
  refine z_icmp_ge C 102 dX1_remember_73 (by decide) (fun hbr => absurd hbr (show ¬ nI 8 ≤ nI n from nI_ge hn (by decide))) (fun _ => ?_)
  refine z_aload_n C dX1_remember_76 0 rfl rfl ?_
  refine f_get1 C 3 (v := .ref (B.1 + 24)) (by decide) tw_171 rfl zk_8 zb_8 rfl dX1_remember_77 ?_
  refine z_aload_n C dX1_remember_80 0 rfl rfl ?_
  refine f_get1 C 6 (v := .int (s 8 6)) (by decide) tw_176 rfl zk_8 zb_8 rfl dX1_remember_81 ?_
  refine f_topi hc ?_
  refine f_aaldL27 C zk_24 zb_24 (vp_in_nI hn (by decide)) (r := (25 + n)) (by rw [nI_clamp (by omega)]) dX1_remember_84 ?_
  refine z_aload_n C dX1_remember_85 0 rfl rfl ?_
  refine f_get1 C 0 (v := .ref (B.1 + 9)) (by decide) tw_167 rfl zk_8 zb_8 rfl dX1_remember_86 ?_
  refine f_callVv C hl (As := [.ref (B.1 + 9)]) (rest := []) (c_X8_copyFrom l B s t (25 + n) 9 (zk_pst n hn) (by omega) zk_9 zb_9) (by omega) (zg_8 (zk_pst n hn)) rfl (zCB (nA := 1) C rfl rfl tw_445 tw_9 tw_442 (by decide +kernel) ⟨Nat.le_of_ble_eq_true rfl, Nat.le_of_ble_eq_true rfl⟩) tw_443 tw_444 rfl rfl (Nat.le_of_ble_eq_true rfl) dX1_remember_89 (Nat.zero_le _) ?_
  refine z_aload_n C dX1_remember_92 0 rfl rfl ?_
  refine z_dup C dX1_remember_93 rfl ?_
  refine f_get1 C 6 (v := .int ((zcp s (25 + n) 9 6) 8 6)) (by decide) tw_176 rfl zk_8 zb_8 rfl dX1_remember_94 ?_
  refine f_topi (y := nI n) (by show zcp s (25 + n) 9 6 8 6 = nI n; rw [zcp, if_neg (by omega)]; exact hc) ?_
  refine z_iconst C dX1_remember_97 ki_1 ?_
  refine z_iadd C dX1_remember_98 ?_
  refine f_topi (nI_1 n) ?_
  refine f_put1_6 C tw_176 zk_8 zb_8 dX1_remember_99 ?_
  refine z_vret C E rfl dX1_remember_102 rfl (Nat.le_refl _) ⟨rfl, rfl⟩
def wRem8 (s : zS) : zS := (zu (zcp (zu (zcp (zcp (zcp (zcp (zcp (zcp (zcp s 25 26 6) 26 27 6) 27 28 6) 28 29 6) 29 30 6) 30 31 6) 31 32 6) 8 6 7) 32 9 6) 8 6 8)
set_option maxRecDepth 100000 in
set_option maxHeartbeats 4000000 in
theorem c_X1_rememberB (l : Launch) (B : zB) (s : zS) (t : zL) (hc : s 8 6 = 8) : zD l B mX1_remember s t [.ref (B.1 + 8)] none (wRem8 s) t := by
  refine z_met (by decide) (Nat.le_of_ble_eq_true rfl) ?_
  intro X hl C E hnm
  show Zf X B mX1_remember s t 0 [(0, .ref (B.1 + 8))] []
  refine z_aload_n C dX1_remember_0 0 rfl rfl ?_
  refine f_get1 C 6 (v := .int (s 8 6)) (by decide) tw_176 rfl zk_8 zb_8 rfl dX1_remember_1 ?_
  refine f_topi hc ?_
  refine z_aload_n C dX1_remember_4 0 rfl rfl ?_
  refine f_get1 C 3 (v := .ref (B.1 + 24)) (by decide) tw_171 rfl zk_8 zb_8 rfl dX1_remember_5 ?_
  refine f_alen27 C (v := 8) zk_24 zb_24 rfl dX1_remember_8 ?_
  refine z_icmp_lt C 57 dX1_remember_9 (by decide) (fun hbr => absurd hbr (by decide)) (fun _ => ?_)
  refine z_iconst C dX1_remember_12 ki_1 ?_
  refine z_istore_n C [(1, .int 1), (0, .ref (B.1 + 8))] dX1_remember_13 rfl (by decide) rfl ?_
  refine z_iload_n C dX1_remember_14 0 rfl rfl ?_
  refine z_aload_n C dX1_remember_15 1 rfl rfl ?_
  refine f_get1 C 3 (v := .ref (B.1 + 24)) (by decide) tw_171 rfl zk_8 zb_8 rfl dX1_remember_16 ?_
  refine f_alen27 C (v := 8) zk_24 zb_24 rfl dX1_remember_19 ?_
  refine z_icmp_ge C 46 dX1_remember_20 (by decide) (fun hbr => absurd hbr (by decide)) (fun _ => ?_)
  refine z_aload_n C dX1_remember_23 1 rfl rfl ?_
  refine f_get1 C 3 (v := .ref (B.1 + 24)) (by decide) tw_171 rfl zk_8 zb_8 rfl dX1_remember_24 ?_
  refine z_iload_n C dX1_remember_27 0 rfl rfl ?_
  refine z_iconst C dX1_remember_28 ki_1 ?_
  refine z_isub C dX1_remember_29 ?_
  refine f_topi (y := 0) (by decide) ?_
  refine f_aaldL27 C zk_24 zb_24 (by unfold vp_in; decide) (r := 25) (by decide) dX1_remember_30 ?_
  refine z_aload_n C dX1_remember_31 1 rfl rfl ?_
  refine f_get1 C 3 (v := .ref (B.1 + 24)) (by decide) tw_171 rfl zk_8 zb_8 rfl dX1_remember_32 ?_
  refine z_iload_n C dX1_remember_35 0 rfl rfl ?_
  refine f_aaldL27 C zk_24 zb_24 (by unfold vp_in; decide) (r := 26) (by decide) dX1_remember_36 ?_
  refine f_callVv C hl (As := [.ref (B.1 + 26)]) (rest := []) (c_X8_copyFrom l B s t 25 26 zk_25 zb_25 zk_26 zb_26) zb_25 (zg_8 zk_25) rfl (zCB (nA := 1) C rfl rfl tw_445 tw_9 tw_442 (by decide +kernel) ⟨Nat.le_of_ble_eq_true rfl, Nat.le_of_ble_eq_true rfl⟩) tw_443 tw_444 rfl rfl (Nat.le_of_ble_eq_true rfl) dX1_remember_37 (Nat.zero_le _) ?_
  refine z_iinc C [(1, .int 2), (0, .ref (B.1 + 8))] dX1_remember_40 0 rfl (by decide) (by decide) rfl ?_
  refine z_goto C 14 dX1_remember_43 (by decide) ?_
  refine z_iload_n C dX1_remember_14 0 rfl rfl ?_
  refine z_aload_n C dX1_remember_15 1 rfl rfl ?_
  refine f_get1 C 3 (v := .ref (B.1 + 24)) (by decide) tw_171 rfl zk_8 zb_8 rfl dX1_remember_16 ?_
  refine f_alen27 C (v := 8) zk_24 zb_24 rfl dX1_remember_19 ?_
  refine z_icmp_ge C 46 dX1_remember_20 (by decide) (fun hbr => absurd hbr (by decide)) (fun _ => ?_)
  refine z_aload_n C dX1_remember_23 1 rfl rfl ?_
  refine f_get1 C 3 (v := .ref (B.1 + 24)) (by decide) tw_171 rfl zk_8 zb_8 rfl dX1_remember_24 ?_
  refine z_iload_n C dX1_remember_27 0 rfl rfl ?_
  refine z_iconst C dX1_remember_28 ki_1 ?_
  refine z_isub C dX1_remember_29 ?_
  refine f_topi (y := 1) (by decide) ?_
  refine f_aaldL27 C zk_24 zb_24 (by unfold vp_in; decide) (r := 26) (by decide) dX1_remember_30 ?_
  refine z_aload_n C dX1_remember_31 1 rfl rfl ?_
  refine f_get1 C 3 (v := .ref (B.1 + 24)) (by decide) tw_171 rfl zk_8 zb_8 rfl dX1_remember_32 ?_
  refine z_iload_n C dX1_remember_35 0 rfl rfl ?_
  refine f_aaldL27 C zk_24 zb_24 (by unfold vp_in; decide) (r := 27) (by decide) dX1_remember_36 ?_
  refine f_callVv C hl (As := [.ref (B.1 + 27)]) (rest := []) (c_X8_copyFrom l B (zcp s 25 26 6) t 26 27 zk_26 zb_26 zk_27 zb_27) zb_26 (zg_8 zk_26) rfl (zCB (nA := 1) C rfl rfl tw_445 tw_9 tw_442 (by decide +kernel) ⟨Nat.le_of_ble_eq_true rfl, Nat.le_of_ble_eq_true rfl⟩) tw_443 tw_444 rfl rfl (Nat.le_of_ble_eq_true rfl) dX1_remember_37 (Nat.zero_le _) ?_
  refine z_iinc C [(1, .int 3), (0, .ref (B.1 + 8))] dX1_remember_40 0 rfl (by decide) (by decide) rfl ?_
  refine z_goto C 14 dX1_remember_43 (by decide) ?_
  refine z_iload_n C dX1_remember_14 0 rfl rfl ?_
  refine z_aload_n C dX1_remember_15 1 rfl rfl ?_
  refine f_get1 C 3 (v := .ref (B.1 + 24)) (by decide) tw_171 rfl zk_8 zb_8 rfl dX1_remember_16 ?_
  refine f_alen27 C (v := 8) zk_24 zb_24 rfl dX1_remember_19 ?_
  refine z_icmp_ge C 46 dX1_remember_20 (by decide) (fun hbr => absurd hbr (by decide)) (fun _ => ?_)
  refine z_aload_n C dX1_remember_23 1 rfl rfl ?_
  refine f_get1 C 3 (v := .ref (B.1 + 24)) (by decide) tw_171 rfl zk_8 zb_8 rfl dX1_remember_24 ?_
  refine z_iload_n C dX1_remember_27 0 rfl rfl ?_
  refine z_iconst C dX1_remember_28 ki_1 ?_
  refine z_isub C dX1_remember_29 ?_
  refine f_topi (y := 2) (by decide) ?_
  refine f_aaldL27 C zk_24 zb_24 (by unfold vp_in; decide) (r := 27) (by decide) dX1_remember_30 ?_
  refine z_aload_n C dX1_remember_31 1 rfl rfl ?_
  refine f_get1 C 3 (v := .ref (B.1 + 24)) (by decide) tw_171 rfl zk_8 zb_8 rfl dX1_remember_32 ?_
  refine z_iload_n C dX1_remember_35 0 rfl rfl ?_
  refine f_aaldL27 C zk_24 zb_24 (by unfold vp_in; decide) (r := 28) (by decide) dX1_remember_36 ?_
  refine f_callVv C hl (As := [.ref (B.1 + 28)]) (rest := []) (c_X8_copyFrom l B (zcp (zcp s 25 26 6) 26 27 6) t 27 28 zk_27 zb_27 zk_28 zb_28) zb_27 (zg_8 zk_27) rfl (zCB (nA := 1) C rfl rfl tw_445 tw_9 tw_442 (by decide +kernel) ⟨Nat.le_of_ble_eq_true rfl, Nat.le_of_ble_eq_true rfl⟩) tw_443 tw_444 rfl rfl (Nat.le_of_ble_eq_true rfl) dX1_remember_37 (Nat.zero_le _) ?_
  refine z_iinc C [(1, .int 4), (0, .ref (B.1 + 8))] dX1_remember_40 0 rfl (by decide) (by decide) rfl ?_
  refine z_goto C 14 dX1_remember_43 (by decide) ?_
  refine z_iload_n C dX1_remember_14 0 rfl rfl ?_
  refine z_aload_n C dX1_remember_15 1 rfl rfl ?_
  refine f_get1 C 3 (v := .ref (B.1 + 24)) (by decide) tw_171 rfl zk_8 zb_8 rfl dX1_remember_16 ?_
  refine f_alen27 C (v := 8) zk_24 zb_24 rfl dX1_remember_19 ?_
  refine z_icmp_ge C 46 dX1_remember_20 (by decide) (fun hbr => absurd hbr (by decide)) (fun _ => ?_)
  refine z_aload_n C dX1_remember_23 1 rfl rfl ?_
  refine f_get1 C 3 (v := .ref (B.1 + 24)) (by decide) tw_171 rfl zk_8 zb_8 rfl dX1_remember_24 ?_
  refine z_iload_n C dX1_remember_27 0 rfl rfl ?_
  refine z_iconst C dX1_remember_28 ki_1 ?_
  refine z_isub C dX1_remember_29 ?_
  refine f_topi (y := 3) (by decide) ?_
  refine f_aaldL27 C zk_24 zb_24 (by unfold vp_in; decide) (r := 28) (by decide) dX1_remember_30 ?_
  refine z_aload_n C dX1_remember_31 1 rfl rfl ?_
  refine f_get1 C 3 (v := .ref (B.1 + 24)) (by decide) tw_171 rfl zk_8 zb_8 rfl dX1_remember_32 ?_
  refine z_iload_n C dX1_remember_35 0 rfl rfl ?_
  refine f_aaldL27 C zk_24 zb_24 (by unfold vp_in; decide) (r := 29) (by decide) dX1_remember_36 ?_
  refine f_callVv C hl (As := [.ref (B.1 + 29)]) (rest := []) (c_X8_copyFrom l B (zcp (zcp (zcp s 25 26 6) 26 27 6) 27 28 6) t 28 29 zk_28 zb_28 zk_29 zb_29) zb_28 (zg_8 zk_28) rfl (zCB (nA := 1) C rfl rfl tw_445 tw_9 tw_442 (by decide +kernel) ⟨Nat.le_of_ble_eq_true rfl, Nat.le_of_ble_eq_true rfl⟩) tw_443 tw_444 rfl rfl (Nat.le_of_ble_eq_true rfl) dX1_remember_37 (Nat.zero_le _) ?_
  refine z_iinc C [(1, .int 5), (0, .ref (B.1 + 8))] dX1_remember_40 0 rfl (by decide) (by decide) rfl ?_
  refine z_goto C 14 dX1_remember_43 (by decide) ?_
  refine z_iload_n C dX1_remember_14 0 rfl rfl ?_
  refine z_aload_n C dX1_remember_15 1 rfl rfl ?_
  refine f_get1 C 3 (v := .ref (B.1 + 24)) (by decide) tw_171 rfl zk_8 zb_8 rfl dX1_remember_16 ?_
  refine f_alen27 C (v := 8) zk_24 zb_24 rfl dX1_remember_19 ?_
  refine z_icmp_ge C 46 dX1_remember_20 (by decide) (fun hbr => absurd hbr (by decide)) (fun _ => ?_)
  refine z_aload_n C dX1_remember_23 1 rfl rfl ?_
  refine f_get1 C 3 (v := .ref (B.1 + 24)) (by decide) tw_171 rfl zk_8 zb_8 rfl dX1_remember_24 ?_
  refine z_iload_n C dX1_remember_27 0 rfl rfl ?_
  refine z_iconst C dX1_remember_28 ki_1 ?_
  refine z_isub C dX1_remember_29 ?_
  refine f_topi (y := 4) (by decide) ?_
  refine f_aaldL27 C zk_24 zb_24 (by unfold vp_in; decide) (r := 29) (by decide) dX1_remember_30 ?_
  refine z_aload_n C dX1_remember_31 1 rfl rfl ?_
  refine f_get1 C 3 (v := .ref (B.1 + 24)) (by decide) tw_171 rfl zk_8 zb_8 rfl dX1_remember_32 ?_
  refine z_iload_n C dX1_remember_35 0 rfl rfl ?_
  refine f_aaldL27 C zk_24 zb_24 (by unfold vp_in; decide) (r := 30) (by decide) dX1_remember_36 ?_
  refine f_callVv C hl (As := [.ref (B.1 + 30)]) (rest := []) (c_X8_copyFrom l B (zcp (zcp (zcp (zcp s 25 26 6) 26 27 6) 27 28 6) 28 29 6) t 29 30 zk_29 zb_29 zk_30 zb_30) zb_29 (zg_8 zk_29) rfl (zCB (nA := 1) C rfl rfl tw_445 tw_9 tw_442 (by decide +kernel) ⟨Nat.le_of_ble_eq_true rfl, Nat.le_of_ble_eq_true rfl⟩) tw_443 tw_444 rfl rfl (Nat.le_of_ble_eq_true rfl) dX1_remember_37 (Nat.zero_le _) ?_
  refine z_iinc C [(1, .int 6), (0, .ref (B.1 + 8))] dX1_remember_40 0 rfl (by decide) (by decide) rfl ?_
  refine z_goto C 14 dX1_remember_43 (by decide) ?_
  refine z_iload_n C dX1_remember_14 0 rfl rfl ?_
  refine z_aload_n C dX1_remember_15 1 rfl rfl ?_
  refine f_get1 C 3 (v := .ref (B.1 + 24)) (by decide) tw_171 rfl zk_8 zb_8 rfl dX1_remember_16 ?_
  refine f_alen27 C (v := 8) zk_24 zb_24 rfl dX1_remember_19 ?_
  refine z_icmp_ge C 46 dX1_remember_20 (by decide) (fun hbr => absurd hbr (by decide)) (fun _ => ?_)
  refine z_aload_n C dX1_remember_23 1 rfl rfl ?_
  refine f_get1 C 3 (v := .ref (B.1 + 24)) (by decide) tw_171 rfl zk_8 zb_8 rfl dX1_remember_24 ?_
  refine z_iload_n C dX1_remember_27 0 rfl rfl ?_
  refine z_iconst C dX1_remember_28 ki_1 ?_
  refine z_isub C dX1_remember_29 ?_
  refine f_topi (y := 5) (by decide) ?_
  refine f_aaldL27 C zk_24 zb_24 (by unfold vp_in; decide) (r := 30) (by decide) dX1_remember_30 ?_
  refine z_aload_n C dX1_remember_31 1 rfl rfl ?_
  refine f_get1 C 3 (v := .ref (B.1 + 24)) (by decide) tw_171 rfl zk_8 zb_8 rfl dX1_remember_32 ?_
  refine z_iload_n C dX1_remember_35 0 rfl rfl ?_
  refine f_aaldL27 C zk_24 zb_24 (by unfold vp_in; decide) (r := 31) (by decide) dX1_remember_36 ?_
  refine f_callVv C hl (As := [.ref (B.1 + 31)]) (rest := []) (c_X8_copyFrom l B (zcp (zcp (zcp (zcp (zcp s 25 26 6) 26 27 6) 27 28 6) 28 29 6) 29 30 6) t 30 31 zk_30 zb_30 zk_31 zb_31) zb_30 (zg_8 zk_30) rfl (zCB (nA := 1) C rfl rfl tw_445 tw_9 tw_442 (by decide +kernel) ⟨Nat.le_of_ble_eq_true rfl, Nat.le_of_ble_eq_true rfl⟩) tw_443 tw_444 rfl rfl (Nat.le_of_ble_eq_true rfl) dX1_remember_37 (Nat.zero_le _) ?_
  refine z_iinc C [(1, .int 7), (0, .ref (B.1 + 8))] dX1_remember_40 0 rfl (by decide) (by decide) rfl ?_
  refine z_goto C 14 dX1_remember_43 (by decide) ?_
  refine z_iload_n C dX1_remember_14 0 rfl rfl ?_
  refine z_aload_n C dX1_remember_15 1 rfl rfl ?_
  refine f_get1 C 3 (v := .ref (B.1 + 24)) (by decide) tw_171 rfl zk_8 zb_8 rfl dX1_remember_16 ?_
  refine f_alen27 C (v := 8) zk_24 zb_24 rfl dX1_remember_19 ?_
  refine z_icmp_ge C 46 dX1_remember_20 (by decide) (fun hbr => absurd hbr (by decide)) (fun _ => ?_)
  refine z_aload_n C dX1_remember_23 1 rfl rfl ?_
  refine f_get1 C 3 (v := .ref (B.1 + 24)) (by decide) tw_171 rfl zk_8 zb_8 rfl dX1_remember_24 ?_
  refine z_iload_n C dX1_remember_27 0 rfl rfl ?_
  refine z_iconst C dX1_remember_28 ki_1 ?_
  refine z_isub C dX1_remember_29 ?_
  refine f_topi (y := 6) (by decide) ?_
  refine f_aaldL27 C zk_24 zb_24 (by unfold vp_in; decide) (r := 31) (by decide) dX1_remember_30 ?_
  refine z_aload_n C dX1_remember_31 1 rfl rfl ?_
  refine f_get1 C 3 (v := .ref (B.1 + 24)) (by decide) tw_171 rfl zk_8 zb_8 rfl dX1_remember_32 ?_
  refine z_iload_n C dX1_remember_35 0 rfl rfl ?_
  refine f_aaldL27 C zk_24 zb_24 (by unfold vp_in; decide) (r := 32) (by decide) dX1_remember_36 ?_
  refine f_callVv C hl (As := [.ref (B.1 + 32)]) (rest := []) (c_X8_copyFrom l B (zcp (zcp (zcp (zcp (zcp (zcp s 25 26 6) 26 27 6) 27 28 6) 28 29 6) 29 30 6) 30 31 6) t 31 32 zk_31 zb_31 zk_32 zb_32) zb_31 (zg_8 zk_31) rfl (zCB (nA := 1) C rfl rfl tw_445 tw_9 tw_442 (by decide +kernel) ⟨Nat.le_of_ble_eq_true rfl, Nat.le_of_ble_eq_true rfl⟩) tw_443 tw_444 rfl rfl (Nat.le_of_ble_eq_true rfl) dX1_remember_37 (Nat.zero_le _) ?_
  refine z_iinc C [(1, .int 8), (0, .ref (B.1 + 8))] dX1_remember_40 0 rfl (by decide) (by decide) rfl ?_
  refine z_goto C 14 dX1_remember_43 (by decide) ?_
  refine z_iload_n C dX1_remember_14 0 rfl rfl ?_
  refine z_aload_n C dX1_remember_15 1 rfl rfl ?_
  refine f_get1 C 3 (v := .ref (B.1 + 24)) (by decide) tw_171 rfl zk_8 zb_8 rfl dX1_remember_16 ?_
  refine f_alen27 C (v := 8) zk_24 zb_24 rfl dX1_remember_19 ?_
  refine z_icmp_ge C 46 dX1_remember_20 (by decide) (fun _ => ?_) (fun hbr => absurd (by decide) hbr)
  refine z_aload_n C dX1_remember_46 1 rfl rfl ?_
  refine z_aload_n C dX1_remember_47 1 rfl rfl ?_
  refine f_get1 C 3 (v := .ref (B.1 + 24)) (by decide) tw_171 rfl zk_8 zb_8 rfl dX1_remember_48 ?_
  refine f_alen27 C (v := 8) zk_24 zb_24 rfl dX1_remember_51 ?_
  refine z_iconst C dX1_remember_52 ki_1 ?_
  refine z_isub C dX1_remember_53 ?_
  refine f_topi (y := 7) (by decide) ?_
  refine f_put1_6 C tw_176 zk_8 zb_8 dX1_remember_54 ?_
  refine z_aload_n C dX1_remember_57 1 rfl rfl ?_
  refine f_get1 C 6 (v := .int ((zu (zcp (zcp (zcp (zcp (zcp (zcp (zcp s 25 26 6) 26 27 6) 27 28 6) 28 29 6) 29 30 6) 30 31 6) 31 32 6) 8 6 7) 8 6)) (by decide) tw_176 rfl zk_8 zb_8 rfl dX1_remember_58 ?_
  refine f_topi (y := 7) (by simp [zu, zcp]) ?_
  refine z_if_lt C 102 dX1_remember_61 (by decide) (fun hbr => absurd hbr (by decide)) (fun _ => ?_)
  refine z_aload_n C dX1_remember_64 1 rfl rfl ?_
  refine f_get1 C 6 (v := .int ((zu (zcp (zcp (zcp (zcp (zcp (zcp (zcp s 25 26 6) 26 27 6) 27 28 6) 28 29 6) 29 30 6) 30 31 6) 31 32 6) 8 6 7) 8 6)) (by decide) tw_176 rfl zk_8 zb_8 rfl dX1_remember_65 ?_
  refine f_topi (y := 7) (by simp [zu, zcp]) ?_
  refine z_aload_n C dX1_remember_68 1 rfl rfl ?_
  refine f_get1 C 3 (v := .ref (B.1 + 24)) (by decide) tw_171 rfl zk_8 zb_8 rfl dX1_remember_69 ?_
  refine f_alen27 C (v := 8) zk_24 zb_24 rfl dX1_remember_72 ?_
  refine z_icmp_ge C 102 dX1_remember_73 (by decide) (fun hbr => absurd hbr (by decide)) (fun _ => ?_)
  refine z_aload_n C dX1_remember_76 1 rfl rfl ?_
  refine f_get1 C 3 (v := .ref (B.1 + 24)) (by decide) tw_171 rfl zk_8 zb_8 rfl dX1_remember_77 ?_
  refine z_aload_n C dX1_remember_80 1 rfl rfl ?_
  refine f_get1 C 6 (v := .int ((zu (zcp (zcp (zcp (zcp (zcp (zcp (zcp s 25 26 6) 26 27 6) 27 28 6) 28 29 6) 29 30 6) 30 31 6) 31 32 6) 8 6 7) 8 6)) (by decide) tw_176 rfl zk_8 zb_8 rfl dX1_remember_81 ?_
  refine f_topi (y := 7) (by simp [zu, zcp]) ?_
  refine f_aaldL27 C zk_24 zb_24 (by unfold vp_in; decide) (r := 32) (by decide) dX1_remember_84 ?_
  refine z_aload_n C dX1_remember_85 1 rfl rfl ?_
  refine f_get1 C 0 (v := .ref (B.1 + 9)) (by decide) tw_167 rfl zk_8 zb_8 rfl dX1_remember_86 ?_
  refine f_callVv C hl (As := [.ref (B.1 + 9)]) (rest := []) (c_X8_copyFrom l B (zu (zcp (zcp (zcp (zcp (zcp (zcp (zcp s 25 26 6) 26 27 6) 27 28 6) 28 29 6) 29 30 6) 30 31 6) 31 32 6) 8 6 7) t 32 9 zk_32 zb_32 zk_9 zb_9) zb_32 (zg_8 zk_32) rfl (zCB (nA := 1) C rfl rfl tw_445 tw_9 tw_442 (by decide +kernel) ⟨Nat.le_of_ble_eq_true rfl, Nat.le_of_ble_eq_true rfl⟩) tw_443 tw_444 rfl rfl (Nat.le_of_ble_eq_true rfl) dX1_remember_89 (Nat.zero_le _) ?_
  refine z_aload_n C dX1_remember_92 1 rfl rfl ?_
  refine z_dup C dX1_remember_93 rfl ?_
  refine f_get1 C 6 (v := .int ((zcp (zu (zcp (zcp (zcp (zcp (zcp (zcp (zcp s 25 26 6) 26 27 6) 27 28 6) 28 29 6) 29 30 6) 30 31 6) 31 32 6) 8 6 7) 32 9 6) 8 6)) (by decide) tw_176 rfl zk_8 zb_8 rfl dX1_remember_94 ?_
  refine f_topi (y := 7) (by simp [zu, zcp]) ?_
  refine z_iconst C dX1_remember_97 ki_1 ?_
  refine z_iadd C dX1_remember_98 ?_
  refine f_topi (y := 8) (by decide) ?_
  refine f_put1_6 C tw_176 zk_8 zb_8 dX1_remember_99 ?_
  refine z_vret C E rfl dX1_remember_102 rfl (Nat.le_refl _) ⟨rfl, rfl⟩
abbrev mX1_goBack : zM := (yX1_goBack, cX1_goBack, 1, none, { frames := 1, cells := 0, slots := 0, locals := 21 })
def wBack (s : zS) (n : Nat) : zS := (zcp (zu s 8 6 (nI n)) 9 (25 + n) 6)
set_option maxRecDepth 100000 in
set_option maxHeartbeats 4000000 in
theorem c_X1_goBack (l : Launch) (B : zB) (s : zS) (t : zL) (n : Nat) (hn : n < 8) (hc : s 8 6 = nI (n + 1)) : zD l B mX1_goBack s t [.ref (B.1 + 8)] none (wBack s n) t := by
  refine z_met (by decide) (Nat.le_of_ble_eq_true rfl) ?_
  intro X hl C E hnm
  show Zf X B mX1_goBack s t 0 [(0, .ref (B.1 + 8))] []
  refine z_aload_n C dX1_goBack_0 0 rfl rfl ?_
  refine f_get1 C 6 (v := .int (s 8 6)) (by decide) tw_176 rfl zk_8 zb_8 rfl dX1_goBack_1 ?_
  refine f_topi hc ?_
  refine z_if_le C 45 dX1_goBack_4 (by decide) (fun hbr => absurd hbr (nI_nle (by omega) (by omega))) (fun _ => ?_)
  refine z_aload_n C dX1_goBack_7 0 rfl rfl ?_
  refine f_get1 C 6 (v := .int (s 8 6)) (by decide) tw_176 rfl zk_8 zb_8 rfl dX1_goBack_8 ?_
  refine f_topi hc ?_
  refine z_aload_n C dX1_goBack_11 0 rfl rfl ?_
  refine f_get1 C 3 (v := .ref (B.1 + 24)) (by decide) tw_171 rfl zk_8 zb_8 rfl dX1_goBack_12 ?_
  refine f_alen27 C (v := 8) zk_24 zb_24 rfl dX1_goBack_15 ?_
  refine z_icmp_gt C 45 dX1_goBack_16 (by decide) (fun hbr => absurd hbr (show ¬ nI 8 < nI (n + 1) from nI_nlt (by omega) (by decide))) (fun _ => ?_)
  refine z_aload_n C dX1_goBack_19 0 rfl rfl ?_
  refine z_dup C dX1_goBack_20 rfl ?_
  refine f_get1 C 6 (v := .int (s 8 6)) (by decide) tw_176 rfl zk_8 zb_8 rfl dX1_goBack_21 ?_
  refine f_topi hc ?_
  refine z_iconst C dX1_goBack_24 ki_1 ?_
  refine z_isub C dX1_goBack_25 ?_
  refine f_topi (nI_pred n) ?_
  refine f_put1_6 C tw_176 zk_8 zb_8 dX1_goBack_26 ?_
  refine z_aload_n C dX1_goBack_29 0 rfl rfl ?_
  refine f_get1 C 0 (v := .ref (B.1 + 9)) (by decide) tw_167 rfl zk_8 zb_8 rfl dX1_goBack_30 ?_
  refine z_aload_n C dX1_goBack_33 0 rfl rfl ?_
  refine f_get1 C 3 (v := .ref (B.1 + 24)) (by decide) tw_171 rfl zk_8 zb_8 rfl dX1_goBack_34 ?_
  refine z_aload_n C dX1_goBack_37 0 rfl rfl ?_
  refine f_get1 C 6 (v := .int ((zu s 8 6 (nI n)) 8 6)) (by decide) tw_176 rfl zk_8 zb_8 rfl dX1_goBack_38 ?_
  refine f_topi (zu_same _ _ _ _) ?_
  refine f_aaldL27 C zk_24 zb_24 (vp_in_nI hn (by decide)) (r := (25 + n)) (by rw [nI_clamp (by omega)]) dX1_goBack_41 ?_
  refine f_callVv C hl (As := [.ref (B.1 + (25 + n))]) (rest := []) (c_X8_copyFrom l B (zu s 8 6 (nI n)) t 9 (25 + n) zk_9 zb_9 (zk_pst n hn) (by omega)) zb_9 (zg_8 zk_9) rfl (zCB (nA := 1) C rfl rfl tw_445 tw_9 tw_442 (by decide +kernel) ⟨Nat.le_of_ble_eq_true rfl, Nat.le_of_ble_eq_true rfl⟩) tw_443 tw_444 rfl rfl (Nat.le_of_ble_eq_true rfl) dX1_goBack_42 (Nat.zero_le _) ?_
  refine z_vret C E rfl dX1_goBack_45 rfl (Nat.le_refl _) ⟨rfl, rfl⟩
abbrev mX11_howMany : zM := (yX11_howMany, cX11_howMany, 2, (some .int), { frames := 1, cells := 0, slots := 0, locals := 20 })
set_option maxRecDepth 100000 in
set_option maxHeartbeats 4000000 in
theorem c_X11_howMany0 (l : Launch) (B : zB) (s : zS) (t : zL) (h1 : r8 (s 9 1)) (h2 : r8 (s 9 2)) : zD l B mX11_howMany s t [.ref (B.1 + 0), .int 0] (some (.int (s 8 4))) s t := by
  refine z_met (by decide) (Nat.le_of_ble_eq_true rfl) ?_
  intro X hl C E hnm
  show Zf X B mX11_howMany s t 0 [(0, .ref (B.1 + 0)), (1, .int 0)] []
  refine z_iload_n C dX11_howMany_0 1 rfl rfl ?_
  refine z_tableIn C (off := 43) 44 dX11_howMany_1 (by decide) (by decide) (by decide) (by decide) ?_
  refine z_aload_n C dX11_howMany_44 0 rfl rfl ?_
  refine f_get11 C 1 (v := .ref (B.1 + 8)) (by decide) tw_226 rfl zk_0 zb_0 rfl dX11_howMany_45 ?_
  refine f_get1 C 4 (v := .int (s 8 4)) (by decide) tw_173 rfl zk_8 zb_8 rfl dX11_howMany_48 ?_
  refine z_iret C E rfl dX11_howMany_51 rfl (Nat.le_refl _) ⟨rfl, rfl⟩
set_option maxRecDepth 100000 in
set_option maxHeartbeats 4000000 in
theorem c_X11_howMany1 (l : Launch) (B : zB) (s : zS) (t : zL) (h1 : r8 (s 9 1)) (h2 : r8 (s 9 2)) : zD l B mX11_howMany s t [.ref (B.1 + 0), .int 1] (some (.int (s 9 0))) s t := by
  refine z_met (by decide) (Nat.le_of_ble_eq_true rfl) ?_
  intro X hl C E hnm
  show Zf X B mX11_howMany s t 0 [(0, .ref (B.1 + 0)), (1, .int 1)] []
  refine z_iload_n C dX11_howMany_0 1 rfl rfl ?_
  refine z_tableIn C (off := 51) 52 dX11_howMany_1 (by decide) (by decide) (by decide) (by decide) ?_
  refine z_aload_n C dX11_howMany_52 0 rfl rfl ?_
  refine f_get11 C 1 (v := .ref (B.1 + 8)) (by decide) tw_226 rfl zk_0 zb_0 rfl dX11_howMany_53 ?_
  refine f_get1 C 0 (v := .ref (B.1 + 9)) (by decide) tw_168 rfl zk_8 zb_8 rfl dX11_howMany_56 ?_
  refine f_get8 C 0 (v := .int (s 9 0)) (by decide) tw_84 rfl zk_9 zb_9 rfl dX11_howMany_59 ?_
  refine z_iret C E rfl dX11_howMany_62 rfl (Nat.le_refl _) ⟨rfl, rfl⟩
set_option maxRecDepth 100000 in
set_option maxHeartbeats 4000000 in
theorem c_X11_howMany2 (l : Launch) (B : zB) (s : zS) (t : zL) (h1 : r8 (s 9 1)) (h2 : r8 (s 9 2)) : zD l B mX11_howMany s t [.ref (B.1 + 0), .int 2] (some (.int (wPop (s 9 2)))) s t := by
  refine z_met (by decide) (Nat.le_of_ble_eq_true rfl) ?_
  intro X hl C E hnm
  show Zf X B mX11_howMany s t 0 [(0, .ref (B.1 + 0)), (1, .int 2)] []
  refine z_iload_n C dX11_howMany_0 1 rfl rfl ?_
  refine z_tableIn C (off := 62) 63 dX11_howMany_1 (by decide) (by decide) (by decide) (by decide) ?_
  refine z_aload_n C dX11_howMany_63 0 rfl rfl ?_
  refine f_get11 C 1 (v := .ref (B.1 + 8)) (by decide) tw_226 rfl zk_0 zb_0 rfl dX11_howMany_64 ?_
  refine f_get1 C 0 (v := .ref (B.1 + 9)) (by decide) tw_168 rfl zk_8 zb_8 rfl dX11_howMany_67 ?_
  refine f_get8 C 2 (v := .int (s 9 2)) (by decide) tw_89 rfl zk_9 zb_9 rfl dX11_howMany_70 ?_
  refine f_callSr C hl (As := [.int (s 9 2)]) (rest := []) (c_J6_bitCount_0f7a4 l B s t (s 9 2) h2) (zCB (nA := 1) C rfl rfl tw_486 tw_19 tw_484 (by decide +kernel) ⟨Nat.le_of_ble_eq_true rfl, Nat.le_of_ble_eq_true rfl⟩) tw_485 rfl rfl (Nat.le_of_ble_eq_true rfl) dX11_howMany_73 (Nat.zero_le _) ?_
  refine z_iret C E rfl dX11_howMany_76 rfl (Nat.le_refl _) ⟨rfl, rfl⟩
set_option maxRecDepth 100000 in
set_option maxHeartbeats 4000000 in
theorem c_X11_howMany3 (l : Launch) (B : zB) (s : zS) (t : zL) (h1 : r8 (s 9 1)) (h2 : r8 (s 9 2)) : zD l B mX11_howMany s t [.ref (B.1 + 0), .int 3] (some (.int (wPop (s 9 1)))) s t := by
  refine z_met (by decide) (Nat.le_of_ble_eq_true rfl) ?_
  intro X hl C E hnm
  show Zf X B mX11_howMany s t 0 [(0, .ref (B.1 + 0)), (1, .int 3)] []
  refine z_iload_n C dX11_howMany_0 1 rfl rfl ?_
  refine z_tableIn C (off := 76) 77 dX11_howMany_1 (by decide) (by decide) (by decide) (by decide) ?_
  refine z_aload_n C dX11_howMany_77 0 rfl rfl ?_
  refine f_get11 C 1 (v := .ref (B.1 + 8)) (by decide) tw_226 rfl zk_0 zb_0 rfl dX11_howMany_78 ?_
  refine f_get1 C 0 (v := .ref (B.1 + 9)) (by decide) tw_168 rfl zk_8 zb_8 rfl dX11_howMany_81 ?_
  refine f_get8 C 1 (v := .int (s 9 1)) (by decide) tw_87 rfl zk_9 zb_9 rfl dX11_howMany_84 ?_
  refine f_callSr C hl (As := [.int (s 9 1)]) (rest := []) (c_J6_bitCount_0f7a4 l B s t (s 9 1) h1) (zCB (nA := 1) C rfl rfl tw_486 tw_19 tw_484 (by decide +kernel) ⟨Nat.le_of_ble_eq_true rfl, Nat.le_of_ble_eq_true rfl⟩) tw_485 rfl rfl (Nat.le_of_ble_eq_true rfl) dX11_howMany_87 (Nat.zero_le _) ?_
  refine z_iret C E rfl dX11_howMany_90 rfl (Nat.le_refl _) ⟨rfl, rfl⟩
set_option maxRecDepth 100000 in
set_option maxHeartbeats 4000000 in
theorem c_X11_howMany4 (l : Launch) (B : zB) (s : zS) (t : zL) (h1 : r8 (s 9 1)) (h2 : r8 (s 9 2)) : zD l B mX11_howMany s t [.ref (B.1 + 0), .int 4] (some (.int (s 9 5))) s t := by
  refine z_met (by decide) (Nat.le_of_ble_eq_true rfl) ?_
  intro X hl C E hnm
  show Zf X B mX11_howMany s t 0 [(0, .ref (B.1 + 0)), (1, .int 4)] []
  refine z_iload_n C dX11_howMany_0 1 rfl rfl ?_
  refine z_tableIn C (off := 90) 91 dX11_howMany_1 (by decide) (by decide) (by decide) (by decide) ?_
  refine z_aload_n C dX11_howMany_91 0 rfl rfl ?_
  refine f_get11 C 1 (v := .ref (B.1 + 8)) (by decide) tw_226 rfl zk_0 zb_0 rfl dX11_howMany_92 ?_
  refine f_get1 C 0 (v := .ref (B.1 + 9)) (by decide) tw_168 rfl zk_8 zb_8 rfl dX11_howMany_95 ?_
  refine f_get8 C 5 (v := .int (s 9 5)) (by decide) tw_96 rfl zk_9 zb_9 rfl dX11_howMany_98 ?_
  refine z_iret C E rfl dX11_howMany_101 rfl (Nat.le_refl _) ⟨rfl, rfl⟩
set_option maxRecDepth 100000 in
set_option maxHeartbeats 4000000 in
theorem c_X11_howMany5 (l : Launch) (B : zB) (s : zS) (t : zL) (h1 : r8 (s 9 1)) (h2 : r8 (s 9 2)) : zD l B mX11_howMany s t [.ref (B.1 + 0), .int 5] (some (.int (s 8 5))) s t := by
  refine z_met (by decide) (Nat.le_of_ble_eq_true rfl) ?_
  intro X hl C E hnm
  show Zf X B mX11_howMany s t 0 [(0, .ref (B.1 + 0)), (1, .int 5)] []
  refine z_iload_n C dX11_howMany_0 1 rfl rfl ?_
  refine z_tableIn C (off := 101) 102 dX11_howMany_1 (by decide) (by decide) (by decide) (by decide) ?_
  refine z_aload_n C dX11_howMany_102 0 rfl rfl ?_
  refine f_get11 C 1 (v := .ref (B.1 + 8)) (by decide) tw_226 rfl zk_0 zb_0 rfl dX11_howMany_103 ?_
  refine f_get1 C 5 (v := .int (s 8 5)) (by decide) tw_175 rfl zk_8 zb_8 rfl dX11_howMany_106 ?_
  refine z_iret C E rfl dX11_howMany_109 rfl (Nat.le_refl _) ⟨rfl, rfl⟩
set_option maxRecDepth 100000 in
set_option maxHeartbeats 4000000 in
theorem c_X11_howMany6 (l : Launch) (B : zB) (s : zS) (t : zL) (h1 : r8 (s 9 1)) (h2 : r8 (s 9 2)) : zD l B mX11_howMany s t [.ref (B.1 + 0), .int 6] (some (.int (s 8 6))) s t := by
  refine z_met (by decide) (Nat.le_of_ble_eq_true rfl) ?_
  intro X hl C E hnm
  show Zf X B mX11_howMany s t 0 [(0, .ref (B.1 + 0)), (1, .int 6)] []
  refine z_iload_n C dX11_howMany_0 1 rfl rfl ?_
  refine z_tableIn C (off := 109) 110 dX11_howMany_1 (by decide) (by decide) (by decide) (by decide) ?_
  refine z_aload_n C dX11_howMany_110 0 rfl rfl ?_
  refine f_get11 C 1 (v := .ref (B.1 + 8)) (by decide) tw_226 rfl zk_0 zb_0 rfl dX11_howMany_111 ?_
  refine f_get1 C 6 (v := .int (s 8 6)) (by decide) tw_177 rfl zk_8 zb_8 rfl dX11_howMany_114 ?_
  refine z_iret C E rfl dX11_howMany_117 rfl (Nat.le_refl _) ⟨rfl, rfl⟩
set_option maxRecDepth 100000 in
set_option maxHeartbeats 4000000 in
theorem c_X11_howMany7 (l : Launch) (B : zB) (s : zS) (t : zL) (h1 : r8 (s 9 1)) (h2 : r8 (s 9 2)) : zD l B mX11_howMany s t [.ref (B.1 + 0), .int 7] (some (.int (s 111 1))) s t := by
  refine z_met (by decide) (Nat.le_of_ble_eq_true rfl) ?_
  intro X hl C E hnm
  show Zf X B mX11_howMany s t 0 [(0, .ref (B.1 + 0)), (1, .int 7)] []
  refine z_iload_n C dX11_howMany_0 1 rfl rfl ?_
  refine z_tableOut C 118 dX11_howMany_1 (by decide) (by decide) ?_
  refine z_aload_n C dX11_howMany_118 0 rfl rfl ?_
  refine f_get11 C 6 (v := .ref (B.1 + 111)) (by decide) tw_231 rfl zk_0 zb_0 rfl dX11_howMany_119 ?_
  refine f_get9 C 1 (v := .int (s 111 1)) (by decide) tw_204 rfl zk_111 zb_111 rfl dX11_howMany_122 ?_
  refine z_iret C E rfl dX11_howMany_125 rfl (Nat.le_refl _) ⟨rfl, rfl⟩
/-- count(0) .. count(7) -/
def wHow (s : zS) (w : Nat) : Int32 := [s 8 4, s 9 0, wPop (s 9 2), wPop (s 9 1), s 9 5, s 8 5, s 8 6, s 111 1].getD w 0
theorem c_X11_howMany (l : Launch) (B : zB) (s : zS) (t : zL) (h1 : r8 (s 9 1)) (h2 : r8 (s 9 2)) (w : Nat) (hw : w < 8) : zD l B mX11_howMany s t [.ref (B.1 + 0), .int (nI w)] (some (.int (wHow s w))) s t := by
  rcases (show w = 0 ∨ w = 1 ∨ w = 2 ∨ w = 3 ∨ w = 4 ∨ w = 5 ∨ w = 6 ∨ w = 7 by omega) with rfl | rfl | rfl | rfl | rfl | rfl | rfl | rfl
  · exact c_X11_howMany0 l B s t h1 h2
  · exact c_X11_howMany1 l B s t h1 h2
  · exact c_X11_howMany2 l B s t h1 h2
  · exact c_X11_howMany3 l B s t h1 h2
  · exact c_X11_howMany4 l B s t h1 h2
  · exact c_X11_howMany5 l B s t h1 h2
  · exact c_X11_howMany6 l B s t h1 h2
  · exact c_X11_howMany7 l B s t h1 h2
def d31 (h : Int64) (v : Int32) : Int64 := 31 * h + v.toInt64
def wDD (s : zS) (h : Int64) (d : Nat) : Int64 := d31 (d31 (d31 (d31 (d31 (d31 h (s (11 + d) 0)) (s (11 + d) 1)) (s (11 + d) 2)) (s (11 + d) 3)) (zi (decide (¬ s 9 3 &&& wBit (nI d) = 0)))) (zi (decide (¬ s 9 4 &&& wBit (nI d) = 0)))
def wDN (s : zS) (h : Int64) (d : Nat) : Int64 := d31 (d31 (d31 (d31 h (s (18 + d) 0)) (s (18 + d) 1)) (s (18 + d) 2)) (s (18 + d) 3)
abbrev mX11_deputyIntoDigest : zM := (yX11_deputyIntoDigest, cX11_deputyIntoDigest, 7, (some .long), { frames := 1, cells := 0, slots := 0, locals := 21 })
set_option maxRecDepth 100000 in
set_option maxHeartbeats 4000000 in
theorem c_X11_deputyIntoDigests (l : Launch) (B : zB) (s : zS) (t : zL) (h : Int64) (d : Nat) (hd : d < 6) (hc : nI d < s 8 4) : zD l B mX11_deputyIntoDigest s t [.ref (B.1 + 0), .long h, .int (nI d)] (some (.long (wDD s h d))) s t := by
  refine z_met (by decide) (Nat.le_of_ble_eq_true rfl) ?_
  intro X hl C E hnm
  show Zf X B mX11_deputyIntoDigest s t 0 [(0, .ref (B.1 + 0)), (1, .long h), (3, .int (nI d))] []
  refine z_aload_n C dX11_deputyIntoDigest_0 0 rfl rfl ?_
  refine f_get11 C 1 (v := .ref (B.1 + 8)) (by decide) tw_226 rfl zk_0 zb_0 rfl dX11_deputyIntoDigest_1 ?_
  refine z_iload_n C dX11_deputyIntoDigest_4 2 rfl rfl ?_
  refine f_callVr C hl (As := [.int (nI d)]) (rest := []) (c_X1_deputyAt8s l B s t d hd (nI d) rfl hc) zb_8 (zg_1 zk_8) rfl (zCB (nA := 1) C rfl rfl tw_424 tw_8 tw_474 (by decide +kernel) ⟨Nat.le_of_ble_eq_true rfl, Nat.le_of_ble_eq_true rfl⟩) tw_422 tw_423 rfl rfl (Nat.le_of_ble_eq_true rfl) dX11_deputyIntoDigest_5 (Nat.zero_le _) ?_
  refine z_astore C [(4, .ref (B.1 + (11 + d))), (0, .ref (B.1 + 0)), (1, .long h), (3, .int (nI d))] dX11_deputyIntoDigest_8 (by decide) rfl ?_
  refine z_aload C dX11_deputyIntoDigest_10 0 rfl ?_
  refine z_ifnonnull C 17 dX11_deputyIntoDigest_12 (by decide) ?_
  refine z_ldc2 C dX11_deputyIntoDigest_17 tw_726 ?_
  refine z_lload_n C dX11_deputyIntoDigest_20 2 rfl rfl ?_
  refine z_lmul C dX11_deputyIntoDigest_21 ?_
  refine z_aload C dX11_deputyIntoDigest_22 0 rfl ?_
  refine f_get0 C 0 (v := .int (s (11 + d) 0)) (by decide) tw_119 rfl (zk_dep d hd) (by omega) rfl dX11_deputyIntoDigest_24 ?_
  refine z_i2l C dX11_deputyIntoDigest_27 ?_
  refine z_ladd C dX11_deputyIntoDigest_28 ?_
  refine z_lstore C [(5, .long ((31 * h) + ((s (11 + d) 0 : Int32).toInt64))), (4, .ref (B.1 + (11 + d))), (0, .ref (B.1 + 0)), (1, .long h), (3, .int (nI d))] dX11_deputyIntoDigest_29 (by decide) rfl ?_
  refine z_ldc2 C dX11_deputyIntoDigest_31 tw_726 ?_
  refine z_lload C dX11_deputyIntoDigest_34 0 rfl ?_
  refine z_lmul C dX11_deputyIntoDigest_36 ?_
  refine z_aload C dX11_deputyIntoDigest_37 1 rfl ?_
  refine f_get0 C 1 (v := .int (s (11 + d) 1)) (by decide) tw_122 rfl (zk_dep d hd) (by omega) rfl dX11_deputyIntoDigest_39 ?_
  refine z_i2l C dX11_deputyIntoDigest_42 ?_
  refine z_ladd C dX11_deputyIntoDigest_43 ?_
  refine z_lstore C [(5, .long ((31 * ((31 * h) + ((s (11 + d) 0 : Int32).toInt64))) + ((s (11 + d) 1 : Int32).toInt64))), (4, .ref (B.1 + (11 + d))), (0, .ref (B.1 + 0)), (1, .long h), (3, .int (nI d))] dX11_deputyIntoDigest_44 (by decide) rfl ?_
  refine z_ldc2 C dX11_deputyIntoDigest_46 tw_726 ?_
  refine z_lload C dX11_deputyIntoDigest_49 0 rfl ?_
  refine z_lmul C dX11_deputyIntoDigest_51 ?_
  refine z_aload C dX11_deputyIntoDigest_52 1 rfl ?_
  refine f_get0 C 2 (v := .int (s (11 + d) 2)) (by decide) tw_125 rfl (zk_dep d hd) (by omega) rfl dX11_deputyIntoDigest_54 ?_
  refine z_i2l C dX11_deputyIntoDigest_57 ?_
  refine z_ladd C dX11_deputyIntoDigest_58 ?_
  refine z_lstore C [(5, .long ((31 * ((31 * ((31 * h) + ((s (11 + d) 0 : Int32).toInt64))) + ((s (11 + d) 1 : Int32).toInt64))) + ((s (11 + d) 2 : Int32).toInt64))), (4, .ref (B.1 + (11 + d))), (0, .ref (B.1 + 0)), (1, .long h), (3, .int (nI d))] dX11_deputyIntoDigest_59 (by decide) rfl ?_
  refine z_ldc2 C dX11_deputyIntoDigest_61 tw_726 ?_
  refine z_lload C dX11_deputyIntoDigest_64 0 rfl ?_
  refine z_lmul C dX11_deputyIntoDigest_66 ?_
  refine z_aload C dX11_deputyIntoDigest_67 1 rfl ?_
  refine f_get0 C 3 (v := .int (s (11 + d) 3)) (by decide) tw_128 rfl (zk_dep d hd) (by omega) rfl dX11_deputyIntoDigest_69 ?_
  refine z_i2l C dX11_deputyIntoDigest_72 ?_
  refine z_ladd C dX11_deputyIntoDigest_73 ?_
  refine z_lstore C [(5, .long ((31 * ((31 * ((31 * ((31 * h) + ((s (11 + d) 0 : Int32).toInt64))) + ((s (11 + d) 1 : Int32).toInt64))) + ((s (11 + d) 2 : Int32).toInt64))) + ((s (11 + d) 3 : Int32).toInt64))), (4, .ref (B.1 + (11 + d))), (0, .ref (B.1 + 0)), (1, .long h), (3, .int (nI d))] dX11_deputyIntoDigest_74 (by decide) rfl ?_
  refine z_ldc2 C dX11_deputyIntoDigest_76 tw_726 ?_
  refine z_lload C dX11_deputyIntoDigest_79 0 rfl ?_
  refine z_lmul C dX11_deputyIntoDigest_81 ?_
  refine z_aload_n C dX11_deputyIntoDigest_82 2 rfl rfl ?_
  refine f_get11 C 1 (v := .ref (B.1 + 8)) (by decide) tw_226 rfl zk_0 zb_0 rfl dX11_deputyIntoDigest_83 ?_
  refine f_get1 C 0 (v := .ref (B.1 + 9)) (by decide) tw_168 rfl zk_8 zb_8 rfl dX11_deputyIntoDigest_86 ?_
  refine f_get8 C 3 (v := .int (s 9 3)) (by decide) tw_92 rfl zk_9 zb_9 rfl dX11_deputyIntoDigest_89 ?_
  refine z_iload_n C dX11_deputyIntoDigest_92 4 rfl rfl ?_
  refine f_callSr C hl (As := [.int (nI d)]) (rest := [.int (s 9 3), .long (31 * ((31 * ((31 * ((31 * ((31 * h) + ((s (11 + d) 0 : Int32).toInt64))) + ((s (11 + d) 1 : Int32).toInt64))) + ((s (11 + d) 2 : Int32).toInt64))) + ((s (11 + d) 3 : Int32).toInt64)))]) (c_X11_bitOf l B s t (nI d)) (zCB (nA := 1) C rfl rfl tw_431 tw_1 tw_475 (by decide +kernel) ⟨Nat.le_of_ble_eq_true rfl, Nat.le_of_ble_eq_true rfl⟩) tw_430 rfl rfl (Nat.le_of_ble_eq_true rfl) dX11_deputyIntoDigest_93 (Nat.zero_le _) ?_
  refine z_iand C dX11_deputyIntoDigest_96 ?_
  refine z_if_eq C 104 dX11_deputyIntoDigest_97 (by decide) (fun h97 => ?_) (fun h97 => ?_)
  · refine z_iconst C dX11_deputyIntoDigest_104 ki_0 ?_
    refine f_callSr C hl (As := [.int 0]) (rest := [.long (31 * ((31 * ((31 * ((31 * ((31 * h) + ((s (11 + d) 0 : Int32).toInt64))) + ((s (11 + d) 1 : Int32).toInt64))) + ((s (11 + d) 2 : Int32).toInt64))) + ((s (11 + d) 3 : Int32).toInt64)))]) (c_X11_oneIf l B s t false) (zCB (nA := 1) C rfl rfl tw_576 tw_1 tw_574 (by decide +kernel) ⟨Nat.le_of_ble_eq_true rfl, Nat.le_of_ble_eq_true rfl⟩) tw_575 rfl rfl (Nat.le_of_ble_eq_true rfl) dX11_deputyIntoDigest_105 (Nat.zero_le _) ?_
    refine z_i2l C dX11_deputyIntoDigest_108 ?_
    refine z_ladd C dX11_deputyIntoDigest_109 ?_
    refine z_lstore C [(5, .long ((31 * ((31 * ((31 * ((31 * ((31 * h) + ((s (11 + d) 0 : Int32).toInt64))) + ((s (11 + d) 1 : Int32).toInt64))) + ((s (11 + d) 2 : Int32).toInt64))) + ((s (11 + d) 3 : Int32).toInt64))) + ((zi false : Int32).toInt64))), (4, .ref (B.1 + (11 + d))), (0, .ref (B.1 + 0)), (1, .long h), (3, .int (nI d))] dX11_deputyIntoDigest_110 (by decide) rfl ?_
    refine z_ldc2 C dX11_deputyIntoDigest_112 tw_726 ?_
    refine z_lload C dX11_deputyIntoDigest_115 0 rfl ?_
    refine z_lmul C dX11_deputyIntoDigest_117 ?_
    refine z_aload_n C dX11_deputyIntoDigest_118 2 rfl rfl ?_
    refine f_get11 C 1 (v := .ref (B.1 + 8)) (by decide) tw_226 rfl zk_0 zb_0 rfl dX11_deputyIntoDigest_119 ?_
    refine f_get1 C 0 (v := .ref (B.1 + 9)) (by decide) tw_168 rfl zk_8 zb_8 rfl dX11_deputyIntoDigest_122 ?_
    refine f_get8 C 4 (v := .int (s 9 4)) (by decide) tw_94 rfl zk_9 zb_9 rfl dX11_deputyIntoDigest_125 ?_
    refine z_iload_n C dX11_deputyIntoDigest_128 4 rfl rfl ?_
    refine f_callSr C hl (As := [.int (nI d)]) (rest := [.int (s 9 4), .long (31 * ((31 * ((31 * ((31 * ((31 * ((31 * h) + ((s (11 + d) 0 : Int32).toInt64))) + ((s (11 + d) 1 : Int32).toInt64))) + ((s (11 + d) 2 : Int32).toInt64))) + ((s (11 + d) 3 : Int32).toInt64))) + ((zi false : Int32).toInt64)))]) (c_X11_bitOf l B s t (nI d)) (zCB (nA := 1) C rfl rfl tw_431 tw_1 tw_475 (by decide +kernel) ⟨Nat.le_of_ble_eq_true rfl, Nat.le_of_ble_eq_true rfl⟩) tw_430 rfl rfl (Nat.le_of_ble_eq_true rfl) dX11_deputyIntoDigest_129 (Nat.zero_le _) ?_
    refine z_iand C dX11_deputyIntoDigest_132 ?_
    refine z_if_eq C 140 dX11_deputyIntoDigest_133 (by decide) (fun h133 => ?_) (fun h133 => ?_)
    · refine z_iconst C dX11_deputyIntoDigest_140 ki_0 ?_
      refine f_callSr C hl (As := [.int 0]) (rest := [.long (31 * ((31 * ((31 * ((31 * ((31 * ((31 * h) + ((s (11 + d) 0 : Int32).toInt64))) + ((s (11 + d) 1 : Int32).toInt64))) + ((s (11 + d) 2 : Int32).toInt64))) + ((s (11 + d) 3 : Int32).toInt64))) + ((zi false : Int32).toInt64)))]) (c_X11_oneIf l B s t false) (zCB (nA := 1) C rfl rfl tw_576 tw_1 tw_574 (by decide +kernel) ⟨Nat.le_of_ble_eq_true rfl, Nat.le_of_ble_eq_true rfl⟩) tw_575 rfl rfl (Nat.le_of_ble_eq_true rfl) dX11_deputyIntoDigest_141 (Nat.zero_le _) ?_
      refine z_i2l C dX11_deputyIntoDigest_144 ?_
      refine z_ladd C dX11_deputyIntoDigest_145 ?_
      refine z_lret C E rfl dX11_deputyIntoDigest_146 rfl (Nat.le_refl _) ⟨by simp only [wDD, wDN, d31, h97, h133, not_true_eq_false, not_false_eq_true, decide_true, decide_false], rfl⟩
    · refine z_iconst C dX11_deputyIntoDigest_136 ki_1 ?_
      refine z_goto C 141 dX11_deputyIntoDigest_137 (by decide) ?_
      refine f_callSr C hl (As := [.int 1]) (rest := [.long (31 * ((31 * ((31 * ((31 * ((31 * ((31 * h) + ((s (11 + d) 0 : Int32).toInt64))) + ((s (11 + d) 1 : Int32).toInt64))) + ((s (11 + d) 2 : Int32).toInt64))) + ((s (11 + d) 3 : Int32).toInt64))) + ((zi false : Int32).toInt64)))]) (c_X11_oneIf l B s t true) (zCB (nA := 1) C rfl rfl tw_576 tw_1 tw_574 (by decide +kernel) ⟨Nat.le_of_ble_eq_true rfl, Nat.le_of_ble_eq_true rfl⟩) tw_575 rfl rfl (Nat.le_of_ble_eq_true rfl) dX11_deputyIntoDigest_141 (Nat.zero_le _) ?_
      refine z_i2l C dX11_deputyIntoDigest_144 ?_
      refine z_ladd C dX11_deputyIntoDigest_145 ?_
      refine z_lret C E rfl dX11_deputyIntoDigest_146 rfl (Nat.le_refl _) ⟨by simp only [wDD, wDN, d31, h97, h133, not_true_eq_false, not_false_eq_true, decide_true, decide_false], rfl⟩
  · refine z_iconst C dX11_deputyIntoDigest_100 ki_1 ?_
    refine z_goto C 105 dX11_deputyIntoDigest_101 (by decide) ?_
    refine f_callSr C hl (As := [.int 1]) (rest := [.long (31 * ((31 * ((31 * ((31 * ((31 * h) + ((s (11 + d) 0 : Int32).toInt64))) + ((s (11 + d) 1 : Int32).toInt64))) + ((s (11 + d) 2 : Int32).toInt64))) + ((s (11 + d) 3 : Int32).toInt64)))]) (c_X11_oneIf l B s t true) (zCB (nA := 1) C rfl rfl tw_576 tw_1 tw_574 (by decide +kernel) ⟨Nat.le_of_ble_eq_true rfl, Nat.le_of_ble_eq_true rfl⟩) tw_575 rfl rfl (Nat.le_of_ble_eq_true rfl) dX11_deputyIntoDigest_105 (Nat.zero_le _) ?_
    refine z_i2l C dX11_deputyIntoDigest_108 ?_
    refine z_ladd C dX11_deputyIntoDigest_109 ?_
    refine z_lstore C [(5, .long ((31 * ((31 * ((31 * ((31 * ((31 * h) + ((s (11 + d) 0 : Int32).toInt64))) + ((s (11 + d) 1 : Int32).toInt64))) + ((s (11 + d) 2 : Int32).toInt64))) + ((s (11 + d) 3 : Int32).toInt64))) + ((zi true : Int32).toInt64))), (4, .ref (B.1 + (11 + d))), (0, .ref (B.1 + 0)), (1, .long h), (3, .int (nI d))] dX11_deputyIntoDigest_110 (by decide) rfl ?_
    refine z_ldc2 C dX11_deputyIntoDigest_112 tw_726 ?_
    refine z_lload C dX11_deputyIntoDigest_115 0 rfl ?_
    refine z_lmul C dX11_deputyIntoDigest_117 ?_
    refine z_aload_n C dX11_deputyIntoDigest_118 2 rfl rfl ?_
    refine f_get11 C 1 (v := .ref (B.1 + 8)) (by decide) tw_226 rfl zk_0 zb_0 rfl dX11_deputyIntoDigest_119 ?_
    refine f_get1 C 0 (v := .ref (B.1 + 9)) (by decide) tw_168 rfl zk_8 zb_8 rfl dX11_deputyIntoDigest_122 ?_
    refine f_get8 C 4 (v := .int (s 9 4)) (by decide) tw_94 rfl zk_9 zb_9 rfl dX11_deputyIntoDigest_125 ?_
    refine z_iload_n C dX11_deputyIntoDigest_128 4 rfl rfl ?_
    refine f_callSr C hl (As := [.int (nI d)]) (rest := [.int (s 9 4), .long (31 * ((31 * ((31 * ((31 * ((31 * ((31 * h) + ((s (11 + d) 0 : Int32).toInt64))) + ((s (11 + d) 1 : Int32).toInt64))) + ((s (11 + d) 2 : Int32).toInt64))) + ((s (11 + d) 3 : Int32).toInt64))) + ((zi true : Int32).toInt64)))]) (c_X11_bitOf l B s t (nI d)) (zCB (nA := 1) C rfl rfl tw_431 tw_1 tw_475 (by decide +kernel) ⟨Nat.le_of_ble_eq_true rfl, Nat.le_of_ble_eq_true rfl⟩) tw_430 rfl rfl (Nat.le_of_ble_eq_true rfl) dX11_deputyIntoDigest_129 (Nat.zero_le _) ?_
    refine z_iand C dX11_deputyIntoDigest_132 ?_
    refine z_if_eq C 140 dX11_deputyIntoDigest_133 (by decide) (fun h133 => ?_) (fun h133 => ?_)
    · refine z_iconst C dX11_deputyIntoDigest_140 ki_0 ?_
      refine f_callSr C hl (As := [.int 0]) (rest := [.long (31 * ((31 * ((31 * ((31 * ((31 * ((31 * h) + ((s (11 + d) 0 : Int32).toInt64))) + ((s (11 + d) 1 : Int32).toInt64))) + ((s (11 + d) 2 : Int32).toInt64))) + ((s (11 + d) 3 : Int32).toInt64))) + ((zi true : Int32).toInt64)))]) (c_X11_oneIf l B s t false) (zCB (nA := 1) C rfl rfl tw_576 tw_1 tw_574 (by decide +kernel) ⟨Nat.le_of_ble_eq_true rfl, Nat.le_of_ble_eq_true rfl⟩) tw_575 rfl rfl (Nat.le_of_ble_eq_true rfl) dX11_deputyIntoDigest_141 (Nat.zero_le _) ?_
      refine z_i2l C dX11_deputyIntoDigest_144 ?_
      refine z_ladd C dX11_deputyIntoDigest_145 ?_
      refine z_lret C E rfl dX11_deputyIntoDigest_146 rfl (Nat.le_refl _) ⟨by simp only [wDD, wDN, d31, h97, h133, not_true_eq_false, not_false_eq_true, decide_true, decide_false], rfl⟩
    · refine z_iconst C dX11_deputyIntoDigest_136 ki_1 ?_
      refine z_goto C 141 dX11_deputyIntoDigest_137 (by decide) ?_
      refine f_callSr C hl (As := [.int 1]) (rest := [.long (31 * ((31 * ((31 * ((31 * ((31 * ((31 * h) + ((s (11 + d) 0 : Int32).toInt64))) + ((s (11 + d) 1 : Int32).toInt64))) + ((s (11 + d) 2 : Int32).toInt64))) + ((s (11 + d) 3 : Int32).toInt64))) + ((zi true : Int32).toInt64)))]) (c_X11_oneIf l B s t true) (zCB (nA := 1) C rfl rfl tw_576 tw_1 tw_574 (by decide +kernel) ⟨Nat.le_of_ble_eq_true rfl, Nat.le_of_ble_eq_true rfl⟩) tw_575 rfl rfl (Nat.le_of_ble_eq_true rfl) dX11_deputyIntoDigest_141 (Nat.zero_le _) ?_
      refine z_i2l C dX11_deputyIntoDigest_144 ?_
      refine z_ladd C dX11_deputyIntoDigest_145 ?_
      refine z_lret C E rfl dX11_deputyIntoDigest_146 rfl (Nat.le_refl _) ⟨by simp only [wDD, wDN, d31, h97, h133, not_true_eq_false, not_false_eq_true, decide_true, decide_false], rfl⟩
set_option maxRecDepth 100000 in
set_option maxHeartbeats 4000000 in
theorem c_X11_deputyIntoDigestn (l : Launch) (B : zB) (s : zS) (t : zL) (h : Int64) (x : Int32) (hc : x < 0 ∨ s 8 4 ≤ x) : zD l B mX11_deputyIntoDigest s t [.ref (B.1 + 0), .long h, .int x] (some (.long h)) s t := by
  refine z_met (by decide) (Nat.le_of_ble_eq_true rfl) ?_
  intro X hl C E hnm
  show Zf X B mX11_deputyIntoDigest s t 0 [(0, .ref (B.1 + 0)), (1, .long h), (3, .int x)] []
  refine z_aload_n C dX11_deputyIntoDigest_0 0 rfl rfl ?_
  refine f_get11 C 1 (v := .ref (B.1 + 8)) (by decide) tw_226 rfl zk_0 zb_0 rfl dX11_deputyIntoDigest_1 ?_
  refine z_iload_n C dX11_deputyIntoDigest_4 2 rfl rfl ?_
  refine f_callVr C hl (As := [.int x]) (rest := []) (c_X1_deputyAt8n l B s t x hc) zb_8 (zg_1 zk_8) rfl (zCB (nA := 1) C rfl rfl tw_424 tw_8 tw_474 (by decide +kernel) ⟨Nat.le_of_ble_eq_true rfl, Nat.le_of_ble_eq_true rfl⟩) tw_422 tw_423 rfl rfl (Nat.le_of_ble_eq_true rfl) dX11_deputyIntoDigest_5 (Nat.zero_le _) ?_
  refine z_astoreN C [(4, .null), (0, .ref (B.1 + 0)), (1, .long h), (3, .int x)] dX11_deputyIntoDigest_8 (by decide) rfl ?_
  refine z_aloadN C dX11_deputyIntoDigest_10 0 rfl ?_
  refine z_ifnonnullN C dX11_deputyIntoDigest_12 ?_
  refine z_lload_n C dX11_deputyIntoDigest_15 2 rfl rfl ?_
  refine z_lret C E rfl dX11_deputyIntoDigest_16 rfl (Nat.le_refl _) ⟨rfl, rfl⟩
abbrev mX11_noteIntoDigest : zM := (yX11_noteIntoDigest, cX11_noteIntoDigest, 7, (some .long), { frames := 1, cells := 0, slots := 0, locals := 21 })
set_option maxRecDepth 100000 in
set_option maxHeartbeats 4000000 in
theorem c_X11_noteIntoDigests (l : Launch) (B : zB) (s : zS) (t : zL) (h : Int64) (d : Nat) (hd : d < 6) (hc : nI d < s 8 5) : zD l B mX11_noteIntoDigest s t [.ref (B.1 + 0), .long h, .int (nI d)] (some (.long (wDN s h d))) s t := by
  refine z_met (by decide) (Nat.le_of_ble_eq_true rfl) ?_
  intro X hl C E hnm
  show Zf X B mX11_noteIntoDigest s t 0 [(0, .ref (B.1 + 0)), (1, .long h), (3, .int (nI d))] []
  refine z_aload_n C dX11_noteIntoDigest_0 0 rfl rfl ?_
  refine f_get11 C 1 (v := .ref (B.1 + 8)) (by decide) tw_226 rfl zk_0 zb_0 rfl dX11_noteIntoDigest_1 ?_
  refine z_iload_n C dX11_noteIntoDigest_4 2 rfl rfl ?_
  refine f_callVr C hl (As := [.int (nI d)]) (rest := []) (c_X1_noteAt8s l B s t d hd (nI d) rfl hc) zb_8 (zg_1 zk_8) rfl (zCB (nA := 1) C rfl rfl tw_668 tw_8 tw_665 (by decide +kernel) ⟨Nat.le_of_ble_eq_true rfl, Nat.le_of_ble_eq_true rfl⟩) tw_666 tw_667 rfl rfl (Nat.le_of_ble_eq_true rfl) dX11_noteIntoDigest_5 (Nat.zero_le _) ?_
  refine z_astore C [(4, .ref (B.1 + (18 + d))), (0, .ref (B.1 + 0)), (1, .long h), (3, .int (nI d))] dX11_noteIntoDigest_8 (by decide) rfl ?_
  refine z_aload C dX11_noteIntoDigest_10 0 rfl ?_
  refine z_ifnonnull C 17 dX11_noteIntoDigest_12 (by decide) ?_
  refine z_ldc2 C dX11_noteIntoDigest_17 tw_726 ?_
  refine z_lload_n C dX11_noteIntoDigest_20 2 rfl rfl ?_
  refine z_lmul C dX11_noteIntoDigest_21 ?_
  refine z_aload C dX11_noteIntoDigest_22 0 rfl ?_
  refine f_get4 C 0 (v := .int (s (18 + d) 0)) (by decide) tw_147 rfl (zk_not d hd) (by omega) rfl dX11_noteIntoDigest_24 ?_
  refine z_i2l C dX11_noteIntoDigest_27 ?_
  refine z_ladd C dX11_noteIntoDigest_28 ?_
  refine z_lstore C [(5, .long ((31 * h) + ((s (18 + d) 0 : Int32).toInt64))), (4, .ref (B.1 + (18 + d))), (0, .ref (B.1 + 0)), (1, .long h), (3, .int (nI d))] dX11_noteIntoDigest_29 (by decide) rfl ?_
  refine z_ldc2 C dX11_noteIntoDigest_31 tw_726 ?_
  refine z_lload C dX11_noteIntoDigest_34 0 rfl ?_
  refine z_lmul C dX11_noteIntoDigest_36 ?_
  refine z_aload C dX11_noteIntoDigest_37 1 rfl ?_
  refine f_get4 C 1 (v := .int (s (18 + d) 1)) (by decide) tw_150 rfl (zk_not d hd) (by omega) rfl dX11_noteIntoDigest_39 ?_
  refine z_i2l C dX11_noteIntoDigest_42 ?_
  refine z_ladd C dX11_noteIntoDigest_43 ?_
  refine z_lstore C [(5, .long ((31 * ((31 * h) + ((s (18 + d) 0 : Int32).toInt64))) + ((s (18 + d) 1 : Int32).toInt64))), (4, .ref (B.1 + (18 + d))), (0, .ref (B.1 + 0)), (1, .long h), (3, .int (nI d))] dX11_noteIntoDigest_44 (by decide) rfl ?_
  refine z_ldc2 C dX11_noteIntoDigest_46 tw_726 ?_
  refine z_lload C dX11_noteIntoDigest_49 0 rfl ?_
  refine z_lmul C dX11_noteIntoDigest_51 ?_
  refine z_aload C dX11_noteIntoDigest_52 1 rfl ?_
  refine f_get4 C 2 (v := .int (s (18 + d) 2)) (by decide) tw_153 rfl (zk_not d hd) (by omega) rfl dX11_noteIntoDigest_54 ?_
  refine z_i2l C dX11_noteIntoDigest_57 ?_
  refine z_ladd C dX11_noteIntoDigest_58 ?_
  refine z_lstore C [(5, .long ((31 * ((31 * ((31 * h) + ((s (18 + d) 0 : Int32).toInt64))) + ((s (18 + d) 1 : Int32).toInt64))) + ((s (18 + d) 2 : Int32).toInt64))), (4, .ref (B.1 + (18 + d))), (0, .ref (B.1 + 0)), (1, .long h), (3, .int (nI d))] dX11_noteIntoDigest_59 (by decide) rfl ?_
  refine z_ldc2 C dX11_noteIntoDigest_61 tw_726 ?_
  refine z_lload C dX11_noteIntoDigest_64 0 rfl ?_
  refine z_lmul C dX11_noteIntoDigest_66 ?_
  refine z_aload C dX11_noteIntoDigest_67 1 rfl ?_
  refine f_get4 C 3 (v := .int (s (18 + d) 3)) (by decide) tw_156 rfl (zk_not d hd) (by omega) rfl dX11_noteIntoDigest_69 ?_
  refine z_i2l C dX11_noteIntoDigest_72 ?_
  refine z_ladd C dX11_noteIntoDigest_73 ?_
  refine z_lret C E rfl dX11_noteIntoDigest_74 rfl (Nat.le_refl _) ⟨by simp only [wDD, wDN, d31, not_true_eq_false, not_false_eq_true, decide_true, decide_false], rfl⟩
set_option maxRecDepth 100000 in
set_option maxHeartbeats 4000000 in
theorem c_X11_noteIntoDigestn (l : Launch) (B : zB) (s : zS) (t : zL) (h : Int64) (x : Int32) (hc : x < 0 ∨ s 8 5 ≤ x) : zD l B mX11_noteIntoDigest s t [.ref (B.1 + 0), .long h, .int x] (some (.long h)) s t := by
  refine z_met (by decide) (Nat.le_of_ble_eq_true rfl) ?_
  intro X hl C E hnm
  show Zf X B mX11_noteIntoDigest s t 0 [(0, .ref (B.1 + 0)), (1, .long h), (3, .int x)] []
  refine z_aload_n C dX11_noteIntoDigest_0 0 rfl rfl ?_
  refine f_get11 C 1 (v := .ref (B.1 + 8)) (by decide) tw_226 rfl zk_0 zb_0 rfl dX11_noteIntoDigest_1 ?_
  refine z_iload_n C dX11_noteIntoDigest_4 2 rfl rfl ?_
  refine f_callVr C hl (As := [.int x]) (rest := []) (c_X1_noteAt8n l B s t x hc) zb_8 (zg_1 zk_8) rfl (zCB (nA := 1) C rfl rfl tw_668 tw_8 tw_665 (by decide +kernel) ⟨Nat.le_of_ble_eq_true rfl, Nat.le_of_ble_eq_true rfl⟩) tw_666 tw_667 rfl rfl (Nat.le_of_ble_eq_true rfl) dX11_noteIntoDigest_5 (Nat.zero_le _) ?_
  refine z_astoreN C [(4, .null), (0, .ref (B.1 + 0)), (1, .long h), (3, .int x)] dX11_noteIntoDigest_8 (by decide) rfl ?_
  refine z_aloadN C dX11_noteIntoDigest_10 0 rfl ?_
  refine z_ifnonnullN C dX11_noteIntoDigest_12 ?_
  refine z_lload_n C dX11_noteIntoDigest_15 2 rfl rfl ?_
  refine z_lret C E rfl dX11_noteIntoDigest_16 rfl (Nat.le_refl _) ⟨rfl, rfl⟩
