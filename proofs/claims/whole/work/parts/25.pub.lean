/-- what a house remembers -/
def wRmb (s : zS) (p : Nat) : zS := if p = 8 then wRem8 s else wRem s p
theorem c_X1_remember (l : Launch) (B : zB) (s : zS) (t : zL) (p : Nat) (hp : p ≤ 8) (hc : s 8 6 = nI p) : zD l B mX1_remember s t [.ref (B.1 + 8)] none (wRmb s p) t := by
  unfold wRmb
  split
  · next h => subst h; exact c_X1_rememberB l B s t hc
  · next h => exact c_X1_rememberA l B s t p (by omega) hc
theorem wRmb_row {s : zS} {p k : Nat} (hp : p ≤ 8) (h8 : k ≠ 8) (hk : k < 25 ∨ 33 ≤ k) : wRmb s p k = s k := by
  funext j
  unfold wRmb
  split
  · simp only [wRem8, zu, zcp]
    repeat (rw [if_neg (by omega)])
  · simp only [wRem, zu, zcp]
    repeat (rw [if_neg (by omega)])
theorem wRmb_8 {s : zS} {p j : Nat} (hp : p ≤ 8) (hj : j ≠ 6) : wRmb s p 8 j = s 8 j := by
  unfold wRmb
  split
  · simp only [wRem8, zu, zcp]
    repeat (rw [if_neg (by omega)])
  · simp only [wRem, zu, zcp]
    repeat (rw [if_neg (by omega)])
theorem wIn_out {x b : Int32} (h : wIn x b = false) : x < 0 ∨ b < x := by
  unfold wIn at h
  have h := of_decide_eq_false h
  rcases Classical.em (x < 0) with q | q
  · exact Or.inl q
  · exact Or.inr (Classical.byContradiction fun z => h ⟨q, z⟩)
theorem wIn_in {x b : Int32} {n : Nat} (hb : b.toInt = n) (h : wIn x b = true) : ∃ j : Nat, j ≤ n ∧ x = nI j := by
  unfold wIn at h
  have h := of_decide_eq_true h
  exact nI_of2 hb h.1 (Int32.not_lt.mp h.2)
theorem wIn_nI {j n : Nat} (h : j ≤ n) (hn : n < 2 ^ 31) : wIn (nI j) (nI n) = true := decide_eq_true ⟨nI_pos (by omega), nI_nlt h (by omega)⟩
theorem wIn_r8 {x : Int32} (h : wIn x 255 = true) : r8 x := by
  obtain ⟨j, hj, rfl⟩ := wIn_in (n := 255) (by decide) h
  exact r8_of (by omega)
abbrev mX11_house : zM := (yX11_house, cX11_house, 3, (some .int), { frames := 2, cells := 0, slots := 0, locals := 42 })
set_option maxRecDepth 100000 in
set_option maxHeartbeats 4000000 in
theorem c_X11_house_ok (l : Launch) (B : zB) (s : zS) (t : zL) (a : Int32) (h : wIn a 99 = true) : zD l B mX11_house s t [.ref (B.1 + 0), .int a] (some (.int (s 8 4))) (wStart8 s a) t := by
  refine z_met (by decide) (Nat.le_of_ble_eq_true rfl) ?_
  intro X hl C E hnm
  show Zf X B mX11_house s t 0 [(0, .ref (B.1 + 0)), (1, .int a)] []
  refine z_iload_n C dX11_house_0 1 rfl rfl ?_
  refine z_bipush C dX11_house_1 kb_99 ?_
  refine f_callSr C hl (As := [.int a, .int 99]) (rest := []) (c_X11_within l B s t a 99) (zCB (nA := 2) C rfl rfl tw_268 tw_1 tw_266 (by decide +kernel) ⟨Nat.le_of_ble_eq_true rfl, Nat.le_of_ble_eq_true rfl⟩) tw_267 rfl rfl (Nat.le_of_ble_eq_true rfl) dX11_house_3 (Nat.zero_le _) ?_
  refine z_ifb_ne C 16 dX11_house_6 (by decide) (fun _ => ?_) (fun hbr => Bool.noConfusion (show false = true from hbr.symm.trans h))
  refine z_aload_n C dX11_house_16 0 rfl rfl ?_
  refine f_get11 C 1 (v := .ref (B.1 + 8)) (by decide) tw_226 rfl zk_0 zb_0 rfl dX11_house_17 ?_
  refine f_get1 C 4 (v := .int (s 8 4)) (by decide) tw_173 rfl zk_8 zb_8 rfl dX11_house_20 ?_
  refine z_istore_n C [(2, .int (s 8 4)), (0, .ref (B.1 + 0)), (1, .int a)] dX11_house_23 rfl (by decide) rfl ?_
  refine z_aload_n C dX11_house_24 1 rfl rfl ?_
  refine f_get11 C 1 (v := .ref (B.1 + 8)) (by decide) tw_226 rfl zk_0 zb_0 rfl dX11_house_25 ?_
  refine z_iload_n C dX11_house_28 2 rfl rfl ?_
  refine f_callVv C hl (As := [.int a]) (rest := []) (c_X1_startOn8 l B s t a) zb_8 (zg_1 zk_8) rfl (zCB (nA := 1) C rfl rfl tw_276 tw_8 tw_273 (by decide +kernel) ⟨Nat.le_of_ble_eq_true rfl, Nat.le_of_ble_eq_true rfl⟩) tw_274 tw_275 rfl rfl (Nat.le_of_ble_eq_true rfl) dX11_house_29 (Nat.zero_le _) ?_
  refine z_iload_n C dX11_house_32 0 rfl rfl ?_
  refine z_iret C E rfl dX11_house_33 rfl (Nat.le_refl _) ⟨rfl, rfl⟩
set_option maxRecDepth 100000 in
set_option maxHeartbeats 4000000 in
theorem c_X11_house_bad (l : Launch) (B : zB) (s : zS) (t : zL) (a : Int32) (h : wIn a 99 = false) : zD l B mX11_house s t [.ref (B.1 + 0), .int a] (some (.int (-2))) (zu s 0 9 (s 0 9 + 1)) t := by
  refine z_met (by decide) (Nat.le_of_ble_eq_true rfl) ?_
  intro X hl C E hnm
  show Zf X B mX11_house s t 0 [(0, .ref (B.1 + 0)), (1, .int a)] []
  refine z_iload_n C dX11_house_0 1 rfl rfl ?_
  refine z_bipush C dX11_house_1 kb_99 ?_
  refine f_callSr C hl (As := [.int a, .int 99]) (rest := []) (c_X11_within l B s t a 99) (zCB (nA := 2) C rfl rfl tw_268 tw_1 tw_266 (by decide +kernel) ⟨Nat.le_of_ble_eq_true rfl, Nat.le_of_ble_eq_true rfl⟩) tw_267 rfl rfl (Nat.le_of_ble_eq_true rfl) dX11_house_3 (Nat.zero_le _) ?_
  refine z_ifb_ne C 16 dX11_house_6 (by decide) (fun hbr => absurd hbr (by rw [h]; decide)) (fun _ => ?_)
  refine z_aload_n C dX11_house_9 0 rfl rfl ?_
  refine z_bipush C dX11_house_10 kb_m2 ?_
  refine f_callVr C hl (As := [.int (-2)]) (rest := []) (c_X11_refuse2 l B s t) zb_0 (zg_11 zk_0) rfl (zCB (nA := 1) C rfl rfl tw_272 tw_1 tw_269 (by decide +kernel) ⟨Nat.le_of_ble_eq_true rfl, Nat.le_of_ble_eq_true rfl⟩) tw_271 tp_0 rfl rfl (Nat.le_of_ble_eq_true rfl) dX11_house_12 (Nat.zero_le _) ?_
  refine z_iret C E rfl dX11_house_15 rfl (Nat.le_refl _) ⟨rfl, rfl⟩
abbrev mX11_deputy : zM := (yX11_deputy, cX11_deputy, 5, (some .int), { frames := 2, cells := 0, slots := 0, locals := 41 })
set_option maxRecDepth 100000 in
set_option maxHeartbeats 4000000 in
theorem c_X11_deputy_bad (l : Launch) (B : zB) (s : zS) (t : zL) (a b c d : Int32) (h : (wIn a 5 && wIn b 255 && wIn c 255 && wIn d 40) = false) : zD l B mX11_deputy s t [.ref (B.1 + 0), .int a, .int b, .int c, .int d] (some (.int (-2))) (zu s 0 9 (s 0 9 + 1)) t := by
  refine z_met (by decide) (Nat.le_of_ble_eq_true rfl) ?_
  intro X hl C E hnm
  show Zf X B mX11_deputy s t 0 [(0, .ref (B.1 + 0)), (1, .int a), (2, .int b), (3, .int c), (4, .int d)] []
  refine z_iload_n C dX11_deputy_0 1 rfl rfl ?_
  refine z_iconst C dX11_deputy_1 ki_5 ?_
  refine f_callSr C hl (As := [.int a, .int 5]) (rest := []) (c_X11_within l B s t a 5) (zCB (nA := 2) C rfl rfl tw_268 tw_1 tw_266 (by decide +kernel) ⟨Nat.le_of_ble_eq_true rfl, Nat.le_of_ble_eq_true rfl⟩) tw_267 rfl rfl (Nat.le_of_ble_eq_true rfl) dX11_deputy_2 (Nat.zero_le _) ?_
  refine z_ifb_eq C 32 dX11_deputy_5 (by decide) (fun h5 => ?_) (fun h5 => ?_)
  · refine z_aload_n C dX11_deputy_32 0 rfl rfl ?_
    refine z_bipush C dX11_deputy_33 kb_m2 ?_
    refine f_callVr C hl (As := [.int (-2)]) (rest := []) (c_X11_refuse2 l B s t) zb_0 (zg_11 zk_0) rfl (zCB (nA := 1) C rfl rfl tw_272 tw_1 tw_269 (by decide +kernel) ⟨Nat.le_of_ble_eq_true rfl, Nat.le_of_ble_eq_true rfl⟩) tw_271 tp_0 rfl rfl (Nat.le_of_ble_eq_true rfl) dX11_deputy_35 (Nat.zero_le _) ?_
    refine z_iret C E rfl dX11_deputy_38 rfl (Nat.le_refl _) ⟨rfl, rfl⟩
  · refine z_iload_n C dX11_deputy_8 2 rfl rfl ?_
    refine f_callSr C hl (As := [.int b]) (rest := []) (c_X11_isBundle l B s t b) (zCB (nA := 1) C rfl rfl tw_287 tw_1 tw_285 (by decide +kernel) ⟨Nat.le_of_ble_eq_true rfl, Nat.le_of_ble_eq_true rfl⟩) tw_286 rfl rfl (Nat.le_of_ble_eq_true rfl) dX11_deputy_9 (Nat.zero_le _) ?_
    refine z_ifb_eq C 32 dX11_deputy_12 (by decide) (fun h12 => ?_) (fun h12 => ?_)
    · refine z_aload_n C dX11_deputy_32 0 rfl rfl ?_
      refine z_bipush C dX11_deputy_33 kb_m2 ?_
      refine f_callVr C hl (As := [.int (-2)]) (rest := []) (c_X11_refuse2 l B s t) zb_0 (zg_11 zk_0) rfl (zCB (nA := 1) C rfl rfl tw_272 tw_1 tw_269 (by decide +kernel) ⟨Nat.le_of_ble_eq_true rfl, Nat.le_of_ble_eq_true rfl⟩) tw_271 tp_0 rfl rfl (Nat.le_of_ble_eq_true rfl) dX11_deputy_35 (Nat.zero_le _) ?_
      refine z_iret C E rfl dX11_deputy_38 rfl (Nat.le_refl _) ⟨rfl, rfl⟩
    · refine z_iload_n C dX11_deputy_15 3 rfl rfl ?_
      refine f_callSr C hl (As := [.int c]) (rest := []) (c_X11_isBundle l B s t c) (zCB (nA := 1) C rfl rfl tw_287 tw_1 tw_285 (by decide +kernel) ⟨Nat.le_of_ble_eq_true rfl, Nat.le_of_ble_eq_true rfl⟩) tw_286 rfl rfl (Nat.le_of_ble_eq_true rfl) dX11_deputy_16 (Nat.zero_le _) ?_
      refine z_ifb_eq C 32 dX11_deputy_19 (by decide) (fun h19 => ?_) (fun h19 => ?_)
      · refine z_aload_n C dX11_deputy_32 0 rfl rfl ?_
        refine z_bipush C dX11_deputy_33 kb_m2 ?_
        refine f_callVr C hl (As := [.int (-2)]) (rest := []) (c_X11_refuse2 l B s t) zb_0 (zg_11 zk_0) rfl (zCB (nA := 1) C rfl rfl tw_272 tw_1 tw_269 (by decide +kernel) ⟨Nat.le_of_ble_eq_true rfl, Nat.le_of_ble_eq_true rfl⟩) tw_271 tp_0 rfl rfl (Nat.le_of_ble_eq_true rfl) dX11_deputy_35 (Nat.zero_le _) ?_
        refine z_iret C E rfl dX11_deputy_38 rfl (Nat.le_refl _) ⟨rfl, rfl⟩
      · refine z_iload C dX11_deputy_22 4 rfl ?_
        refine z_bipush C dX11_deputy_24 kb_40 ?_
        refine f_callSr C hl (As := [.int d, .int 40]) (rest := []) (c_X11_within l B s t d 40) (zCB (nA := 2) C rfl rfl tw_268 tw_1 tw_266 (by decide +kernel) ⟨Nat.le_of_ble_eq_true rfl, Nat.le_of_ble_eq_true rfl⟩) tw_267 rfl rfl (Nat.le_of_ble_eq_true rfl) dX11_deputy_26 (Nat.zero_le _) ?_
        refine z_ifb_ne C 39 dX11_deputy_29 (by decide) (fun h29 => ?_) (fun h29 => ?_)
        · exact absurd h (by rw [h5, h12, h19, h29]; decide)
        · refine z_aload_n C dX11_deputy_32 0 rfl rfl ?_
          refine z_bipush C dX11_deputy_33 kb_m2 ?_
          refine f_callVr C hl (As := [.int (-2)]) (rest := []) (c_X11_refuse2 l B s t) zb_0 (zg_11 zk_0) rfl (zCB (nA := 1) C rfl rfl tw_272 tw_1 tw_269 (by decide +kernel) ⟨Nat.le_of_ble_eq_true rfl, Nat.le_of_ble_eq_true rfl⟩) tw_271 tp_0 rfl rfl (Nat.le_of_ble_eq_true rfl) dX11_deputy_35 (Nat.zero_le _) ?_
          refine z_iret C E rfl dX11_deputy_38 rfl (Nat.le_refl _) ⟨rfl, rfl⟩
set_option maxRecDepth 100000 in
set_option maxHeartbeats 4000000 in
theorem c_X11_deputy_full (l : Launch) (B : zB) (s : zS) (t : zL) (a b c d : Int32) (g1 : wIn a 5 = true) (g2 : wIn b 255 = true) (g3 : wIn c 255 = true) (g4 : wIn d 40 = true) (hc : s 8 4 = 6) : zD l B mX11_deputy s t [.ref (B.1 + 0), .int a, .int b, .int c, .int d] (some (.int (-4))) (zu s 0 11 (s 0 11 + 1)) t := by
  refine z_met (by decide) (Nat.le_of_ble_eq_true rfl) ?_
  intro X hl C E hnm
  show Zf X B mX11_deputy s t 0 [(0, .ref (B.1 + 0)), (1, .int a), (2, .int b), (3, .int c), (4, .int d)] []
  refine z_iload_n C dX11_deputy_0 1 rfl rfl ?_
  refine z_iconst C dX11_deputy_1 ki_5 ?_
  refine f_callSr C hl (As := [.int a, .int 5]) (rest := []) (c_X11_within l B s t a 5) (zCB (nA := 2) C rfl rfl tw_268 tw_1 tw_266 (by decide +kernel) ⟨Nat.le_of_ble_eq_true rfl, Nat.le_of_ble_eq_true rfl⟩) tw_267 rfl rfl (Nat.le_of_ble_eq_true rfl) dX11_deputy_2 (Nat.zero_le _) ?_
  refine z_ifb_eq C 32 dX11_deputy_5 (by decide) (fun hbr => absurd hbr (by rw [g1]; decide)) (fun _ => ?_)
  refine z_iload_n C dX11_deputy_8 2 rfl rfl ?_
  refine f_callSr C hl (As := [.int b]) (rest := []) (c_X11_isBundle l B s t b) (zCB (nA := 1) C rfl rfl tw_287 tw_1 tw_285 (by decide +kernel) ⟨Nat.le_of_ble_eq_true rfl, Nat.le_of_ble_eq_true rfl⟩) tw_286 rfl rfl (Nat.le_of_ble_eq_true rfl) dX11_deputy_9 (Nat.zero_le _) ?_
  refine z_ifb_eq C 32 dX11_deputy_12 (by decide) (fun hbr => absurd hbr (by rw [g2]; decide)) (fun _ => ?_)
  refine z_iload_n C dX11_deputy_15 3 rfl rfl ?_
  refine f_callSr C hl (As := [.int c]) (rest := []) (c_X11_isBundle l B s t c) (zCB (nA := 1) C rfl rfl tw_287 tw_1 tw_285 (by decide +kernel) ⟨Nat.le_of_ble_eq_true rfl, Nat.le_of_ble_eq_true rfl⟩) tw_286 rfl rfl (Nat.le_of_ble_eq_true rfl) dX11_deputy_16 (Nat.zero_le _) ?_
  refine z_ifb_eq C 32 dX11_deputy_19 (by decide) (fun hbr => absurd hbr (by rw [g3]; decide)) (fun _ => ?_)
  refine z_iload C dX11_deputy_22 4 rfl ?_
  refine z_bipush C dX11_deputy_24 kb_40 ?_
  refine f_callSr C hl (As := [.int d, .int 40]) (rest := []) (c_X11_within l B s t d 40) (zCB (nA := 2) C rfl rfl tw_268 tw_1 tw_266 (by decide +kernel) ⟨Nat.le_of_ble_eq_true rfl, Nat.le_of_ble_eq_true rfl⟩) tw_267 rfl rfl (Nat.le_of_ble_eq_true rfl) dX11_deputy_26 (Nat.zero_le _) ?_
  refine z_ifb_ne C 39 dX11_deputy_29 (by decide) (fun _ => ?_) (fun hbr => Bool.noConfusion (show false = true from hbr.symm.trans g4))
  refine z_aload_n C dX11_deputy_39 0 rfl rfl ?_
  refine f_get11 C 1 (v := .ref (B.1 + 8)) (by decide) tw_226 rfl zk_0 zb_0 rfl dX11_deputy_40 ?_
  refine f_get1 C 4 (v := .int (s 8 4)) (by decide) tw_173 rfl zk_8 zb_8 rfl dX11_deputy_43 ?_
  refine f_topi hc ?_
  refine z_bipush C dX11_deputy_46 kb_6 ?_
  refine z_icmp_lt C 58 dX11_deputy_48 (by decide) (fun hbr => absurd hbr (by decide)) (fun _ => ?_)
  refine z_aload_n C dX11_deputy_51 0 rfl rfl ?_
  refine z_bipush C dX11_deputy_52 kb_m4 ?_
  refine f_callVr C hl (As := [.int (-4)]) (rest := []) (c_X11_refuse4 l B s t) zb_0 (zg_11 zk_0) rfl (zCB (nA := 1) C rfl rfl tw_272 tw_1 tw_269 (by decide +kernel) ⟨Nat.le_of_ble_eq_true rfl, Nat.le_of_ble_eq_true rfl⟩) tw_271 tp_0 rfl rfl (Nat.le_of_ble_eq_true rfl) dX11_deputy_54 (Nat.zero_le _) ?_
  refine z_iret C E rfl dX11_deputy_57 rfl (Nat.le_refl _) ⟨rfl, rfl⟩
set_option maxRecDepth 100000 in
set_option maxHeartbeats 4000000 in
theorem c_X11_deputy_ok (l : Launch) (B : zB) (s : zS) (t : zL) (a b c d : Int32) (g1 : wIn a 5 = true) (g2 : wIn b 255 = true) (g3 : wIn c 255 = true) (g4 : wIn d 40 = true) (n : Nat) (hn : n < 6) (hc : s 8 4 = nI n) : zD l B mX11_deputy s t [.ref (B.1 + 0), .int a, .int b, .int c, .int d] (some (.int (nI n))) (wAddD8 s n a b c d) t := by
  refine z_met (by decide) (Nat.le_of_ble_eq_true rfl) ?_
  intro X hl C E hnm
  show Zf X B mX11_deputy s t 0 [(0, .ref (B.1 + 0)), (1, .int a), (2, .int b), (3, .int c), (4, .int d)] []
  refine z_iload_n C dX11_deputy_0 1 rfl rfl ?_
  refine z_iconst C dX11_deputy_1 ki_5 ?_
  refine f_callSr C hl (As := [.int a, .int 5]) (rest := []) (c_X11_within l B s t a 5) (zCB (nA := 2) C rfl rfl tw_268 tw_1 tw_266 (by decide +kernel) ⟨Nat.le_of_ble_eq_true rfl, Nat.le_of_ble_eq_true rfl⟩) tw_267 rfl rfl (Nat.le_of_ble_eq_true rfl) dX11_deputy_2 (Nat.zero_le _) ?_
  refine z_ifb_eq C 32 dX11_deputy_5 (by decide) (fun hbr => absurd hbr (by rw [g1]; decide)) (fun _ => ?_)
  refine z_iload_n C dX11_deputy_8 2 rfl rfl ?_
  refine f_callSr C hl (As := [.int b]) (rest := []) (c_X11_isBundle l B s t b) (zCB (nA := 1) C rfl rfl tw_287 tw_1 tw_285 (by decide +kernel) ⟨Nat.le_of_ble_eq_true rfl, Nat.le_of_ble_eq_true rfl⟩) tw_286 rfl rfl (Nat.le_of_ble_eq_true rfl) dX11_deputy_9 (Nat.zero_le _) ?_
  refine z_ifb_eq C 32 dX11_deputy_12 (by decide) (fun hbr => absurd hbr (by rw [g2]; decide)) (fun _ => ?_)
  refine z_iload_n C dX11_deputy_15 3 rfl rfl ?_
  refine f_callSr C hl (As := [.int c]) (rest := []) (c_X11_isBundle l B s t c) (zCB (nA := 1) C rfl rfl tw_287 tw_1 tw_285 (by decide +kernel) ⟨Nat.le_of_ble_eq_true rfl, Nat.le_of_ble_eq_true rfl⟩) tw_286 rfl rfl (Nat.le_of_ble_eq_true rfl) dX11_deputy_16 (Nat.zero_le _) ?_
  refine z_ifb_eq C 32 dX11_deputy_19 (by decide) (fun hbr => absurd hbr (by rw [g3]; decide)) (fun _ => ?_)
  refine z_iload C dX11_deputy_22 4 rfl ?_
  refine z_bipush C dX11_deputy_24 kb_40 ?_
  refine f_callSr C hl (As := [.int d, .int 40]) (rest := []) (c_X11_within l B s t d 40) (zCB (nA := 2) C rfl rfl tw_268 tw_1 tw_266 (by decide +kernel) ⟨Nat.le_of_ble_eq_true rfl, Nat.le_of_ble_eq_true rfl⟩) tw_267 rfl rfl (Nat.le_of_ble_eq_true rfl) dX11_deputy_26 (Nat.zero_le _) ?_
  refine z_ifb_ne C 39 dX11_deputy_29 (by decide) (fun _ => ?_) (fun hbr => Bool.noConfusion (show false = true from hbr.symm.trans g4))
  refine z_aload_n C dX11_deputy_39 0 rfl rfl ?_
  refine f_get11 C 1 (v := .ref (B.1 + 8)) (by decide) tw_226 rfl zk_0 zb_0 rfl dX11_deputy_40 ?_
  refine f_get1 C 4 (v := .int (s 8 4)) (by decide) tw_173 rfl zk_8 zb_8 rfl dX11_deputy_43 ?_
  refine f_topi hc ?_
  refine z_bipush C dX11_deputy_46 kb_6 ?_
  refine z_icmp_lt C 58 dX11_deputy_48 (by decide) (fun _ => ?_) (fun hbr => absurd (i32_lt6 hn) hbr)
  refine z_aload_n C dX11_deputy_58 0 rfl rfl ?_
  refine f_get11 C 1 (v := .ref (B.1 + 8)) (by decide) tw_226 rfl zk_0 zb_0 rfl dX11_deputy_59 ?_
  refine z_iload_n C dX11_deputy_62 1 rfl rfl ?_
  refine z_iload_n C dX11_deputy_63 2 rfl rfl ?_
  refine z_iload_n C dX11_deputy_64 3 rfl rfl ?_
  refine z_iload C dX11_deputy_65 4 rfl ?_
  refine f_callVv C hl (As := [.int a, .int b, .int c, .int d]) (rest := []) (c_X1_addDeputy8 l B s t n hn hc a b c d) zb_8 (zg_1 zk_8) rfl (zCB (nA := 4) C rfl rfl tw_291 tw_8 tw_288 (by decide +kernel) ⟨Nat.le_of_ble_eq_true rfl, Nat.le_of_ble_eq_true rfl⟩) tw_289 tw_290 rfl rfl (Nat.le_of_ble_eq_true rfl) dX11_deputy_67 (Nat.zero_le _) ?_
  refine z_aload_n C dX11_deputy_70 0 rfl rfl ?_
  refine f_get11 C 1 (v := .ref (B.1 + 8)) (by decide) tw_226 rfl zk_0 zb_0 rfl dX11_deputy_71 ?_
  refine f_get1 C 4 (v := .int ((wAddD8 s n a b c d) 8 4)) (by decide) tw_173 rfl zk_8 zb_8 rfl dX11_deputy_74 ?_
  refine f_topi (y := nI (n + 1)) (by simp [wAddD8, zu]) ?_
  refine z_iconst C dX11_deputy_77 ki_1 ?_
  refine z_isub C dX11_deputy_78 ?_
  refine f_topi (nI_pred n) ?_
  refine z_iret C E rfl dX11_deputy_79 rfl (Nat.le_refl _) ⟨rfl, rfl⟩
abbrev mX11_clear : zM := (yX11_clear, cX11_clear, 2, (some .int), { frames := 0, cells := 0, slots := 0, locals := 0 })
set_option maxRecDepth 100000 in
set_option maxHeartbeats 4000000 in
theorem c_X11_clear (l : Launch) (B : zB) (s : zS) (t : zL)  : zD l B mX11_clear s t [.ref (B.1 + 0)] (some (.int (s 111 1))) (zu s 111 1 0) t := by
  refine z_met (by decide) (Nat.le_of_ble_eq_true rfl) ?_
  intro X hl C E hnm
  show Zf X B mX11_clear s t 0 [(0, .ref (B.1 + 0))] []
  refine z_aload_n C dX11_clear_0 0 rfl rfl ?_
  refine f_get11 C 6 (v := .ref (B.1 + 111)) (by decide) tw_231 rfl zk_0 zb_0 rfl dX11_clear_1 ?_
  refine f_get9 C 1 (v := .int (s 111 1)) (by decide) tw_204 rfl zk_111 zb_111 rfl dX11_clear_4 ?_
  refine z_istore_n C [(1, .int (s 111 1)), (0, .ref (B.1 + 0))] dX11_clear_7 rfl (by decide) rfl ?_
  refine z_aload_n C dX11_clear_8 1 rfl rfl ?_
  refine f_get11 C 6 (v := .ref (B.1 + 111)) (by decide) tw_231 rfl zk_0 zb_0 rfl dX11_clear_9 ?_
  refine z_iconst C dX11_clear_12 ki_0 ?_
  refine f_put9_1 C tw_204 zk_111 zb_111 dX11_clear_13 ?_
  refine z_iload_n C dX11_clear_16 0 rfl rfl ?_
  refine z_iret C E rfl dX11_clear_17 rfl (Nat.le_refl _) ⟨rfl, rfl⟩
abbrev mX11_moves : zM := (yX11_moves, cX11_moves, 2, (some .int), { frames := 6, cells := 0, slots := 0, locals := 145 })
set_option maxRecDepth 100000 in
set_option maxHeartbeats 4000000 in
theorem c_X11_moves_bad (l : Launch) (B : zB) (s : zS) (t : zL) (b : Int32) (h : wIn b 255 = false ∨ b = 0) : zD l B mX11_moves s t [.ref (B.1 + 0), .int b] (some (.int (-2))) (zu s 0 9 (s 0 9 + 1)) t := by
  refine z_met (by decide) (Nat.le_of_ble_eq_true rfl) ?_
  intro X hl C E hnm
  show Zf X B mX11_moves s t 0 [(0, .ref (B.1 + 0)), (1, .int b)] []
  refine z_iload_n C dX11_moves_0 1 rfl rfl ?_
  refine f_callSr C hl (As := [.int b]) (rest := []) (c_X11_isBundle l B s t b) (zCB (nA := 1) C rfl rfl tw_287 tw_1 tw_285 (by decide +kernel) ⟨Nat.le_of_ble_eq_true rfl, Nat.le_of_ble_eq_true rfl⟩) tw_286 rfl rfl (Nat.le_of_ble_eq_true rfl) dX11_moves_1 (Nat.zero_le _) ?_
  refine z_ifb_eq C 11 dX11_moves_4 (by decide) (fun h4 => ?_) (fun h4 => ?_)
  · refine z_aload_n C dX11_moves_11 0 rfl rfl ?_
    refine z_bipush C dX11_moves_12 kb_m2 ?_
    refine f_callVr C hl (As := [.int (-2)]) (rest := []) (c_X11_refuse2 l B s t) zb_0 (zg_11 zk_0) rfl (zCB (nA := 1) C rfl rfl tw_272 tw_1 tw_269 (by decide +kernel) ⟨Nat.le_of_ble_eq_true rfl, Nat.le_of_ble_eq_true rfl⟩) tw_271 tp_0 rfl rfl (Nat.le_of_ble_eq_true rfl) dX11_moves_14 (Nat.zero_le _) ?_
    refine z_iret C E rfl dX11_moves_17 rfl (Nat.le_refl _) ⟨rfl, rfl⟩
  · refine z_iload_n C dX11_moves_7 1 rfl rfl ?_
    refine z_if_ne C 18 dX11_moves_8 (by decide) (fun h8 => ?_) (fun h8 => ?_)
    · exact absurd h (fun q => q.elim (fun e => by rw [h4] at e; exact absurd e (by decide)) h8)
    · refine z_aload_n C dX11_moves_11 0 rfl rfl ?_
      refine z_bipush C dX11_moves_12 kb_m2 ?_
      refine f_callVr C hl (As := [.int (-2)]) (rest := []) (c_X11_refuse2 l B s t) zb_0 (zg_11 zk_0) rfl (zCB (nA := 1) C rfl rfl tw_272 tw_1 tw_269 (by decide +kernel) ⟨Nat.le_of_ble_eq_true rfl, Nat.le_of_ble_eq_true rfl⟩) tw_271 tp_0 rfl rfl (Nat.le_of_ble_eq_true rfl) dX11_moves_14 (Nat.zero_le _) ?_
      refine z_iret C E rfl dX11_moves_17 rfl (Nat.le_refl _) ⟨rfl, rfl⟩
set_option maxRecDepth 100000 in
set_option maxHeartbeats 4000000 in
theorem c_X11_moves_no (l : Launch) (B : zB) (s : zS) (t : zL) (b : Int32) (g1 : wIn b 255 = true) (g2 : ¬ b = 0) (g3 : ¬ b &&& ((255 &&& ((s 9 1 ||| s 9 2) ^^^ (-1))) ^^^ (-1)) = 0) : zD l B mX11_moves s t [.ref (B.1 + 0), .int b] (some (.int (-3))) (zu s 0 10 (s 0 10 + 1)) t := by
  refine z_met (by decide) (Nat.le_of_ble_eq_true rfl) ?_
  intro X hl C E hnm
  show Zf X B mX11_moves s t 0 [(0, .ref (B.1 + 0)), (1, .int b)] []
  refine z_iload_n C dX11_moves_0 1 rfl rfl ?_
  refine f_callSr C hl (As := [.int b]) (rest := []) (c_X11_isBundle l B s t b) (zCB (nA := 1) C rfl rfl tw_287 tw_1 tw_285 (by decide +kernel) ⟨Nat.le_of_ble_eq_true rfl, Nat.le_of_ble_eq_true rfl⟩) tw_286 rfl rfl (Nat.le_of_ble_eq_true rfl) dX11_moves_1 (Nat.zero_le _) ?_
  refine z_ifb_eq C 11 dX11_moves_4 (by decide) (fun hbr => absurd hbr (by rw [g1]; decide)) (fun _ => ?_)
  refine z_iload_n C dX11_moves_7 1 rfl rfl ?_
  refine z_if_ne C 18 dX11_moves_8 (by decide) (fun _ => ?_) (fun hbr => absurd hbr g2)
  refine z_iload_n C dX11_moves_18 1 rfl rfl ?_
  refine z_aload_n C dX11_moves_19 0 rfl rfl ?_
  refine f_get11 C 1 (v := .ref (B.1 + 8)) (by decide) tw_226 rfl zk_0 zb_0 rfl dX11_moves_20 ?_
  refine f_get1 C 0 (v := .ref (B.1 + 9)) (by decide) tw_168 rfl zk_8 zb_8 rfl dX11_moves_23 ?_
  refine f_callVr C hl (As := []) (rest := [.int b]) (c_X8_freeLaws l B s t 9 zk_9 zb_9) zb_9 (zg_8 zk_9) rfl (zCB (nA := 0) C rfl rfl tw_461 tw_9 tw_458 (by decide +kernel) ⟨Nat.le_of_ble_eq_true rfl, Nat.le_of_ble_eq_true rfl⟩) tw_459 tw_460 rfl rfl (Nat.le_of_ble_eq_true rfl) dX11_moves_26 (Nat.zero_le _) ?_
  refine z_iconst C dX11_moves_29 ki_m1 ?_
  refine z_ixor C dX11_moves_30 ?_
  refine z_iand C dX11_moves_31 ?_
  refine z_if_eq C 42 dX11_moves_32 (by decide) (fun hbr => absurd hbr g3) (fun _ => ?_)
  refine z_aload_n C dX11_moves_35 0 rfl rfl ?_
  refine z_bipush C dX11_moves_36 kb_m3 ?_
  refine f_callVr C hl (As := [.int (-3)]) (rest := []) (c_X11_refuse3 l B s t) zb_0 (zg_11 zk_0) rfl (zCB (nA := 1) C rfl rfl tw_272 tw_1 tw_269 (by decide +kernel) ⟨Nat.le_of_ble_eq_true rfl, Nat.le_of_ble_eq_true rfl⟩) tw_271 tp_0 rfl rfl (Nat.le_of_ble_eq_true rfl) dX11_moves_38 (Nat.zero_le _) ?_
  refine z_iret C E rfl dX11_moves_41 rfl (Nat.le_refl _) ⟨rfl, rfl⟩
set_option maxRecDepth 100000 in
set_option maxHeartbeats 4000000 in
theorem c_X11_moves_ok (l : Launch) (B : zB) (s : zS) (t : zL) (b : Int32) (g1 : wIn b 255 = true) (g2 : ¬ b = 0) (g3 : b &&& ((255 &&& ((s 9 1 ||| s 9 2) ^^^ (-1))) ^^^ (-1)) = 0) (p : Nat) (hp : p ≤ 8) (hc : s 8 6 = nI p) (N : Nat) (hN : s 8 4 = nI N) (h6 : N ≤ 6) (hK : ∀ d, d < N → ∃ c, c < 6 ∧ s (11 + d) 0 = nI c) : zD l B mX11_moves s t [.ref (B.1 + 0), .int b] (some (.int (wWho (fun d => (wRmb s p) (11 + d) 0) (fun d => (wRmb s p) (11 + d) 1) (fun d => (wRmb s p) (11 + d) 2) ((wRmb s p) 9 3 ||| (wRmb s p) 9 4) ((wRmb s p) 9 0) b N))) (wMove (wRmb s p) 9 (wWho (fun d => (wRmb s p) (11 + d) 0) (fun d => (wRmb s p) (11 + d) 1) (fun d => (wRmb s p) (11 + d) 2) ((wRmb s p) 9 3 ||| (wRmb s p) 9 4) ((wRmb s p) 9 0) b N) b) t := by
  refine z_met (by decide) (Nat.le_of_ble_eq_true rfl) ?_
  intro X hl C E hnm
  show Zf X B mX11_moves s t 0 [(0, .ref (B.1 + 0)), (1, .int b)] []
  refine z_iload_n C dX11_moves_0 1 rfl rfl ?_
  refine f_callSr C hl (As := [.int b]) (rest := []) (c_X11_isBundle l B s t b) (zCB (nA := 1) C rfl rfl tw_287 tw_1 tw_285 (by decide +kernel) ⟨Nat.le_of_ble_eq_true rfl, Nat.le_of_ble_eq_true rfl⟩) tw_286 rfl rfl (Nat.le_of_ble_eq_true rfl) dX11_moves_1 (Nat.zero_le _) ?_
  refine z_ifb_eq C 11 dX11_moves_4 (by decide) (fun hbr => absurd hbr (by rw [g1]; decide)) (fun _ => ?_)
  refine z_iload_n C dX11_moves_7 1 rfl rfl ?_
  refine z_if_ne C 18 dX11_moves_8 (by decide) (fun _ => ?_) (fun hbr => absurd hbr g2)
  refine z_iload_n C dX11_moves_18 1 rfl rfl ?_
  refine z_aload_n C dX11_moves_19 0 rfl rfl ?_
  refine f_get11 C 1 (v := .ref (B.1 + 8)) (by decide) tw_226 rfl zk_0 zb_0 rfl dX11_moves_20 ?_
  refine f_get1 C 0 (v := .ref (B.1 + 9)) (by decide) tw_168 rfl zk_8 zb_8 rfl dX11_moves_23 ?_
  refine f_callVr C hl (As := []) (rest := [.int b]) (c_X8_freeLaws l B s t 9 zk_9 zb_9) zb_9 (zg_8 zk_9) rfl (zCB (nA := 0) C rfl rfl tw_461 tw_9 tw_458 (by decide +kernel) ⟨Nat.le_of_ble_eq_true rfl, Nat.le_of_ble_eq_true rfl⟩) tw_459 tw_460 rfl rfl (Nat.le_of_ble_eq_true rfl) dX11_moves_26 (Nat.zero_le _) ?_
  refine z_iconst C dX11_moves_29 ki_m1 ?_
  refine z_ixor C dX11_moves_30 ?_
  refine z_iand C dX11_moves_31 ?_
  refine z_if_eq C 42 dX11_moves_32 (by decide) (fun _ => ?_) (fun hbr => absurd g3 hbr)
  refine z_aload_n C dX11_moves_42 0 rfl rfl ?_
  refine f_get11 C 1 (v := .ref (B.1 + 8)) (by decide) tw_226 rfl zk_0 zb_0 rfl dX11_moves_43 ?_
  refine f_callVv C hl (As := []) (rest := []) (c_X1_remember l B s t p hp hc) zb_8 (zg_1 zk_8) rfl (zCB (nA := 0) C rfl rfl tw_465 tw_8 tw_462 (by decide +kernel) ⟨Nat.le_of_ble_eq_true rfl, Nat.le_of_ble_eq_true rfl⟩) tw_463 tw_464 rfl rfl (Nat.le_of_ble_eq_true rfl) dX11_moves_46 (Nat.zero_le _) ?_
  refine z_aload_n C dX11_moves_49 0 rfl rfl ?_
  refine z_aload_n C dX11_moves_50 0 rfl rfl ?_
  refine f_get11 C 1 (v := .ref (B.1 + 8)) (by decide) tw_226 rfl zk_0 zb_0 rfl dX11_moves_51 ?_
  refine f_get1 C 0 (v := .ref (B.1 + 9)) (by decide) tw_168 rfl zk_8 zb_8 rfl dX11_moves_54 ?_
  refine z_iload_n C dX11_moves_57 1 rfl rfl ?_
  refine f_callVr C hl (As := [.ref (B.1 + 9), .int b]) (rest := []) (c_X11_moveIn l B (wRmb s p) t 9 zk_9 zb_9 b (wIn_r8 g1) N (by rw [wRmb_8 hp (by decide)]; exact hN) h6 (fun d hd => by rw [wRmb_row hp (by omega) (Or.inl (by omega))]; exact hK d hd)) zb_0 (zg_11 zk_0) rfl (zCB (nA := 2) C rfl rfl tw_469 tw_1 tw_466 (by decide +kernel) ⟨Nat.le_of_ble_eq_true rfl, Nat.le_of_ble_eq_true rfl⟩) tw_468 tp_9 rfl rfl (Nat.le_of_ble_eq_true rfl) dX11_moves_58 (Nat.zero_le _) ?_
  refine z_iret C E rfl dX11_moves_61 rfl (Nat.le_refl _) ⟨rfl, rfl⟩
abbrev mX11_end : zM := (yX11_end, cX11_end, 1, (some .int), { frames := 2, cells := 0, slots := 0, locals := 42 })
set_option maxRecDepth 100000 in
set_option maxHeartbeats 4000000 in
theorem c_X11_end (l : Launch) (B : zB) (s : zS) (t : zL) (p : Nat) (hp : p ≤ 8) (hc : s 8 6 = nI p) : zD l B mX11_end s t [.ref (B.1 + 0)] (some (.int (wClose (wRmb s p) 9 9 2))) (wClose (wRmb s p) 9) t := by
  refine z_met (by decide) (Nat.le_of_ble_eq_true rfl) ?_
  intro X hl C E hnm
  show Zf X B mX11_end s t 0 [(0, .ref (B.1 + 0))] []
  refine z_aload_n C dX11_end_0 0 rfl rfl ?_
  refine f_get11 C 1 (v := .ref (B.1 + 8)) (by decide) tw_226 rfl zk_0 zb_0 rfl dX11_end_1 ?_
  refine f_callVv C hl (As := []) (rest := []) (c_X1_remember l B s t p hp hc) zb_8 (zg_1 zk_8) rfl (zCB (nA := 0) C rfl rfl tw_465 tw_8 tw_462 (by decide +kernel) ⟨Nat.le_of_ble_eq_true rfl, Nat.le_of_ble_eq_true rfl⟩) tw_463 tw_464 rfl rfl (Nat.le_of_ble_eq_true rfl) dX11_end_4 (Nat.zero_le _) ?_
  refine z_aload_n C dX11_end_7 0 rfl rfl ?_
  refine f_get11 C 1 (v := .ref (B.1 + 8)) (by decide) tw_226 rfl zk_0 zb_0 rfl dX11_end_8 ?_
  refine f_get1 C 0 (v := .ref (B.1 + 9)) (by decide) tw_168 rfl zk_8 zb_8 rfl dX11_end_11 ?_
  refine f_callVv C hl (As := []) (rest := []) (c_X8_close l B (wRmb s p) t 9 zk_9 zb_9) zb_9 (zg_8 zk_9) rfl (zCB (nA := 0) C rfl rfl tw_527 tw_9 tw_524 (by decide +kernel) ⟨Nat.le_of_ble_eq_true rfl, Nat.le_of_ble_eq_true rfl⟩) tw_525 tw_526 rfl rfl (Nat.le_of_ble_eq_true rfl) dX11_end_14 (Nat.zero_le _) ?_
  refine z_aload_n C dX11_end_17 0 rfl rfl ?_
  refine f_get11 C 1 (v := .ref (B.1 + 8)) (by decide) tw_226 rfl zk_0 zb_0 rfl dX11_end_18 ?_
  refine f_get1 C 0 (v := .ref (B.1 + 9)) (by decide) tw_168 rfl zk_8 zb_8 rfl dX11_end_21 ?_
  refine f_get8 C 2 (v := .int ((wClose (wRmb s p) 9) 9 2)) (by decide) tw_89 rfl zk_9 zb_9 rfl dX11_end_24 ?_
  refine z_iret C E rfl dX11_end_27 rfl (Nat.le_refl _) ⟨rfl, rfl⟩
abbrev mX11_buy : zM := (yX11_buy, cX11_buy, 4, (some .int), { frames := 3, cells := 0, slots := 0, locals := 63 })
set_option maxRecDepth 100000 in
set_option maxHeartbeats 4000000 in
theorem c_X11_buy_bad (l : Launch) (B : zB) (s : zS) (t : zL) (x : Int32) (hx : x < 0 ∨ s 8 4 ≤ x) : zD l B mX11_buy s t [.ref (B.1 + 0), .int x] (some (.int (-2))) (zu s 0 9 (s 0 9 + 1)) t := by
  refine z_met (by decide) (Nat.le_of_ble_eq_true rfl) ?_
  intro X hl C E hnm
  show Zf X B mX11_buy s t 0 [(0, .ref (B.1 + 0)), (1, .int x)] []
  refine z_aload_n C dX11_buy_0 0 rfl rfl ?_
  refine f_get11 C 1 (v := .ref (B.1 + 8)) (by decide) tw_226 rfl zk_0 zb_0 rfl dX11_buy_1 ?_
  refine z_iload_n C dX11_buy_4 1 rfl rfl ?_
  refine f_callVr C hl (As := [.int x]) (rest := []) (c_X1_deputyAt8n l B s t x hx) zb_8 (zg_1 zk_8) rfl (zCB (nA := 1) C rfl rfl tw_424 tw_8 tw_474 (by decide +kernel) ⟨Nat.le_of_ble_eq_true rfl, Nat.le_of_ble_eq_true rfl⟩) tw_422 tw_423 rfl rfl (Nat.le_of_ble_eq_true rfl) dX11_buy_5 (Nat.zero_le _) ?_
  refine z_astore_nN C [(2, .null), (0, .ref (B.1 + 0)), (1, .int x)] dX11_buy_8 rfl (by decide) rfl ?_
  refine z_aload_nN C dX11_buy_9 0 rfl rfl ?_
  refine z_ifnonnullN C dX11_buy_10 ?_
  refine z_aload_n C dX11_buy_13 1 rfl rfl ?_
  refine z_bipush C dX11_buy_14 kb_m2 ?_
  refine f_callVr C hl (As := [.int (-2)]) (rest := []) (c_X11_refuse2 l B s t) zb_0 (zg_11 zk_0) rfl (zCB (nA := 1) C rfl rfl tw_272 tw_1 tw_269 (by decide +kernel) ⟨Nat.le_of_ble_eq_true rfl, Nat.le_of_ble_eq_true rfl⟩) tw_271 tp_0 rfl rfl (Nat.le_of_ble_eq_true rfl) dX11_buy_16 (Nat.zero_le _) ?_
  refine z_iret C E rfl dX11_buy_19 rfl (Nat.le_refl _) ⟨rfl, rfl⟩
set_option maxRecDepth 100000 in
set_option maxHeartbeats 4000000 in
theorem c_X11_buy_no (l : Launch) (B : zB) (s : zS) (t : zL) (N : Nat) (hN : s 8 4 = nI N) (h6 : N ≤ 6) (d : Nat) (hd : d < N) (x : Int32) (hx : x = nI d) (g : ¬ s 9 3 &&& wBit x = 0) : zD l B mX11_buy s t [.ref (B.1 + 0), .int x] (some (.int (-3))) (zu s 0 10 (s 0 10 + 1)) t := by
  refine z_met (by decide) (Nat.le_of_ble_eq_true rfl) ?_
  intro X hl C E hnm
  show Zf X B mX11_buy s t 0 [(0, .ref (B.1 + 0)), (1, .int x)] []
  refine z_aload_n C dX11_buy_0 0 rfl rfl ?_
  refine f_get11 C 1 (v := .ref (B.1 + 8)) (by decide) tw_226 rfl zk_0 zb_0 rfl dX11_buy_1 ?_
  refine z_iload_n C dX11_buy_4 1 rfl rfl ?_
  refine f_callVr C hl (As := [.int x]) (rest := []) (c_X1_deputyAt8s l B s t d (by omega) x hx (by rw [hx, hN]; exact nI_lt hd (by omega))) zb_8 (zg_1 zk_8) rfl (zCB (nA := 1) C rfl rfl tw_424 tw_8 tw_474 (by decide +kernel) ⟨Nat.le_of_ble_eq_true rfl, Nat.le_of_ble_eq_true rfl⟩) tw_422 tw_423 rfl rfl (Nat.le_of_ble_eq_true rfl) dX11_buy_5 (Nat.zero_le _) ?_
  refine z_astore_n C [(2, .ref (B.1 + (11 + d))), (0, .ref (B.1 + 0)), (1, .int x)] dX11_buy_8 rfl (by decide) rfl ?_
  refine z_aload_n C dX11_buy_9 0 rfl rfl ?_
  refine z_ifnonnull C 20 dX11_buy_10 (by decide) ?_
  refine z_aload_n C dX11_buy_20 1 rfl rfl ?_
  refine f_get11 C 1 (v := .ref (B.1 + 8)) (by decide) tw_226 rfl zk_0 zb_0 rfl dX11_buy_21 ?_
  refine f_get1 C 0 (v := .ref (B.1 + 9)) (by decide) tw_168 rfl zk_8 zb_8 rfl dX11_buy_24 ?_
  refine f_get8 C 3 (v := .int (s 9 3)) (by decide) tw_92 rfl zk_9 zb_9 rfl dX11_buy_27 ?_
  refine z_iload_n C dX11_buy_30 2 rfl rfl ?_
  refine f_callSr C hl (As := [.int x]) (rest := [.int (s 9 3)]) (c_X11_bitOf l B s t x) (zCB (nA := 1) C rfl rfl tw_431 tw_1 tw_475 (by decide +kernel) ⟨Nat.le_of_ble_eq_true rfl, Nat.le_of_ble_eq_true rfl⟩) tw_430 rfl rfl (Nat.le_of_ble_eq_true rfl) dX11_buy_31 (Nat.zero_le _) ?_
  refine z_iand C dX11_buy_34 ?_
  refine z_if_eq C 45 dX11_buy_35 (by decide) (fun hbr => absurd hbr g) (fun _ => ?_)
  refine z_aload_n C dX11_buy_38 1 rfl rfl ?_
  refine z_bipush C dX11_buy_39 kb_m3 ?_
  refine f_callVr C hl (As := [.int (-3)]) (rest := []) (c_X11_refuse3 l B s t) zb_0 (zg_11 zk_0) rfl (zCB (nA := 1) C rfl rfl tw_272 tw_1 tw_269 (by decide +kernel) ⟨Nat.le_of_ble_eq_true rfl, Nat.le_of_ble_eq_true rfl⟩) tw_271 tp_0 rfl rfl (Nat.le_of_ble_eq_true rfl) dX11_buy_41 (Nat.zero_le _) ?_
  refine z_iret C E rfl dX11_buy_44 rfl (Nat.le_refl _) ⟨rfl, rfl⟩
set_option maxRecDepth 100000 in
set_option maxHeartbeats 4000000 in
theorem c_X11_buy_ok (l : Launch) (B : zB) (s : zS) (t : zL) (N : Nat) (hN : s 8 4 = nI N) (h6 : N ≤ 6) (d : Nat) (hd : d < N) (x : Int32) (hx : x = nI d) (hK : ∃ c, c < 6 ∧ s (11 + d) 0 = nI c) (g : s 9 3 &&& wBit x = 0) (p : Nat) (hp : p ≤ 8) (hc : s 8 6 = nI p) : zD l B mX11_buy s t [.ref (B.1 + 0), .int x] (some (.int (wCost (wRmb s p (11 + d) 0) (wRmb s p (11 + d) 3)))) (zu (zu (wRmb s p) 9 3 ((wRmb s p) 9 3 ||| wBit x)) 9 5 ((zu (wRmb s p) 9 3 ((wRmb s p) 9 3 ||| wBit x)) 9 5 + (wCost (wRmb s p (11 + d) 0) (wRmb s p (11 + d) 3)))) t := by
  refine z_met (by decide) (Nat.le_of_ble_eq_true rfl) ?_
  intro X hl C E hnm
  show Zf X B mX11_buy s t 0 [(0, .ref (B.1 + 0)), (1, .int x)] []
  refine z_aload_n C dX11_buy_0 0 rfl rfl ?_
  refine f_get11 C 1 (v := .ref (B.1 + 8)) (by decide) tw_226 rfl zk_0 zb_0 rfl dX11_buy_1 ?_
  refine z_iload_n C dX11_buy_4 1 rfl rfl ?_
  refine f_callVr C hl (As := [.int x]) (rest := []) (c_X1_deputyAt8s l B s t d (by omega) x hx (by rw [hx, hN]; exact nI_lt hd (by omega))) zb_8 (zg_1 zk_8) rfl (zCB (nA := 1) C rfl rfl tw_424 tw_8 tw_474 (by decide +kernel) ⟨Nat.le_of_ble_eq_true rfl, Nat.le_of_ble_eq_true rfl⟩) tw_422 tw_423 rfl rfl (Nat.le_of_ble_eq_true rfl) dX11_buy_5 (Nat.zero_le _) ?_
  refine z_astore_n C [(2, .ref (B.1 + (11 + d))), (0, .ref (B.1 + 0)), (1, .int x)] dX11_buy_8 rfl (by decide) rfl ?_
  refine z_aload_n C dX11_buy_9 0 rfl rfl ?_
  refine z_ifnonnull C 20 dX11_buy_10 (by decide) ?_
  refine z_aload_n C dX11_buy_20 1 rfl rfl ?_
  refine f_get11 C 1 (v := .ref (B.1 + 8)) (by decide) tw_226 rfl zk_0 zb_0 rfl dX11_buy_21 ?_
  refine f_get1 C 0 (v := .ref (B.1 + 9)) (by decide) tw_168 rfl zk_8 zb_8 rfl dX11_buy_24 ?_
  refine f_get8 C 3 (v := .int (s 9 3)) (by decide) tw_92 rfl zk_9 zb_9 rfl dX11_buy_27 ?_
  refine z_iload_n C dX11_buy_30 2 rfl rfl ?_
  refine f_callSr C hl (As := [.int x]) (rest := [.int (s 9 3)]) (c_X11_bitOf l B s t x) (zCB (nA := 1) C rfl rfl tw_431 tw_1 tw_475 (by decide +kernel) ⟨Nat.le_of_ble_eq_true rfl, Nat.le_of_ble_eq_true rfl⟩) tw_430 rfl rfl (Nat.le_of_ble_eq_true rfl) dX11_buy_31 (Nat.zero_le _) ?_
  refine z_iand C dX11_buy_34 ?_
  refine z_if_eq C 45 dX11_buy_35 (by decide) (fun _ => ?_) (fun hbr => absurd g hbr)
  refine z_aload_n C dX11_buy_45 1 rfl rfl ?_
  refine f_get11 C 1 (v := .ref (B.1 + 8)) (by decide) tw_226 rfl zk_0 zb_0 rfl dX11_buy_46 ?_
  refine f_callVv C hl (As := []) (rest := []) (c_X1_remember l B s t p hp hc) zb_8 (zg_1 zk_8) rfl (zCB (nA := 0) C rfl rfl tw_465 tw_8 tw_462 (by decide +kernel) ⟨Nat.le_of_ble_eq_true rfl, Nat.le_of_ble_eq_true rfl⟩) tw_463 tw_464 rfl rfl (Nat.le_of_ble_eq_true rfl) dX11_buy_49 (Nat.zero_le _) ?_
  refine z_aload_n C dX11_buy_52 1 rfl rfl ?_
  refine z_aload_n C dX11_buy_53 0 rfl rfl ?_
  refine f_callVr C hl (As := [.ref (B.1 + (11 + d))]) (rest := []) (c_X11_costOf l B (wRmb s p) t (11 + d) (zk_dep d (by omega)) (by omega) (by rw [wRmb_row hp (by omega) (Or.inl (by omega))]; exact hK)) zb_0 (zg_11 zk_0) rfl (zCB (nA := 1) C rfl rfl tw_539 tw_1 tw_536 (by decide +kernel) ⟨Nat.le_of_ble_eq_true rfl, Nat.le_of_ble_eq_true rfl⟩) tw_538 tp_13 rfl rfl (Nat.le_of_ble_eq_true rfl) dX11_buy_54 (Nat.zero_le _) ?_
  refine z_istore_n C [(3, .int (wCost (wRmb s p (11 + d) 0) (wRmb s p (11 + d) 3))), (2, .ref (B.1 + (11 + d))), (0, .ref (B.1 + 0)), (1, .int x)] dX11_buy_57 rfl (by decide) rfl ?_
  refine z_aload_n C dX11_buy_58 2 rfl rfl ?_
  refine f_get11 C 1 (v := .ref (B.1 + 8)) (by decide) tw_226 rfl zk_0 zb_0 rfl dX11_buy_59 ?_
  refine f_get1 C 0 (v := .ref (B.1 + 9)) (by decide) tw_168 rfl zk_8 zb_8 rfl dX11_buy_62 ?_
  refine z_dup C dX11_buy_65 rfl ?_
  refine f_get8 C 3 (v := .int ((wRmb s p) 9 3)) (by decide) tw_92 rfl zk_9 zb_9 rfl dX11_buy_66 ?_
  refine z_iload_n C dX11_buy_69 3 rfl rfl ?_
  refine f_callSr C hl (As := [.int x]) (rest := [.int ((wRmb s p) 9 3), .ref (B.1 + 9)]) (c_X11_bitOf l B (wRmb s p) t x) (zCB (nA := 1) C rfl rfl tw_431 tw_1 tw_475 (by decide +kernel) ⟨Nat.le_of_ble_eq_true rfl, Nat.le_of_ble_eq_true rfl⟩) tw_430 rfl rfl (Nat.le_of_ble_eq_true rfl) dX11_buy_70 (Nat.zero_le _) ?_
  refine z_ior C dX11_buy_73 ?_
  refine f_put8_3 C tw_92 zk_9 zb_9 dX11_buy_74 ?_
  refine z_aload_n C dX11_buy_77 2 rfl rfl ?_
  refine f_get11 C 1 (v := .ref (B.1 + 8)) (by decide) tw_226 rfl zk_0 zb_0 rfl dX11_buy_78 ?_
  refine f_get1 C 0 (v := .ref (B.1 + 9)) (by decide) tw_168 rfl zk_8 zb_8 rfl dX11_buy_81 ?_
  refine z_dup C dX11_buy_84 rfl ?_
  refine f_get8 C 5 (v := .int ((zu (wRmb s p) 9 3 (((wRmb s p) 9 3) ||| (wBit x))) 9 5)) (by decide) tw_96 rfl zk_9 zb_9 rfl dX11_buy_85 ?_
  refine z_iload_n C dX11_buy_88 0 rfl rfl ?_
  refine z_iadd C dX11_buy_89 ?_
  refine f_put8_5 C tw_96 zk_9 zb_9 dX11_buy_90 ?_
  refine z_iload_n C dX11_buy_93 0 rfl rfl ?_
  refine z_iret C E rfl dX11_buy_94 rfl (Nat.le_refl _) ⟨rfl, rfl⟩
abbrev mX11_lock : zM := (yX11_lock, cX11_lock, 2, (some .int), { frames := 2, cells := 0, slots := 0, locals := 42 })
set_option maxRecDepth 100000 in
set_option maxHeartbeats 4000000 in
theorem c_X11_lock_bad (l : Launch) (B : zB) (s : zS) (t : zL) (x : Int32) (hx : x < 0 ∨ s 8 4 ≤ x) : zD l B mX11_lock s t [.ref (B.1 + 0), .int x] (some (.int (-2))) (zu s 0 9 (s 0 9 + 1)) t := by
  refine z_met (by decide) (Nat.le_of_ble_eq_true rfl) ?_
  intro X hl C E hnm
  show Zf X B mX11_lock s t 0 [(0, .ref (B.1 + 0)), (1, .int x)] []
  refine z_aload_n C dX11_lock_0 0 rfl rfl ?_
  refine f_get11 C 1 (v := .ref (B.1 + 8)) (by decide) tw_226 rfl zk_0 zb_0 rfl dX11_lock_1 ?_
  refine z_iload_n C dX11_lock_4 1 rfl rfl ?_
  refine f_callVr C hl (As := [.int x]) (rest := []) (c_X1_deputyAt8n l B s t x hx) zb_8 (zg_1 zk_8) rfl (zCB (nA := 1) C rfl rfl tw_424 tw_8 tw_474 (by decide +kernel) ⟨Nat.le_of_ble_eq_true rfl, Nat.le_of_ble_eq_true rfl⟩) tw_422 tw_423 rfl rfl (Nat.le_of_ble_eq_true rfl) dX11_lock_5 (Nat.zero_le _) ?_
  refine z_ifnonnullN C dX11_lock_8 ?_
  refine z_aload_n C dX11_lock_11 0 rfl rfl ?_
  refine z_bipush C dX11_lock_12 kb_m2 ?_
  refine f_callVr C hl (As := [.int (-2)]) (rest := []) (c_X11_refuse2 l B s t) zb_0 (zg_11 zk_0) rfl (zCB (nA := 1) C rfl rfl tw_272 tw_1 tw_269 (by decide +kernel) ⟨Nat.le_of_ble_eq_true rfl, Nat.le_of_ble_eq_true rfl⟩) tw_271 tp_0 rfl rfl (Nat.le_of_ble_eq_true rfl) dX11_lock_14 (Nat.zero_le _) ?_
  refine z_iret C E rfl dX11_lock_17 rfl (Nat.le_refl _) ⟨rfl, rfl⟩
set_option maxRecDepth 100000 in
set_option maxHeartbeats 4000000 in
theorem c_X11_lock_no (l : Launch) (B : zB) (s : zS) (t : zL) (N : Nat) (hN : s 8 4 = nI N) (h6 : N ≤ 6) (d : Nat) (hd : d < N) (x : Int32) (hx : x = nI d) (g : ¬ s 9 4 = 0) : zD l B mX11_lock s t [.ref (B.1 + 0), .int x] (some (.int (-3))) (zu s 0 10 (s 0 10 + 1)) t := by
  refine z_met (by decide) (Nat.le_of_ble_eq_true rfl) ?_
  intro X hl C E hnm
  show Zf X B mX11_lock s t 0 [(0, .ref (B.1 + 0)), (1, .int x)] []
  refine z_aload_n C dX11_lock_0 0 rfl rfl ?_
  refine f_get11 C 1 (v := .ref (B.1 + 8)) (by decide) tw_226 rfl zk_0 zb_0 rfl dX11_lock_1 ?_
  refine z_iload_n C dX11_lock_4 1 rfl rfl ?_
  refine f_callVr C hl (As := [.int x]) (rest := []) (c_X1_deputyAt8s l B s t d (by omega) x hx (by rw [hx, hN]; exact nI_lt hd (by omega))) zb_8 (zg_1 zk_8) rfl (zCB (nA := 1) C rfl rfl tw_424 tw_8 tw_474 (by decide +kernel) ⟨Nat.le_of_ble_eq_true rfl, Nat.le_of_ble_eq_true rfl⟩) tw_422 tw_423 rfl rfl (Nat.le_of_ble_eq_true rfl) dX11_lock_5 (Nat.zero_le _) ?_
  refine z_ifnonnull C 18 dX11_lock_8 (by decide) ?_
  refine z_aload_n C dX11_lock_18 0 rfl rfl ?_
  refine f_get11 C 1 (v := .ref (B.1 + 8)) (by decide) tw_226 rfl zk_0 zb_0 rfl dX11_lock_19 ?_
  refine f_get1 C 0 (v := .ref (B.1 + 9)) (by decide) tw_168 rfl zk_8 zb_8 rfl dX11_lock_22 ?_
  refine f_get8 C 4 (v := .int (s 9 4)) (by decide) tw_94 rfl zk_9 zb_9 rfl dX11_lock_25 ?_
  refine z_if_eq C 38 dX11_lock_28 (by decide) (fun hbr => absurd hbr g) (fun _ => ?_)
  refine z_aload_n C dX11_lock_31 0 rfl rfl ?_
  refine z_bipush C dX11_lock_32 kb_m3 ?_
  refine f_callVr C hl (As := [.int (-3)]) (rest := []) (c_X11_refuse3 l B s t) zb_0 (zg_11 zk_0) rfl (zCB (nA := 1) C rfl rfl tw_272 tw_1 tw_269 (by decide +kernel) ⟨Nat.le_of_ble_eq_true rfl, Nat.le_of_ble_eq_true rfl⟩) tw_271 tp_0 rfl rfl (Nat.le_of_ble_eq_true rfl) dX11_lock_34 (Nat.zero_le _) ?_
  refine z_iret C E rfl dX11_lock_37 rfl (Nat.le_refl _) ⟨rfl, rfl⟩
set_option maxRecDepth 100000 in
set_option maxHeartbeats 4000000 in
theorem c_X11_lock_ok (l : Launch) (B : zB) (s : zS) (t : zL) (N : Nat) (hN : s 8 4 = nI N) (h6 : N ≤ 6) (d : Nat) (hd : d < N) (x : Int32) (hx : x = nI d) (g : s 9 4 = 0) (p : Nat) (hp : p ≤ 8) (hc : s 8 6 = nI p) : zD l B mX11_lock s t [.ref (B.1 + 0), .int x] (some (.int 1)) (zu (wRmb s p) 9 4 (wBit x)) t := by
  refine z_met (by decide) (Nat.le_of_ble_eq_true rfl) ?_
  intro X hl C E hnm
  show Zf X B mX11_lock s t 0 [(0, .ref (B.1 + 0)), (1, .int x)] []
  refine z_aload_n C dX11_lock_0 0 rfl rfl ?_
  refine f_get11 C 1 (v := .ref (B.1 + 8)) (by decide) tw_226 rfl zk_0 zb_0 rfl dX11_lock_1 ?_
  refine z_iload_n C dX11_lock_4 1 rfl rfl ?_
  refine f_callVr C hl (As := [.int x]) (rest := []) (c_X1_deputyAt8s l B s t d (by omega) x hx (by rw [hx, hN]; exact nI_lt hd (by omega))) zb_8 (zg_1 zk_8) rfl (zCB (nA := 1) C rfl rfl tw_424 tw_8 tw_474 (by decide +kernel) ⟨Nat.le_of_ble_eq_true rfl, Nat.le_of_ble_eq_true rfl⟩) tw_422 tw_423 rfl rfl (Nat.le_of_ble_eq_true rfl) dX11_lock_5 (Nat.zero_le _) ?_
  refine z_ifnonnull C 18 dX11_lock_8 (by decide) ?_
  refine z_aload_n C dX11_lock_18 0 rfl rfl ?_
  refine f_get11 C 1 (v := .ref (B.1 + 8)) (by decide) tw_226 rfl zk_0 zb_0 rfl dX11_lock_19 ?_
  refine f_get1 C 0 (v := .ref (B.1 + 9)) (by decide) tw_168 rfl zk_8 zb_8 rfl dX11_lock_22 ?_
  refine f_get8 C 4 (v := .int (s 9 4)) (by decide) tw_94 rfl zk_9 zb_9 rfl dX11_lock_25 ?_
  refine z_if_eq C 38 dX11_lock_28 (by decide) (fun _ => ?_) (fun hbr => absurd g hbr)
  refine z_aload_n C dX11_lock_38 0 rfl rfl ?_
  refine f_get11 C 1 (v := .ref (B.1 + 8)) (by decide) tw_226 rfl zk_0 zb_0 rfl dX11_lock_39 ?_
  refine f_callVv C hl (As := []) (rest := []) (c_X1_remember l B s t p hp hc) zb_8 (zg_1 zk_8) rfl (zCB (nA := 0) C rfl rfl tw_465 tw_8 tw_462 (by decide +kernel) ⟨Nat.le_of_ble_eq_true rfl, Nat.le_of_ble_eq_true rfl⟩) tw_463 tw_464 rfl rfl (Nat.le_of_ble_eq_true rfl) dX11_lock_42 (Nat.zero_le _) ?_
  refine z_aload_n C dX11_lock_45 0 rfl rfl ?_
  refine f_get11 C 1 (v := .ref (B.1 + 8)) (by decide) tw_226 rfl zk_0 zb_0 rfl dX11_lock_46 ?_
  refine f_get1 C 0 (v := .ref (B.1 + 9)) (by decide) tw_168 rfl zk_8 zb_8 rfl dX11_lock_49 ?_
  refine z_iload_n C dX11_lock_52 1 rfl rfl ?_
  refine f_callSr C hl (As := [.int x]) (rest := [.ref (B.1 + 9)]) (c_X11_bitOf l B (wRmb s p) t x) (zCB (nA := 1) C rfl rfl tw_431 tw_1 tw_475 (by decide +kernel) ⟨Nat.le_of_ble_eq_true rfl, Nat.le_of_ble_eq_true rfl⟩) tw_430 rfl rfl (Nat.le_of_ble_eq_true rfl) dX11_lock_53 (Nat.zero_le _) ?_
  refine f_put8_4 C tw_94 zk_9 zb_9 dX11_lock_56 ?_
  refine z_iconst C dX11_lock_59 ki_1 ?_
  refine z_iret C E rfl dX11_lock_60 rfl (Nat.le_refl _) ⟨rfl, rfl⟩
abbrev mX11_undo : zM := (yX11_undo, cX11_undo, 1, (some .int), { frames := 2, cells := 0, slots := 0, locals := 41 })
set_option maxRecDepth 100000 in
set_option maxHeartbeats 4000000 in
theorem c_X11_undo_no (l : Launch) (B : zB) (s : zS) (t : zL) (hc : s 8 6 = 0) : zD l B mX11_undo s t [.ref (B.1 + 0)] (some (.int (-3))) (zu s 0 10 (s 0 10 + 1)) t := by
  refine z_met (by decide) (Nat.le_of_ble_eq_true rfl) ?_
  intro X hl C E hnm
  show Zf X B mX11_undo s t 0 [(0, .ref (B.1 + 0))] []
  refine z_aload_n C dX11_undo_0 0 rfl rfl ?_
  refine f_get11 C 1 (v := .ref (B.1 + 8)) (by decide) tw_226 rfl zk_0 zb_0 rfl dX11_undo_1 ?_
  refine f_get1 C 6 (v := .int (s 8 6)) (by decide) tw_177 rfl zk_8 zb_8 rfl dX11_undo_4 ?_
  refine f_topi hc ?_
  refine z_if_ne C 17 dX11_undo_7 (by decide) (fun hbr => absurd (by decide) hbr) (fun _ => ?_)
  refine z_aload_n C dX11_undo_10 0 rfl rfl ?_
  refine z_bipush C dX11_undo_11 kb_m3 ?_
  refine f_callVr C hl (As := [.int (-3)]) (rest := []) (c_X11_refuse3 l B s t) zb_0 (zg_11 zk_0) rfl (zCB (nA := 1) C rfl rfl tw_272 tw_1 tw_269 (by decide +kernel) ⟨Nat.le_of_ble_eq_true rfl, Nat.le_of_ble_eq_true rfl⟩) tw_271 tp_0 rfl rfl (Nat.le_of_ble_eq_true rfl) dX11_undo_13 (Nat.zero_le _) ?_
  refine z_iret C E rfl dX11_undo_16 rfl (Nat.le_refl _) ⟨rfl, rfl⟩
set_option maxRecDepth 100000 in
set_option maxHeartbeats 4000000 in
theorem c_X11_undo_ok (l : Launch) (B : zB) (s : zS) (t : zL) (n : Nat) (hn : n < 8) (hc : s 8 6 = nI (n + 1)) : zD l B mX11_undo s t [.ref (B.1 + 0)] (some (.int (wBack s n 9 0))) (wBack s n) t := by
  refine z_met (by decide) (Nat.le_of_ble_eq_true rfl) ?_
  intro X hl C E hnm
  show Zf X B mX11_undo s t 0 [(0, .ref (B.1 + 0))] []
  refine z_aload_n C dX11_undo_0 0 rfl rfl ?_
  refine f_get11 C 1 (v := .ref (B.1 + 8)) (by decide) tw_226 rfl zk_0 zb_0 rfl dX11_undo_1 ?_
  refine f_get1 C 6 (v := .int (s 8 6)) (by decide) tw_177 rfl zk_8 zb_8 rfl dX11_undo_4 ?_
  refine f_topi hc ?_
  refine z_if_ne C 17 dX11_undo_7 (by decide) (fun _ => ?_) (fun hbr => absurd hbr (nI_ne0 (by omega) (by omega)))
  refine z_aload_n C dX11_undo_17 0 rfl rfl ?_
  refine f_get11 C 1 (v := .ref (B.1 + 8)) (by decide) tw_226 rfl zk_0 zb_0 rfl dX11_undo_18 ?_
  refine f_callVv C hl (As := []) (rest := []) (c_X1_goBack l B s t n hn hc) zb_8 (zg_1 zk_8) rfl (zCB (nA := 0) C rfl rfl tw_569 tw_8 tw_566 (by decide +kernel) ⟨Nat.le_of_ble_eq_true rfl, Nat.le_of_ble_eq_true rfl⟩) tw_567 tw_568 rfl rfl (Nat.le_of_ble_eq_true rfl) dX11_undo_21 (Nat.zero_le _) ?_
  refine z_aload_n C dX11_undo_24 0 rfl rfl ?_
  refine f_get11 C 1 (v := .ref (B.1 + 8)) (by decide) tw_226 rfl zk_0 zb_0 rfl dX11_undo_25 ?_
  refine f_get1 C 0 (v := .ref (B.1 + 9)) (by decide) tw_168 rfl zk_8 zb_8 rfl dX11_undo_28 ?_
  refine f_get8 C 0 (v := .int ((wBack s n) 9 0)) (by decide) tw_84 rfl zk_9 zb_9 rfl dX11_undo_31 ?_
  refine z_iret C E rfl dX11_undo_34 rfl (Nat.le_refl _) ⟨rfl, rfl⟩
abbrev mX11_of : zM := (yX11_of, cX11_of, 4, (some .int), { frames := 3, cells := 0, slots := 0, locals := 63 })
set_option maxRecDepth 100000 in
set_option maxHeartbeats 4000000 in
theorem c_X11_of_bad (l : Launch) (B : zB) (s : zS) (t : zL) (x : Int32) (hx : x < 0 ∨ s 8 4 ≤ x) (w : Int32) : zD l B mX11_of s t [.ref (B.1 + 0), .int x, .int w] (some (.int (-2))) (zu s 0 9 (s 0 9 + 1)) t := by
  refine z_met (by decide) (Nat.le_of_ble_eq_true rfl) ?_
  intro X hl C E hnm
  show Zf X B mX11_of s t 0 [(0, .ref (B.1 + 0)), (1, .int x), (2, .int w)] []
  refine z_aload_n C dX11_of_0 0 rfl rfl ?_
  refine f_get11 C 1 (v := .ref (B.1 + 8)) (by decide) tw_226 rfl zk_0 zb_0 rfl dX11_of_1 ?_
  refine z_iload_n C dX11_of_4 1 rfl rfl ?_
  refine f_callVr C hl (As := [.int x]) (rest := []) (c_X1_deputyAt8n l B s t x hx) zb_8 (zg_1 zk_8) rfl (zCB (nA := 1) C rfl rfl tw_424 tw_8 tw_474 (by decide +kernel) ⟨Nat.le_of_ble_eq_true rfl, Nat.le_of_ble_eq_true rfl⟩) tw_422 tw_423 rfl rfl (Nat.le_of_ble_eq_true rfl) dX11_of_5 (Nat.zero_le _) ?_
  refine z_astore_nN C [(3, .null), (0, .ref (B.1 + 0)), (1, .int x), (2, .int w)] dX11_of_8 rfl (by decide) rfl ?_
  refine z_aload_nN C dX11_of_9 0 rfl rfl ?_
  refine z_ifnonnullN C dX11_of_10 ?_
  refine z_aload_n C dX11_of_13 1 rfl rfl ?_
  refine z_bipush C dX11_of_14 kb_m2 ?_
  refine f_callVr C hl (As := [.int (-2)]) (rest := []) (c_X11_refuse2 l B s t) zb_0 (zg_11 zk_0) rfl (zCB (nA := 1) C rfl rfl tw_272 tw_1 tw_269 (by decide +kernel) ⟨Nat.le_of_ble_eq_true rfl, Nat.le_of_ble_eq_true rfl⟩) tw_271 tp_0 rfl rfl (Nat.le_of_ble_eq_true rfl) dX11_of_16 (Nat.zero_le _) ?_
  refine z_iret C E rfl dX11_of_19 rfl (Nat.le_refl _) ⟨rfl, rfl⟩
set_option maxRecDepth 100000 in
set_option maxHeartbeats 4000000 in
theorem c_X11_of_badw (l : Launch) (B : zB) (s : zS) (t : zL) (N : Nat) (hN : s 8 4 = nI N) (h6 : N ≤ 6) (d : Nat) (hd : d < N) (x : Int32) (hx : x = nI d) (w : Int32) (hsw : w.toInt < 0 ∨ 6 < w.toInt) : zD l B mX11_of s t [.ref (B.1 + 0), .int x, .int w] (some (.int (-2))) (zu s 0 9 (s 0 9 + 1)) t := by
  refine z_met (by decide) (Nat.le_of_ble_eq_true rfl) ?_
  intro X hl C E hnm
  show Zf X B mX11_of s t 0 [(0, .ref (B.1 + 0)), (1, .int x), (2, .int w)] []
  refine z_aload_n C dX11_of_0 0 rfl rfl ?_
  refine f_get11 C 1 (v := .ref (B.1 + 8)) (by decide) tw_226 rfl zk_0 zb_0 rfl dX11_of_1 ?_
  refine z_iload_n C dX11_of_4 1 rfl rfl ?_
  refine f_callVr C hl (As := [.int x]) (rest := []) (c_X1_deputyAt8s l B s t d (by omega) x hx (by rw [hx, hN]; exact nI_lt hd (by omega))) zb_8 (zg_1 zk_8) rfl (zCB (nA := 1) C rfl rfl tw_424 tw_8 tw_474 (by decide +kernel) ⟨Nat.le_of_ble_eq_true rfl, Nat.le_of_ble_eq_true rfl⟩) tw_422 tw_423 rfl rfl (Nat.le_of_ble_eq_true rfl) dX11_of_5 (Nat.zero_le _) ?_
  refine z_astore_n C [(3, .ref (B.1 + (11 + d))), (0, .ref (B.1 + 0)), (1, .int x), (2, .int w)] dX11_of_8 rfl (by decide) rfl ?_
  refine z_aload_n C dX11_of_9 0 rfl rfl ?_
  refine z_ifnonnull C 20 dX11_of_10 (by decide) ?_
  refine z_iload_n C dX11_of_20 3 rfl rfl ?_
  refine z_tableOut C 144 dX11_of_21 hsw (by decide) ?_
  refine z_aload_n C dX11_of_144 1 rfl rfl ?_
  refine z_bipush C dX11_of_145 kb_m2 ?_
  refine f_callVr C hl (As := [.int (-2)]) (rest := []) (c_X11_refuse2 l B s t) zb_0 (zg_11 zk_0) rfl (zCB (nA := 1) C rfl rfl tw_272 tw_1 tw_269 (by decide +kernel) ⟨Nat.le_of_ble_eq_true rfl, Nat.le_of_ble_eq_true rfl⟩) tw_271 tp_0 rfl rfl (Nat.le_of_ble_eq_true rfl) dX11_of_147 (Nat.zero_le _) ?_
  refine z_iret C E rfl dX11_of_150 rfl (Nat.le_refl _) ⟨rfl, rfl⟩
set_option maxRecDepth 100000 in
set_option maxHeartbeats 4000000 in
theorem c_X11_of_0 (l : Launch) (B : zB) (s : zS) (t : zL) (N : Nat) (hN : s 8 4 = nI N) (h6 : N ≤ 6) (d : Nat) (hd : d < N) (x : Int32) (hx : x = nI d) (hK : ∃ c, c < 6 ∧ s (11 + d) 0 = nI c) : zD l B mX11_of s t [.ref (B.1 + 0), .int x, .int 0] (some (.int (s (11 + d) 0))) s t := by
  refine z_met (by decide) (Nat.le_of_ble_eq_true rfl) ?_
  intro X hl C E hnm
  show Zf X B mX11_of s t 0 [(0, .ref (B.1 + 0)), (1, .int x), (2, .int 0)] []
  refine z_aload_n C dX11_of_0 0 rfl rfl ?_
  refine f_get11 C 1 (v := .ref (B.1 + 8)) (by decide) tw_226 rfl zk_0 zb_0 rfl dX11_of_1 ?_
  refine z_iload_n C dX11_of_4 1 rfl rfl ?_
  refine f_callVr C hl (As := [.int x]) (rest := []) (c_X1_deputyAt8s l B s t d (by omega) x hx (by rw [hx, hN]; exact nI_lt hd (by omega))) zb_8 (zg_1 zk_8) rfl (zCB (nA := 1) C rfl rfl tw_424 tw_8 tw_474 (by decide +kernel) ⟨Nat.le_of_ble_eq_true rfl, Nat.le_of_ble_eq_true rfl⟩) tw_422 tw_423 rfl rfl (Nat.le_of_ble_eq_true rfl) dX11_of_5 (Nat.zero_le _) ?_
  refine z_astore_n C [(3, .ref (B.1 + (11 + d))), (0, .ref (B.1 + 0)), (1, .int x), (2, .int 0)] dX11_of_8 rfl (by decide) rfl ?_
  refine z_aload_n C dX11_of_9 0 rfl rfl ?_
  refine z_ifnonnull C 20 dX11_of_10 (by decide) ?_
  refine z_iload_n C dX11_of_20 3 rfl rfl ?_
  refine z_tableIn C (off := 43) 64 dX11_of_21 (by decide) (by decide) (by decide) (by decide) ?_
  refine z_aload_n C dX11_of_64 0 rfl rfl ?_
  refine f_get0 C 0 (v := .int (s (11 + d) 0)) (by decide) tw_119 rfl (zk_dep d (by omega)) (by omega) rfl dX11_of_65 ?_
  refine z_iret C E rfl dX11_of_68 rfl (Nat.le_refl _) ⟨rfl, rfl⟩
set_option maxRecDepth 100000 in
set_option maxHeartbeats 4000000 in
theorem c_X11_of_1 (l : Launch) (B : zB) (s : zS) (t : zL) (N : Nat) (hN : s 8 4 = nI N) (h6 : N ≤ 6) (d : Nat) (hd : d < N) (x : Int32) (hx : x = nI d) (hK : ∃ c, c < 6 ∧ s (11 + d) 0 = nI c) : zD l B mX11_of s t [.ref (B.1 + 0), .int x, .int 1] (some (.int (s (11 + d) 1))) s t := by
  refine z_met (by decide) (Nat.le_of_ble_eq_true rfl) ?_
  intro X hl C E hnm
  show Zf X B mX11_of s t 0 [(0, .ref (B.1 + 0)), (1, .int x), (2, .int 1)] []
  refine z_aload_n C dX11_of_0 0 rfl rfl ?_
  refine f_get11 C 1 (v := .ref (B.1 + 8)) (by decide) tw_226 rfl zk_0 zb_0 rfl dX11_of_1 ?_
  refine z_iload_n C dX11_of_4 1 rfl rfl ?_
  refine f_callVr C hl (As := [.int x]) (rest := []) (c_X1_deputyAt8s l B s t d (by omega) x hx (by rw [hx, hN]; exact nI_lt hd (by omega))) zb_8 (zg_1 zk_8) rfl (zCB (nA := 1) C rfl rfl tw_424 tw_8 tw_474 (by decide +kernel) ⟨Nat.le_of_ble_eq_true rfl, Nat.le_of_ble_eq_true rfl⟩) tw_422 tw_423 rfl rfl (Nat.le_of_ble_eq_true rfl) dX11_of_5 (Nat.zero_le _) ?_
  refine z_astore_n C [(3, .ref (B.1 + (11 + d))), (0, .ref (B.1 + 0)), (1, .int x), (2, .int 1)] dX11_of_8 rfl (by decide) rfl ?_
  refine z_aload_n C dX11_of_9 0 rfl rfl ?_
  refine z_ifnonnull C 20 dX11_of_10 (by decide) ?_
  refine z_iload_n C dX11_of_20 3 rfl rfl ?_
  refine z_tableIn C (off := 48) 69 dX11_of_21 (by decide) (by decide) (by decide) (by decide) ?_
  refine z_aload_n C dX11_of_69 0 rfl rfl ?_
  refine f_get0 C 1 (v := .int (s (11 + d) 1)) (by decide) tw_122 rfl (zk_dep d (by omega)) (by omega) rfl dX11_of_70 ?_
  refine z_iret C E rfl dX11_of_73 rfl (Nat.le_refl _) ⟨rfl, rfl⟩
set_option maxRecDepth 100000 in
set_option maxHeartbeats 4000000 in
theorem c_X11_of_2 (l : Launch) (B : zB) (s : zS) (t : zL) (N : Nat) (hN : s 8 4 = nI N) (h6 : N ≤ 6) (d : Nat) (hd : d < N) (x : Int32) (hx : x = nI d) (hK : ∃ c, c < 6 ∧ s (11 + d) 0 = nI c) : zD l B mX11_of s t [.ref (B.1 + 0), .int x, .int 2] (some (.int (s (11 + d) 2))) s t := by
  refine z_met (by decide) (Nat.le_of_ble_eq_true rfl) ?_
  intro X hl C E hnm
  show Zf X B mX11_of s t 0 [(0, .ref (B.1 + 0)), (1, .int x), (2, .int 2)] []
  refine z_aload_n C dX11_of_0 0 rfl rfl ?_
  refine f_get11 C 1 (v := .ref (B.1 + 8)) (by decide) tw_226 rfl zk_0 zb_0 rfl dX11_of_1 ?_
  refine z_iload_n C dX11_of_4 1 rfl rfl ?_
  refine f_callVr C hl (As := [.int x]) (rest := []) (c_X1_deputyAt8s l B s t d (by omega) x hx (by rw [hx, hN]; exact nI_lt hd (by omega))) zb_8 (zg_1 zk_8) rfl (zCB (nA := 1) C rfl rfl tw_424 tw_8 tw_474 (by decide +kernel) ⟨Nat.le_of_ble_eq_true rfl, Nat.le_of_ble_eq_true rfl⟩) tw_422 tw_423 rfl rfl (Nat.le_of_ble_eq_true rfl) dX11_of_5 (Nat.zero_le _) ?_
  refine z_astore_n C [(3, .ref (B.1 + (11 + d))), (0, .ref (B.1 + 0)), (1, .int x), (2, .int 2)] dX11_of_8 rfl (by decide) rfl ?_
  refine z_aload_n C dX11_of_9 0 rfl rfl ?_
  refine z_ifnonnull C 20 dX11_of_10 (by decide) ?_
  refine z_iload_n C dX11_of_20 3 rfl rfl ?_
  refine z_tableIn C (off := 53) 74 dX11_of_21 (by decide) (by decide) (by decide) (by decide) ?_
  refine z_aload_n C dX11_of_74 0 rfl rfl ?_
  refine f_get0 C 2 (v := .int (s (11 + d) 2)) (by decide) tw_125 rfl (zk_dep d (by omega)) (by omega) rfl dX11_of_75 ?_
  refine z_iret C E rfl dX11_of_78 rfl (Nat.le_refl _) ⟨rfl, rfl⟩
set_option maxRecDepth 100000 in
set_option maxHeartbeats 4000000 in
theorem c_X11_of_3 (l : Launch) (B : zB) (s : zS) (t : zL) (N : Nat) (hN : s 8 4 = nI N) (h6 : N ≤ 6) (d : Nat) (hd : d < N) (x : Int32) (hx : x = nI d) (hK : ∃ c, c < 6 ∧ s (11 + d) 0 = nI c) : zD l B mX11_of s t [.ref (B.1 + 0), .int x, .int 3] (some (.int (s (11 + d) 3))) s t := by
  refine z_met (by decide) (Nat.le_of_ble_eq_true rfl) ?_
  intro X hl C E hnm
  show Zf X B mX11_of s t 0 [(0, .ref (B.1 + 0)), (1, .int x), (2, .int 3)] []
  refine z_aload_n C dX11_of_0 0 rfl rfl ?_
  refine f_get11 C 1 (v := .ref (B.1 + 8)) (by decide) tw_226 rfl zk_0 zb_0 rfl dX11_of_1 ?_
  refine z_iload_n C dX11_of_4 1 rfl rfl ?_
  refine f_callVr C hl (As := [.int x]) (rest := []) (c_X1_deputyAt8s l B s t d (by omega) x hx (by rw [hx, hN]; exact nI_lt hd (by omega))) zb_8 (zg_1 zk_8) rfl (zCB (nA := 1) C rfl rfl tw_424 tw_8 tw_474 (by decide +kernel) ⟨Nat.le_of_ble_eq_true rfl, Nat.le_of_ble_eq_true rfl⟩) tw_422 tw_423 rfl rfl (Nat.le_of_ble_eq_true rfl) dX11_of_5 (Nat.zero_le _) ?_
  refine z_astore_n C [(3, .ref (B.1 + (11 + d))), (0, .ref (B.1 + 0)), (1, .int x), (2, .int 3)] dX11_of_8 rfl (by decide) rfl ?_
  refine z_aload_n C dX11_of_9 0 rfl rfl ?_
  refine z_ifnonnull C 20 dX11_of_10 (by decide) ?_
  refine z_iload_n C dX11_of_20 3 rfl rfl ?_
  refine z_tableIn C (off := 58) 79 dX11_of_21 (by decide) (by decide) (by decide) (by decide) ?_
  refine z_aload_n C dX11_of_79 0 rfl rfl ?_
  refine f_get0 C 3 (v := .int (s (11 + d) 3)) (by decide) tw_128 rfl (zk_dep d (by omega)) (by omega) rfl dX11_of_80 ?_
  refine z_iret C E rfl dX11_of_83 rfl (Nat.le_refl _) ⟨rfl, rfl⟩
set_option maxRecDepth 100000 in
set_option maxHeartbeats 4000000 in
theorem c_X11_of_4 (l : Launch) (B : zB) (s : zS) (t : zL) (N : Nat) (hN : s 8 4 = nI N) (h6 : N ≤ 6) (d : Nat) (hd : d < N) (x : Int32) (hx : x = nI d) (hK : ∃ c, c < 6 ∧ s (11 + d) 0 = nI c) : zD l B mX11_of s t [.ref (B.1 + 0), .int x, .int 4] (some (.int (wCost (s (11 + d) 0) (s (11 + d) 3)))) s t := by
  refine z_met (by decide) (Nat.le_of_ble_eq_true rfl) ?_
  intro X hl C E hnm
  show Zf X B mX11_of s t 0 [(0, .ref (B.1 + 0)), (1, .int x), (2, .int 4)] []
  refine z_aload_n C dX11_of_0 0 rfl rfl ?_
  refine f_get11 C 1 (v := .ref (B.1 + 8)) (by decide) tw_226 rfl zk_0 zb_0 rfl dX11_of_1 ?_
  refine z_iload_n C dX11_of_4 1 rfl rfl ?_
  refine f_callVr C hl (As := [.int x]) (rest := []) (c_X1_deputyAt8s l B s t d (by omega) x hx (by rw [hx, hN]; exact nI_lt hd (by omega))) zb_8 (zg_1 zk_8) rfl (zCB (nA := 1) C rfl rfl tw_424 tw_8 tw_474 (by decide +kernel) ⟨Nat.le_of_ble_eq_true rfl, Nat.le_of_ble_eq_true rfl⟩) tw_422 tw_423 rfl rfl (Nat.le_of_ble_eq_true rfl) dX11_of_5 (Nat.zero_le _) ?_
  refine z_astore_n C [(3, .ref (B.1 + (11 + d))), (0, .ref (B.1 + 0)), (1, .int x), (2, .int 4)] dX11_of_8 rfl (by decide) rfl ?_
  refine z_aload_n C dX11_of_9 0 rfl rfl ?_
  refine z_ifnonnull C 20 dX11_of_10 (by decide) ?_
  refine z_iload_n C dX11_of_20 3 rfl rfl ?_
  refine z_tableIn C (off := 63) 84 dX11_of_21 (by decide) (by decide) (by decide) (by decide) ?_
  refine z_aload_n C dX11_of_84 1 rfl rfl ?_
  refine z_aload_n C dX11_of_85 0 rfl rfl ?_
  refine f_callVr C hl (As := [.ref (B.1 + (11 + d))]) (rest := []) (c_X11_costOf l B s t (11 + d) (zk_dep d (by omega)) (by omega) hK) zb_0 (zg_11 zk_0) rfl (zCB (nA := 1) C rfl rfl tw_539 tw_1 tw_536 (by decide +kernel) ⟨Nat.le_of_ble_eq_true rfl, Nat.le_of_ble_eq_true rfl⟩) tw_538 tp_13 rfl rfl (Nat.le_of_ble_eq_true rfl) dX11_of_86 (Nat.zero_le _) ?_
  refine z_iret C E rfl dX11_of_89 rfl (Nat.le_refl _) ⟨rfl, rfl⟩
set_option maxRecDepth 100000 in
set_option maxHeartbeats 4000000 in
theorem c_X11_of_5 (l : Launch) (B : zB) (s : zS) (t : zL) (N : Nat) (hN : s 8 4 = nI N) (h6 : N ≤ 6) (d : Nat) (hd : d < N) (x : Int32) (hx : x = nI d) (hK : ∃ c, c < 6 ∧ s (11 + d) 0 = nI c) : zD l B mX11_of s t [.ref (B.1 + 0), .int x, .int 5] (some (.int (zi (decide (¬ s 9 3 &&& wBit x = 0))))) s t := by
  refine z_met (by decide) (Nat.le_of_ble_eq_true rfl) ?_
  intro X hl C E hnm
  show Zf X B mX11_of s t 0 [(0, .ref (B.1 + 0)), (1, .int x), (2, .int 5)] []
  refine z_aload_n C dX11_of_0 0 rfl rfl ?_
  refine f_get11 C 1 (v := .ref (B.1 + 8)) (by decide) tw_226 rfl zk_0 zb_0 rfl dX11_of_1 ?_
  refine z_iload_n C dX11_of_4 1 rfl rfl ?_
  refine f_callVr C hl (As := [.int x]) (rest := []) (c_X1_deputyAt8s l B s t d (by omega) x hx (by rw [hx, hN]; exact nI_lt hd (by omega))) zb_8 (zg_1 zk_8) rfl (zCB (nA := 1) C rfl rfl tw_424 tw_8 tw_474 (by decide +kernel) ⟨Nat.le_of_ble_eq_true rfl, Nat.le_of_ble_eq_true rfl⟩) tw_422 tw_423 rfl rfl (Nat.le_of_ble_eq_true rfl) dX11_of_5 (Nat.zero_le _) ?_
  refine z_astore_n C [(3, .ref (B.1 + (11 + d))), (0, .ref (B.1 + 0)), (1, .int x), (2, .int 5)] dX11_of_8 rfl (by decide) rfl ?_
  refine z_aload_n C dX11_of_9 0 rfl rfl ?_
  refine z_ifnonnull C 20 dX11_of_10 (by decide) ?_
  refine z_iload_n C dX11_of_20 3 rfl rfl ?_
  refine z_tableIn C (off := 69) 90 dX11_of_21 (by decide) (by decide) (by decide) (by decide) ?_
  refine z_aload_n C dX11_of_90 1 rfl rfl ?_
  refine f_get11 C 1 (v := .ref (B.1 + 8)) (by decide) tw_226 rfl zk_0 zb_0 rfl dX11_of_91 ?_
  refine f_get1 C 0 (v := .ref (B.1 + 9)) (by decide) tw_168 rfl zk_8 zb_8 rfl dX11_of_94 ?_
  refine f_get8 C 3 (v := .int (s 9 3)) (by decide) tw_92 rfl zk_9 zb_9 rfl dX11_of_97 ?_
  refine z_iload_n C dX11_of_100 2 rfl rfl ?_
  refine f_callSr C hl (As := [.int x]) (rest := [.int (s 9 3)]) (c_X11_bitOf l B s t x) (zCB (nA := 1) C rfl rfl tw_431 tw_1 tw_475 (by decide +kernel) ⟨Nat.le_of_ble_eq_true rfl, Nat.le_of_ble_eq_true rfl⟩) tw_430 rfl rfl (Nat.le_of_ble_eq_true rfl) dX11_of_101 (Nat.zero_le _) ?_
  refine z_iand C dX11_of_104 ?_
  refine z_if_eq C 112 dX11_of_105 (by decide) (fun h105 => ?_) (fun h105 => ?_)
  · refine z_iconst C dX11_of_112 ki_0 ?_
    refine f_callSr C hl (As := [.int 0]) (rest := []) (c_X11_oneIf l B s t false) (zCB (nA := 1) C rfl rfl tw_576 tw_1 tw_574 (by decide +kernel) ⟨Nat.le_of_ble_eq_true rfl, Nat.le_of_ble_eq_true rfl⟩) tw_575 rfl rfl (Nat.le_of_ble_eq_true rfl) dX11_of_113 (Nat.zero_le _) ?_
    refine z_iret C E rfl dX11_of_116 rfl (Nat.le_refl _) ⟨by simp only [h105, not_true_eq_false, not_false_eq_true, decide_true, decide_false], rfl⟩
  · refine z_iconst C dX11_of_108 ki_1 ?_
    refine z_goto C 113 dX11_of_109 (by decide) ?_
    refine f_callSr C hl (As := [.int 1]) (rest := []) (c_X11_oneIf l B s t true) (zCB (nA := 1) C rfl rfl tw_576 tw_1 tw_574 (by decide +kernel) ⟨Nat.le_of_ble_eq_true rfl, Nat.le_of_ble_eq_true rfl⟩) tw_575 rfl rfl (Nat.le_of_ble_eq_true rfl) dX11_of_113 (Nat.zero_le _) ?_
    refine z_iret C E rfl dX11_of_116 rfl (Nat.le_refl _) ⟨by simp only [h105, not_true_eq_false, not_false_eq_true, decide_true, decide_false], rfl⟩
set_option maxRecDepth 100000 in
set_option maxHeartbeats 4000000 in
theorem c_X11_of_6 (l : Launch) (B : zB) (s : zS) (t : zL) (N : Nat) (hN : s 8 4 = nI N) (h6 : N ≤ 6) (d : Nat) (hd : d < N) (x : Int32) (hx : x = nI d) (hK : ∃ c, c < 6 ∧ s (11 + d) 0 = nI c) : zD l B mX11_of s t [.ref (B.1 + 0), .int x, .int 6] (some (.int (zi (decide (¬ s 9 4 &&& wBit x = 0))))) s t := by
  refine z_met (by decide) (Nat.le_of_ble_eq_true rfl) ?_
  intro X hl C E hnm
  show Zf X B mX11_of s t 0 [(0, .ref (B.1 + 0)), (1, .int x), (2, .int 6)] []
  refine z_aload_n C dX11_of_0 0 rfl rfl ?_
  refine f_get11 C 1 (v := .ref (B.1 + 8)) (by decide) tw_226 rfl zk_0 zb_0 rfl dX11_of_1 ?_
  refine z_iload_n C dX11_of_4 1 rfl rfl ?_
  refine f_callVr C hl (As := [.int x]) (rest := []) (c_X1_deputyAt8s l B s t d (by omega) x hx (by rw [hx, hN]; exact nI_lt hd (by omega))) zb_8 (zg_1 zk_8) rfl (zCB (nA := 1) C rfl rfl tw_424 tw_8 tw_474 (by decide +kernel) ⟨Nat.le_of_ble_eq_true rfl, Nat.le_of_ble_eq_true rfl⟩) tw_422 tw_423 rfl rfl (Nat.le_of_ble_eq_true rfl) dX11_of_5 (Nat.zero_le _) ?_
  refine z_astore_n C [(3, .ref (B.1 + (11 + d))), (0, .ref (B.1 + 0)), (1, .int x), (2, .int 6)] dX11_of_8 rfl (by decide) rfl ?_
  refine z_aload_n C dX11_of_9 0 rfl rfl ?_
  refine z_ifnonnull C 20 dX11_of_10 (by decide) ?_
  refine z_iload_n C dX11_of_20 3 rfl rfl ?_
  refine z_tableIn C (off := 96) 117 dX11_of_21 (by decide) (by decide) (by decide) (by decide) ?_
  refine z_aload_n C dX11_of_117 1 rfl rfl ?_
  refine f_get11 C 1 (v := .ref (B.1 + 8)) (by decide) tw_226 rfl zk_0 zb_0 rfl dX11_of_118 ?_
  refine f_get1 C 0 (v := .ref (B.1 + 9)) (by decide) tw_168 rfl zk_8 zb_8 rfl dX11_of_121 ?_
  refine f_get8 C 4 (v := .int (s 9 4)) (by decide) tw_94 rfl zk_9 zb_9 rfl dX11_of_124 ?_
  refine z_iload_n C dX11_of_127 2 rfl rfl ?_
  refine f_callSr C hl (As := [.int x]) (rest := [.int (s 9 4)]) (c_X11_bitOf l B s t x) (zCB (nA := 1) C rfl rfl tw_431 tw_1 tw_475 (by decide +kernel) ⟨Nat.le_of_ble_eq_true rfl, Nat.le_of_ble_eq_true rfl⟩) tw_430 rfl rfl (Nat.le_of_ble_eq_true rfl) dX11_of_128 (Nat.zero_le _) ?_
  refine z_iand C dX11_of_131 ?_
  refine z_if_eq C 139 dX11_of_132 (by decide) (fun h132 => ?_) (fun h132 => ?_)
  · refine z_iconst C dX11_of_139 ki_0 ?_
    refine f_callSr C hl (As := [.int 0]) (rest := []) (c_X11_oneIf l B s t false) (zCB (nA := 1) C rfl rfl tw_576 tw_1 tw_574 (by decide +kernel) ⟨Nat.le_of_ble_eq_true rfl, Nat.le_of_ble_eq_true rfl⟩) tw_575 rfl rfl (Nat.le_of_ble_eq_true rfl) dX11_of_140 (Nat.zero_le _) ?_
    refine z_iret C E rfl dX11_of_143 rfl (Nat.le_refl _) ⟨by simp only [h132, not_true_eq_false, not_false_eq_true, decide_true, decide_false], rfl⟩
  · refine z_iconst C dX11_of_135 ki_1 ?_
    refine z_goto C 140 dX11_of_136 (by decide) ?_
    refine f_callSr C hl (As := [.int 1]) (rest := []) (c_X11_oneIf l B s t true) (zCB (nA := 1) C rfl rfl tw_576 tw_1 tw_574 (by decide +kernel) ⟨Nat.le_of_ble_eq_true rfl, Nat.le_of_ble_eq_true rfl⟩) tw_575 rfl rfl (Nat.le_of_ble_eq_true rfl) dX11_of_140 (Nat.zero_le _) ?_
    refine z_iret C E rfl dX11_of_143 rfl (Nat.le_refl _) ⟨by simp only [h132, not_true_eq_false, not_false_eq_true, decide_true, decide_false], rfl⟩
abbrev mX11_joy : zM := (yX11_joy, cX11_joy, 4, (some .int), { frames := 3, cells := 0, slots := 0, locals := 66 })
set_option maxRecDepth 100000 in
set_option maxHeartbeats 4000000 in
theorem c_X11_joy_bad (l : Launch) (B : zB) (s : zS) (t : zL) (x : Int32) (hx : x < 0 ∨ s 8 4 ≤ x) (b : Int32) : zD l B mX11_joy s t [.ref (B.1 + 0), .int x, .int b] (some (.int (-1000))) (zu s 0 9 (s 0 9 + 1)) t := by
  refine z_met (by decide) (Nat.le_of_ble_eq_true rfl) ?_
  intro X hl C E hnm
  show Zf X B mX11_joy s t 0 [(0, .ref (B.1 + 0)), (1, .int x), (2, .int b)] []
  refine z_aload_n C dX11_joy_0 0 rfl rfl ?_
  refine f_get11 C 1 (v := .ref (B.1 + 8)) (by decide) tw_226 rfl zk_0 zb_0 rfl dX11_joy_1 ?_
  refine z_iload_n C dX11_joy_4 1 rfl rfl ?_
  refine f_callVr C hl (As := [.int x]) (rest := []) (c_X1_deputyAt8n l B s t x hx) zb_8 (zg_1 zk_8) rfl (zCB (nA := 1) C rfl rfl tw_424 tw_8 tw_474 (by decide +kernel) ⟨Nat.le_of_ble_eq_true rfl, Nat.le_of_ble_eq_true rfl⟩) tw_422 tw_423 rfl rfl (Nat.le_of_ble_eq_true rfl) dX11_joy_5 (Nat.zero_le _) ?_
  refine z_astore_nN C [(3, .null), (0, .ref (B.1 + 0)), (1, .int x), (2, .int b)] dX11_joy_8 rfl (by decide) rfl ?_
  refine z_aload_nN C dX11_joy_9 0 rfl rfl ?_
  refine z_ifnullN C 20 dX11_joy_10 (by decide) ?_
  refine z_aload_n C dX11_joy_20 1 rfl rfl ?_
  refine z_bipush C dX11_joy_21 kb_m2 ?_
  refine f_callVr C hl (As := [.int (-2)]) (rest := []) (c_X11_refuse2 l B s t) zb_0 (zg_11 zk_0) rfl (zCB (nA := 1) C rfl rfl tw_272 tw_1 tw_269 (by decide +kernel) ⟨Nat.le_of_ble_eq_true rfl, Nat.le_of_ble_eq_true rfl⟩) tw_271 tp_0 rfl rfl (Nat.le_of_ble_eq_true rfl) dX11_joy_23 (Nat.zero_le _) ?_
  refine z_pop C dX11_joy_26 rfl ?_
  refine z_sipush C dX11_joy_27 ks_m1000 ?_
  refine z_iret C E rfl dX11_joy_30 rfl (Nat.le_refl _) ⟨rfl, rfl⟩
set_option maxRecDepth 100000 in
set_option maxHeartbeats 4000000 in
theorem c_X11_joy_badb (l : Launch) (B : zB) (s : zS) (t : zL) (N : Nat) (hN : s 8 4 = nI N) (h6 : N ≤ 6) (d : Nat) (hd : d < N) (x : Int32) (hx : x = nI d) (b : Int32) (g : wIn b 255 = false) : zD l B mX11_joy s t [.ref (B.1 + 0), .int x, .int b] (some (.int (-1000))) (zu s 0 9 (s 0 9 + 1)) t := by
  refine z_met (by decide) (Nat.le_of_ble_eq_true rfl) ?_
  intro X hl C E hnm
  show Zf X B mX11_joy s t 0 [(0, .ref (B.1 + 0)), (1, .int x), (2, .int b)] []
  refine z_aload_n C dX11_joy_0 0 rfl rfl ?_
  refine f_get11 C 1 (v := .ref (B.1 + 8)) (by decide) tw_226 rfl zk_0 zb_0 rfl dX11_joy_1 ?_
  refine z_iload_n C dX11_joy_4 1 rfl rfl ?_
  refine f_callVr C hl (As := [.int x]) (rest := []) (c_X1_deputyAt8s l B s t d (by omega) x hx (by rw [hx, hN]; exact nI_lt hd (by omega))) zb_8 (zg_1 zk_8) rfl (zCB (nA := 1) C rfl rfl tw_424 tw_8 tw_474 (by decide +kernel) ⟨Nat.le_of_ble_eq_true rfl, Nat.le_of_ble_eq_true rfl⟩) tw_422 tw_423 rfl rfl (Nat.le_of_ble_eq_true rfl) dX11_joy_5 (Nat.zero_le _) ?_
  refine z_astore_n C [(3, .ref (B.1 + (11 + d))), (0, .ref (B.1 + 0)), (1, .int x), (2, .int b)] dX11_joy_8 rfl (by decide) rfl ?_
  refine z_aload_n C dX11_joy_9 0 rfl rfl ?_
  refine z_ifnull C dX11_joy_10 ?_
  refine z_iload_n C dX11_joy_13 3 rfl rfl ?_
  refine f_callSr C hl (As := [.int b]) (rest := []) (c_X11_isBundle l B s t b) (zCB (nA := 1) C rfl rfl tw_287 tw_1 tw_285 (by decide +kernel) ⟨Nat.le_of_ble_eq_true rfl, Nat.le_of_ble_eq_true rfl⟩) tw_286 rfl rfl (Nat.le_of_ble_eq_true rfl) dX11_joy_14 (Nat.zero_le _) ?_
  refine z_ifb_ne C 31 dX11_joy_17 (by decide) (fun hbr => absurd hbr (by rw [g]; decide)) (fun _ => ?_)
  refine z_aload_n C dX11_joy_20 1 rfl rfl ?_
  refine z_bipush C dX11_joy_21 kb_m2 ?_
  refine f_callVr C hl (As := [.int (-2)]) (rest := []) (c_X11_refuse2 l B s t) zb_0 (zg_11 zk_0) rfl (zCB (nA := 1) C rfl rfl tw_272 tw_1 tw_269 (by decide +kernel) ⟨Nat.le_of_ble_eq_true rfl, Nat.le_of_ble_eq_true rfl⟩) tw_271 tp_0 rfl rfl (Nat.le_of_ble_eq_true rfl) dX11_joy_23 (Nat.zero_le _) ?_
  refine z_pop C dX11_joy_26 rfl ?_
  refine z_sipush C dX11_joy_27 ks_m1000 ?_
  refine z_iret C E rfl dX11_joy_30 rfl (Nat.le_refl _) ⟨rfl, rfl⟩
set_option maxRecDepth 100000 in
set_option maxHeartbeats 4000000 in
theorem c_X11_joy_ok (l : Launch) (B : zB) (s : zS) (t : zL) (N : Nat) (hN : s 8 4 = nI N) (h6 : N ≤ 6) (d : Nat) (hd : d < N) (x : Int32) (hx : x = nI d) (hK : ∃ c, c < 6 ∧ s (11 + d) 0 = nI c) (b : Int32) (g : wIn b 255 = true) : zD l B mX11_joy s t [.ref (B.1 + 0), .int x, .int b] (some (.int (wJoy (s (11 + d) 0) (wPop (s (11 + d) 1 &&& b)) (wPop (s (11 + d) 2 &&& b))))) s t := by
  refine z_met (by decide) (Nat.le_of_ble_eq_true rfl) ?_
  intro X hl C E hnm
  show Zf X B mX11_joy s t 0 [(0, .ref (B.1 + 0)), (1, .int x), (2, .int b)] []
  refine z_aload_n C dX11_joy_0 0 rfl rfl ?_
  refine f_get11 C 1 (v := .ref (B.1 + 8)) (by decide) tw_226 rfl zk_0 zb_0 rfl dX11_joy_1 ?_
  refine z_iload_n C dX11_joy_4 1 rfl rfl ?_
  refine f_callVr C hl (As := [.int x]) (rest := []) (c_X1_deputyAt8s l B s t d (by omega) x hx (by rw [hx, hN]; exact nI_lt hd (by omega))) zb_8 (zg_1 zk_8) rfl (zCB (nA := 1) C rfl rfl tw_424 tw_8 tw_474 (by decide +kernel) ⟨Nat.le_of_ble_eq_true rfl, Nat.le_of_ble_eq_true rfl⟩) tw_422 tw_423 rfl rfl (Nat.le_of_ble_eq_true rfl) dX11_joy_5 (Nat.zero_le _) ?_
  refine z_astore_n C [(3, .ref (B.1 + (11 + d))), (0, .ref (B.1 + 0)), (1, .int x), (2, .int b)] dX11_joy_8 rfl (by decide) rfl ?_
  refine z_aload_n C dX11_joy_9 0 rfl rfl ?_
  refine z_ifnull C dX11_joy_10 ?_
  refine z_iload_n C dX11_joy_13 3 rfl rfl ?_
  refine f_callSr C hl (As := [.int b]) (rest := []) (c_X11_isBundle l B s t b) (zCB (nA := 1) C rfl rfl tw_287 tw_1 tw_285 (by decide +kernel) ⟨Nat.le_of_ble_eq_true rfl, Nat.le_of_ble_eq_true rfl⟩) tw_286 rfl rfl (Nat.le_of_ble_eq_true rfl) dX11_joy_14 (Nat.zero_le _) ?_
  refine z_ifb_ne C 31 dX11_joy_17 (by decide) (fun _ => ?_) (fun hbr => Bool.noConfusion (show false = true from hbr.symm.trans g))
  refine z_aload_n C dX11_joy_31 1 rfl rfl ?_
  refine z_aload_n C dX11_joy_32 0 rfl rfl ?_
  refine z_iload_n C dX11_joy_33 3 rfl rfl ?_
  refine f_callVr C hl (As := [.ref (B.1 + (11 + d)), .int b]) (rest := []) (c_X11_joyFor l B s t (11 + d) (zk_dep d (by omega)) (by omega) hK b (wIn_r8 g)) zb_0 (zg_11 zk_0) rfl (zCB (nA := 2) C rfl rfl tw_584 tw_1 tw_581 (by decide +kernel) ⟨Nat.le_of_ble_eq_true rfl, Nat.le_of_ble_eq_true rfl⟩) tw_583 tp_14 rfl rfl (Nat.le_of_ble_eq_true rfl) dX11_joy_34 (Nat.zero_le _) ?_
  refine z_iret C E rfl dX11_joy_37 rfl (Nat.le_refl _) ⟨rfl, rfl⟩
abbrev mX11_acts : zM := (yX11_acts, cX11_acts, 2, (some .int), { frames := 1, cells := 0, slots := 0, locals := 21 })
set_option maxRecDepth 100000 in
set_option maxHeartbeats 4000000 in
theorem c_X11_acts_0 (l : Launch) (B : zB) (s : zS) (t : zL)  : zD l B mX11_acts s t [.ref (B.1 + 0), .int 0] (some (.int (s 9 1))) s t := by
  refine z_met (by decide) (Nat.le_of_ble_eq_true rfl) ?_
  intro X hl C E hnm
  show Zf X B mX11_acts s t 0 [(0, .ref (B.1 + 0)), (1, .int 0)] []
  refine z_iload_n C dX11_acts_0 1 rfl rfl ?_
  refine z_lookup C (off := 27) 28 dX11_acts_1 (by decide) (by decide) (by decide) ?_
  refine z_aload_n C dX11_acts_28 0 rfl rfl ?_
  refine f_get11 C 1 (v := .ref (B.1 + 8)) (by decide) tw_226 rfl zk_0 zb_0 rfl dX11_acts_29 ?_
  refine f_get1 C 0 (v := .ref (B.1 + 9)) (by decide) tw_168 rfl zk_8 zb_8 rfl dX11_acts_32 ?_
  refine f_get8 C 1 (v := .int (s 9 1)) (by decide) tw_87 rfl zk_9 zb_9 rfl dX11_acts_35 ?_
  refine z_iret C E rfl dX11_acts_38 rfl (Nat.le_refl _) ⟨rfl, rfl⟩
set_option maxRecDepth 100000 in
set_option maxHeartbeats 4000000 in
theorem c_X11_acts_1 (l : Launch) (B : zB) (s : zS) (t : zL)  : zD l B mX11_acts s t [.ref (B.1 + 0), .int 1] (some (.int (s 9 2))) s t := by
  refine z_met (by decide) (Nat.le_of_ble_eq_true rfl) ?_
  intro X hl C E hnm
  show Zf X B mX11_acts s t 0 [(0, .ref (B.1 + 0)), (1, .int 1)] []
  refine z_iload_n C dX11_acts_0 1 rfl rfl ?_
  refine z_lookup C (off := 38) 39 dX11_acts_1 (by decide) (by decide) (by decide) ?_
  refine z_aload_n C dX11_acts_39 0 rfl rfl ?_
  refine f_get11 C 1 (v := .ref (B.1 + 8)) (by decide) tw_226 rfl zk_0 zb_0 rfl dX11_acts_40 ?_
  refine f_get1 C 0 (v := .ref (B.1 + 9)) (by decide) tw_168 rfl zk_8 zb_8 rfl dX11_acts_43 ?_
  refine f_get8 C 2 (v := .int (s 9 2)) (by decide) tw_89 rfl zk_9 zb_9 rfl dX11_acts_46 ?_
  refine z_iret C E rfl dX11_acts_49 rfl (Nat.le_refl _) ⟨rfl, rfl⟩
theorem sw2 {x : Int32} {o1 o2 d : Int} (h0 : ¬ x = 0) (h1 : ¬ x = 1) : Op.lookupswitch.offset [(0, o1), (1, o2)] d x.toInt = d := by
  rw [lv_osw h0 (by decide), lv_osw h1 (by decide)]; rfl
theorem sw3 {x : Int32} {o1 o2 o3 d : Int} (h0 : ¬ x = 0) (h1 : ¬ x = 1) (h2 : ¬ x = 2) : Op.lookupswitch.offset [(0, o1), (1, o2), (2, o3)] d x.toInt = d := by
  rw [lv_osw h0 (by decide), lv_osw h1 (by decide), lv_osw h2 (by decide)]; rfl
set_option maxRecDepth 100000 in
set_option maxHeartbeats 4000000 in
theorem c_X11_acts_bad (l : Launch) (B : zB) (s : zS) (t : zL) (w : Int32) (h0 : ¬ w = 0) (h1 : ¬ w = 1) : zD l B mX11_acts s t [.ref (B.1 + 0), .int w] (some (.int (-2))) (zu s 0 9 (s 0 9 + 1)) t := by
  refine z_met (by decide) (Nat.le_of_ble_eq_true rfl) ?_
  intro X hl C E hnm
  show Zf X B mX11_acts s t 0 [(0, .ref (B.1 + 0)), (1, .int w)] []
  refine z_iload_n C dX11_acts_0 1 rfl rfl ?_
  refine z_lookup C (off := 49) 50 dX11_acts_1 (by decide) (sw2 h0 h1) (by decide) ?_
  refine z_aload_n C dX11_acts_50 0 rfl rfl ?_
  refine z_bipush C dX11_acts_51 kb_m2 ?_
  refine f_callVr C hl (As := [.int (-2)]) (rest := []) (c_X11_refuse2 l B s t) zb_0 (zg_11 zk_0) rfl (zCB (nA := 1) C rfl rfl tw_272 tw_1 tw_269 (by decide +kernel) ⟨Nat.le_of_ble_eq_true rfl, Nat.le_of_ble_eq_true rfl⟩) tw_271 tp_0 rfl rfl (Nat.le_of_ble_eq_true rfl) dX11_acts_53 (Nat.zero_le _) ?_
  refine z_iret C E rfl dX11_acts_56 rfl (Nat.le_refl _) ⟨rfl, rfl⟩
abbrev mX11_stops : zM := (yX11_stops, cX11_stops, 2, (some .int), { frames := 5, cells := 0, slots := 0, locals := 122 })
set_option maxRecDepth 100000 in
set_option maxHeartbeats 4000000 in
theorem c_X11_stops_bad (l : Launch) (B : zB) (s : zS) (t : zL) (b : Int32) (g : wIn b 255 = false) : zD l B mX11_stops s t [.ref (B.1 + 0), .int b] (some (.int (-2))) (zu s 0 9 (s 0 9 + 1)) t := by
  refine z_met (by decide) (Nat.le_of_ble_eq_true rfl) ?_
  intro X hl C E hnm
  show Zf X B mX11_stops s t 0 [(0, .ref (B.1 + 0)), (1, .int b)] []
  refine z_iload_n C dX11_stops_0 1 rfl rfl ?_
  refine f_callSr C hl (As := [.int b]) (rest := []) (c_X11_isBundle l B s t b) (zCB (nA := 1) C rfl rfl tw_287 tw_1 tw_285 (by decide +kernel) ⟨Nat.le_of_ble_eq_true rfl, Nat.le_of_ble_eq_true rfl⟩) tw_286 rfl rfl (Nat.le_of_ble_eq_true rfl) dX11_stops_1 (Nat.zero_le _) ?_
  refine z_ifb_eq C 22 dX11_stops_4 (by decide) (fun _ => ?_) (fun hbr => Bool.noConfusion (show true = false from hbr.symm.trans g))
  refine z_aload_n C dX11_stops_22 0 rfl rfl ?_
  refine z_bipush C dX11_stops_23 kb_m2 ?_
  refine f_callVr C hl (As := [.int (-2)]) (rest := []) (c_X11_refuse2 l B s t) zb_0 (zg_11 zk_0) rfl (zCB (nA := 1) C rfl rfl tw_272 tw_1 tw_269 (by decide +kernel) ⟨Nat.le_of_ble_eq_true rfl, Nat.le_of_ble_eq_true rfl⟩) tw_271 tp_0 rfl rfl (Nat.le_of_ble_eq_true rfl) dX11_stops_25 (Nat.zero_le _) ?_
  refine z_iret C E rfl dX11_stops_28 rfl (Nat.le_refl _) ⟨rfl, rfl⟩
set_option maxRecDepth 100000 in
set_option maxHeartbeats 4000000 in
theorem c_X11_stops_ok (l : Launch) (B : zB) (s : zS) (t : zL) (b : Int32) (g : wIn b 255 = true) (N : Nat) (hN : s 8 4 = nI N) (h6 : N ≤ 6) (hK : ∀ d, d < N → ∃ c, c < 6 ∧ s (11 + d) 0 = nI c) : zD l B mX11_stops s t [.ref (B.1 + 0), .int b] (some (.int (wWho (fun d => s (11 + d) 0) (fun d => s (11 + d) 1) (fun d => s (11 + d) 2) (s 9 3 ||| s 9 4) (s 9 0) b N))) s t := by
  refine z_met (by decide) (Nat.le_of_ble_eq_true rfl) ?_
  intro X hl C E hnm
  show Zf X B mX11_stops s t 0 [(0, .ref (B.1 + 0)), (1, .int b)] []
  refine z_iload_n C dX11_stops_0 1 rfl rfl ?_
  refine f_callSr C hl (As := [.int b]) (rest := []) (c_X11_isBundle l B s t b) (zCB (nA := 1) C rfl rfl tw_287 tw_1 tw_285 (by decide +kernel) ⟨Nat.le_of_ble_eq_true rfl, Nat.le_of_ble_eq_true rfl⟩) tw_286 rfl rfl (Nat.le_of_ble_eq_true rfl) dX11_stops_1 (Nat.zero_le _) ?_
  refine z_ifb_eq C 22 dX11_stops_4 (by decide) (fun hbr => absurd hbr (by rw [g]; decide)) (fun _ => ?_)
  refine z_aload_n C dX11_stops_7 0 rfl rfl ?_
  refine z_aload_n C dX11_stops_8 0 rfl rfl ?_
  refine f_get11 C 1 (v := .ref (B.1 + 8)) (by decide) tw_226 rfl zk_0 zb_0 rfl dX11_stops_9 ?_
  refine f_get1 C 0 (v := .ref (B.1 + 9)) (by decide) tw_168 rfl zk_8 zb_8 rfl dX11_stops_12 ?_
  refine z_iload_n C dX11_stops_15 1 rfl rfl ?_
  refine f_callVr C hl (As := [.ref (B.1 + 9), .int b]) (rest := []) (c_X11_stoppers l B s t 9 zk_9 zb_9 b (wIn_r8 g) N hN h6 hK) zb_0 (zg_11 zk_0) rfl (zCB (nA := 2) C rfl rfl tw_473 tw_1 tw_470 (by decide +kernel) ⟨Nat.le_of_ble_eq_true rfl, Nat.le_of_ble_eq_true rfl⟩) tw_472 tp_10 rfl rfl (Nat.le_of_ble_eq_true rfl) dX11_stops_16 (Nat.zero_le _) ?_
  refine z_goto C 28 dX11_stops_19 (by decide) ?_
  refine z_iret C E rfl dX11_stops_28 rfl (Nat.le_refl _) ⟨rfl, rfl⟩
abbrev mX11_most : zM := (yX11_most, cX11_most, 1, (some .int), { frames := 6, cells := 0, slots := 0, locals := 148 })
set_option maxRecDepth 100000 in
set_option maxHeartbeats 4000000 in
theorem c_X11_most (l : Launch) (B : zB) (s : zS) (t : zL) (N : Nat) (hN : s 8 4 = nI N) (h6 : N ≤ 6) (hK : ∀ d, d < N → ∃ c, c < 6 ∧ s (11 + d) 0 = nI c) : zD l B mX11_most s t [.ref (B.1 + 0)] (some (.int (wBest (fun b => decide (wWho (fun d => s (11 + d) 0) (fun d => s (11 + d) 1) (fun d => s (11 + d) 2) (s 9 3 ||| s 9 4) (s 9 0) b N &&& (0 ^^^ (-1)) = 0) || decide (wSum (fun d => s (11 + d) 0) (fun d => s (11 + d) 3) (wWho (fun d => s (11 + d) 0) (fun d => s (11 + d) 1) (fun d => s (11 + d) 2) (s 9 3 ||| s 9 4) (s 9 0) b N &&& (0 ^^^ (-1))) N ≤ (-1))) (255 &&& ((s 9 1 ||| s 9 2) ^^^ (-1))) 255))) s t := by
  refine z_met (by decide) (Nat.le_of_ble_eq_true rfl) ?_
  intro X hl C E hnm
  show Zf X B mX11_most s t 0 [(0, .ref (B.1 + 0))] []
  refine z_aload_n C dX11_most_0 0 rfl rfl ?_
  refine z_iconst C dX11_most_1 ki_m1 ?_
  refine z_iconst C dX11_most_2 ki_0 ?_
  refine f_callVr C hl (As := [.int (-1), .int 0]) (rest := []) (c_X11_bestBundle l B s t (-1) 0 N hN h6 hK) zb_0 (zg_11 zk_0) rfl (zCB (nA := 2) C rfl rfl tw_600 tw_1 tw_597 (by decide +kernel) ⟨Nat.le_of_ble_eq_true rfl, Nat.le_of_ble_eq_true rfl⟩) tw_599 tp_15 rfl rfl (Nat.le_of_ble_eq_true rfl) dX11_most_3 (Nat.zero_le _) ?_
  refine z_iret C E rfl dX11_most_6 rfl (Nat.le_refl _) ⟨rfl, rfl⟩
abbrev mX11_money : zM := (yX11_money, cX11_money, 5, (some .int), { frames := 6, cells := 0, slots := 0, locals := 148 })
set_option maxRecDepth 100000 in
set_option maxHeartbeats 4000000 in
theorem c_X11_money_bad (l : Launch) (B : zB) (s : zS) (t : zL) (a w : Int32) (h : (wIn a 200 && wIn w 2) = false) : zD l B mX11_money s t [.ref (B.1 + 0), .int a, .int w] (some (.int (-2))) (zu s 0 9 (s 0 9 + 1)) t := by
  refine z_met (by decide) (Nat.le_of_ble_eq_true rfl) ?_
  intro X hl C E hnm
  show Zf X B mX11_money s t 0 [(0, .ref (B.1 + 0)), (1, .int a), (2, .int w)] []
  refine z_iload_n C dX11_money_0 1 rfl rfl ?_
  refine z_sipush C dX11_money_1 ks_200 ?_
  refine f_callSr C hl (As := [.int a, .int 200]) (rest := []) (c_X11_within l B s t a 200) (zCB (nA := 2) C rfl rfl tw_268 tw_1 tw_266 (by decide +kernel) ⟨Nat.le_of_ble_eq_true rfl, Nat.le_of_ble_eq_true rfl⟩) tw_267 rfl rfl (Nat.le_of_ble_eq_true rfl) dX11_money_4 (Nat.zero_le _) ?_
  refine z_ifb_eq C 18 dX11_money_7 (by decide) (fun h7 => ?_) (fun h7 => ?_)
  · refine z_aload_n C dX11_money_18 0 rfl rfl ?_
    refine z_bipush C dX11_money_19 kb_m2 ?_
    refine f_callVr C hl (As := [.int (-2)]) (rest := []) (c_X11_refuse2 l B s t) zb_0 (zg_11 zk_0) rfl (zCB (nA := 1) C rfl rfl tw_272 tw_1 tw_269 (by decide +kernel) ⟨Nat.le_of_ble_eq_true rfl, Nat.le_of_ble_eq_true rfl⟩) tw_271 tp_0 rfl rfl (Nat.le_of_ble_eq_true rfl) dX11_money_21 (Nat.zero_le _) ?_
    refine z_iret C E rfl dX11_money_24 rfl (Nat.le_refl _) ⟨rfl, rfl⟩
  · refine z_iload_n C dX11_money_10 2 rfl rfl ?_
    refine z_iconst C dX11_money_11 ki_2 ?_
    refine f_callSr C hl (As := [.int w, .int 2]) (rest := []) (c_X11_within l B s t w 2) (zCB (nA := 2) C rfl rfl tw_268 tw_1 tw_266 (by decide +kernel) ⟨Nat.le_of_ble_eq_true rfl, Nat.le_of_ble_eq_true rfl⟩) tw_267 rfl rfl (Nat.le_of_ble_eq_true rfl) dX11_money_12 (Nat.zero_le _) ?_
    refine z_ifb_ne C 25 dX11_money_15 (by decide) (fun h15 => ?_) (fun h15 => ?_)
    · exact absurd h (by rw [h7, h15]; decide)
    · refine z_aload_n C dX11_money_18 0 rfl rfl ?_
      refine z_bipush C dX11_money_19 kb_m2 ?_
      refine f_callVr C hl (As := [.int (-2)]) (rest := []) (c_X11_refuse2 l B s t) zb_0 (zg_11 zk_0) rfl (zCB (nA := 1) C rfl rfl tw_272 tw_1 tw_269 (by decide +kernel) ⟨Nat.le_of_ble_eq_true rfl, Nat.le_of_ble_eq_true rfl⟩) tw_271 tp_0 rfl rfl (Nat.le_of_ble_eq_true rfl) dX11_money_21 (Nat.zero_le _) ?_
      refine z_iret C E rfl dX11_money_24 rfl (Nat.le_refl _) ⟨rfl, rfl⟩
set_option maxRecDepth 100000 in
set_option maxHeartbeats 4000000 in
theorem c_X11_money_0 (l : Launch) (B : zB) (s : zS) (t : zL) (a : Int32) (g : wIn a 200 = true) (N : Nat) (hN : s 8 4 = nI N) (h6 : N ≤ 6) (hK : ∀ d, d < N → ∃ c, c < 6 ∧ s (11 + d) 0 = nI c) : zD l B mX11_money s t [.ref (B.1 + 0), .int a, .int 0] (some (.int (wBest (fun b => decide (wWho (fun d => s (11 + d) 0) (fun d => s (11 + d) 1) (fun d => s (11 + d) 2) (s 9 3 ||| s 9 4) (s 9 0) b N &&& (0 ^^^ (-1)) = 0) || decide (wSum (fun d => s (11 + d) 0) (fun d => s (11 + d) 3) (wWho (fun d => s (11 + d) 0) (fun d => s (11 + d) 1) (fun d => s (11 + d) 2) (s 9 3 ||| s 9 4) (s 9 0) b N &&& (0 ^^^ (-1))) N ≤ a)) (255 &&& ((s 9 1 ||| s 9 2) ^^^ (-1))) 255))) s t := by
  refine z_met (by decide) (Nat.le_of_ble_eq_true rfl) ?_
  intro X hl C E hnm
  show Zf X B mX11_money s t 0 [(0, .ref (B.1 + 0)), (1, .int a), (2, .int 0)] []
  refine z_iload_n C dX11_money_0 1 rfl rfl ?_
  refine z_sipush C dX11_money_1 ks_200 ?_
  refine f_callSr C hl (As := [.int a, .int 200]) (rest := []) (c_X11_within l B s t a 200) (zCB (nA := 2) C rfl rfl tw_268 tw_1 tw_266 (by decide +kernel) ⟨Nat.le_of_ble_eq_true rfl, Nat.le_of_ble_eq_true rfl⟩) tw_267 rfl rfl (Nat.le_of_ble_eq_true rfl) dX11_money_4 (Nat.zero_le _) ?_
  refine z_ifb_eq C 18 dX11_money_7 (by decide) (fun hbr => absurd hbr (by rw [g]; decide)) (fun _ => ?_)
  refine z_iload_n C dX11_money_10 2 rfl rfl ?_
  refine z_iconst C dX11_money_11 ki_2 ?_
  refine f_callSr C hl (As := [.int 0, .int 2]) (rest := []) (c_X11_within l B s t 0 2) (zCB (nA := 2) C rfl rfl tw_268 tw_1 tw_266 (by decide +kernel) ⟨Nat.le_of_ble_eq_true rfl, Nat.le_of_ble_eq_true rfl⟩) tw_267 rfl rfl (Nat.le_of_ble_eq_true rfl) dX11_money_12 (Nat.zero_le _) ?_
  refine z_ifb_ne C 25 dX11_money_15 (by decide) (fun _ => ?_) (fun hbr => Bool.noConfusion (show false = true from hbr.symm.trans (by decide)))
  refine z_aload_n C dX11_money_25 0 rfl rfl ?_
  refine z_iload_n C dX11_money_26 1 rfl rfl ?_
  refine z_iconst C dX11_money_27 ki_0 ?_
  refine f_callVr C hl (As := [.int a, .int 0]) (rest := []) (c_X11_bestBundle l B s t a 0 N hN h6 hK) zb_0 (zg_11 zk_0) rfl (zCB (nA := 2) C rfl rfl tw_600 tw_1 tw_597 (by decide +kernel) ⟨Nat.le_of_ble_eq_true rfl, Nat.le_of_ble_eq_true rfl⟩) tw_599 tp_15 rfl rfl (Nat.le_of_ble_eq_true rfl) dX11_money_28 (Nat.zero_le _) ?_
  refine z_istore_n C [(3, .int (wBest (fun b => decide (wWho (fun d => s (11 + d) 0) (fun d => s (11 + d) 1) (fun d => s (11 + d) 2) (s 9 3 ||| s 9 4) (s 9 0) b N &&& (0 ^^^ (-1)) = 0) || decide (wSum (fun d => s (11 + d) 0) (fun d => s (11 + d) 3) (wWho (fun d => s (11 + d) 0) (fun d => s (11 + d) 1) (fun d => s (11 + d) 2) (s 9 3 ||| s 9 4) (s 9 0) b N &&& (0 ^^^ (-1))) N ≤ a)) (255 &&& ((s 9 1 ||| s 9 2) ^^^ (-1))) 255)), (0, .ref (B.1 + 0)), (1, .int a), (2, .int 0)] dX11_money_31 rfl (by decide) rfl ?_
  refine z_iload_n C dX11_money_32 3 rfl rfl ?_
  refine z_if_ne C 38 dX11_money_33 (by decide) (fun hbr => absurd (by decide) hbr) (fun _ => ?_)
  refine z_iload_n C dX11_money_36 0 rfl rfl ?_
  refine z_iret C E rfl dX11_money_37 rfl (Nat.le_refl _) ⟨rfl, rfl⟩
set_option maxRecDepth 100000 in
set_option maxHeartbeats 4000000 in
theorem c_X11_money_1 (l : Launch) (B : zB) (s : zS) (t : zL) (a : Int32) (g : wIn a 200 = true) (N : Nat) (hN : s 8 4 = nI N) (h6 : N ≤ 6) (hK : ∀ d, d < N → ∃ c, c < 6 ∧ s (11 + d) 0 = nI c) : zD l B mX11_money s t [.ref (B.1 + 0), .int a, .int 1] (some (.int (wSum (fun d => s (11 + d) 0) (fun d => s (11 + d) 3) (wWho (fun d => s (11 + d) 0) (fun d => s (11 + d) 1) (fun d => s (11 + d) 2) (s 9 3 ||| s 9 4) (s 9 0) (wBest (fun b => decide (wWho (fun d => s (11 + d) 0) (fun d => s (11 + d) 1) (fun d => s (11 + d) 2) (s 9 3 ||| s 9 4) (s 9 0) b N &&& (0 ^^^ (-1)) = 0) || decide (wSum (fun d => s (11 + d) 0) (fun d => s (11 + d) 3) (wWho (fun d => s (11 + d) 0) (fun d => s (11 + d) 1) (fun d => s (11 + d) 2) (s 9 3 ||| s 9 4) (s 9 0) b N &&& (0 ^^^ (-1))) N ≤ a)) (255 &&& ((s 9 1 ||| s 9 2) ^^^ (-1))) 255) N) N))) s t := by
  refine z_met (by decide) (Nat.le_of_ble_eq_true rfl) ?_
  intro X hl C E hnm
  show Zf X B mX11_money s t 0 [(0, .ref (B.1 + 0)), (1, .int a), (2, .int 1)] []
  refine z_iload_n C dX11_money_0 1 rfl rfl ?_
  refine z_sipush C dX11_money_1 ks_200 ?_
  refine f_callSr C hl (As := [.int a, .int 200]) (rest := []) (c_X11_within l B s t a 200) (zCB (nA := 2) C rfl rfl tw_268 tw_1 tw_266 (by decide +kernel) ⟨Nat.le_of_ble_eq_true rfl, Nat.le_of_ble_eq_true rfl⟩) tw_267 rfl rfl (Nat.le_of_ble_eq_true rfl) dX11_money_4 (Nat.zero_le _) ?_
  refine z_ifb_eq C 18 dX11_money_7 (by decide) (fun hbr => absurd hbr (by rw [g]; decide)) (fun _ => ?_)
  refine z_iload_n C dX11_money_10 2 rfl rfl ?_
  refine z_iconst C dX11_money_11 ki_2 ?_
  refine f_callSr C hl (As := [.int 1, .int 2]) (rest := []) (c_X11_within l B s t 1 2) (zCB (nA := 2) C rfl rfl tw_268 tw_1 tw_266 (by decide +kernel) ⟨Nat.le_of_ble_eq_true rfl, Nat.le_of_ble_eq_true rfl⟩) tw_267 rfl rfl (Nat.le_of_ble_eq_true rfl) dX11_money_12 (Nat.zero_le _) ?_
  refine z_ifb_ne C 25 dX11_money_15 (by decide) (fun _ => ?_) (fun hbr => Bool.noConfusion (show false = true from hbr.symm.trans (by decide)))
  refine z_aload_n C dX11_money_25 0 rfl rfl ?_
  refine z_iload_n C dX11_money_26 1 rfl rfl ?_
  refine z_iconst C dX11_money_27 ki_0 ?_
  refine f_callVr C hl (As := [.int a, .int 0]) (rest := []) (c_X11_bestBundle l B s t a 0 N hN h6 hK) zb_0 (zg_11 zk_0) rfl (zCB (nA := 2) C rfl rfl tw_600 tw_1 tw_597 (by decide +kernel) ⟨Nat.le_of_ble_eq_true rfl, Nat.le_of_ble_eq_true rfl⟩) tw_599 tp_15 rfl rfl (Nat.le_of_ble_eq_true rfl) dX11_money_28 (Nat.zero_le _) ?_
  refine z_istore_n C [(3, .int (wBest (fun b => decide (wWho (fun d => s (11 + d) 0) (fun d => s (11 + d) 1) (fun d => s (11 + d) 2) (s 9 3 ||| s 9 4) (s 9 0) b N &&& (0 ^^^ (-1)) = 0) || decide (wSum (fun d => s (11 + d) 0) (fun d => s (11 + d) 3) (wWho (fun d => s (11 + d) 0) (fun d => s (11 + d) 1) (fun d => s (11 + d) 2) (s 9 3 ||| s 9 4) (s 9 0) b N &&& (0 ^^^ (-1))) N ≤ a)) (255 &&& ((s 9 1 ||| s 9 2) ^^^ (-1))) 255)), (0, .ref (B.1 + 0)), (1, .int a), (2, .int 1)] dX11_money_31 rfl (by decide) rfl ?_
  refine z_iload_n C dX11_money_32 3 rfl rfl ?_
  refine z_if_ne C 38 dX11_money_33 (by decide) (fun _ => ?_) (fun hbr => absurd hbr (by decide))
  refine z_aload_n C dX11_money_38 1 rfl rfl ?_
  refine z_aload_n C dX11_money_39 1 rfl rfl ?_
  refine f_get11 C 1 (v := .ref (B.1 + 8)) (by decide) tw_226 rfl zk_0 zb_0 rfl dX11_money_40 ?_
  refine f_get1 C 0 (v := .ref (B.1 + 9)) (by decide) tw_168 rfl zk_8 zb_8 rfl dX11_money_43 ?_
  refine z_iload_n C dX11_money_46 0 rfl rfl ?_
  refine f_callVr C hl (As := [.ref (B.1 + 9), .int (wBest (fun b => decide (wWho (fun d => s (11 + d) 0) (fun d => s (11 + d) 1) (fun d => s (11 + d) 2) (s 9 3 ||| s 9 4) (s 9 0) b N &&& (0 ^^^ (-1)) = 0) || decide (wSum (fun d => s (11 + d) 0) (fun d => s (11 + d) 3) (wWho (fun d => s (11 + d) 0) (fun d => s (11 + d) 1) (fun d => s (11 + d) 2) (s 9 3 ||| s 9 4) (s 9 0) b N &&& (0 ^^^ (-1))) N ≤ a)) (255 &&& ((s 9 1 ||| s 9 2) ^^^ (-1))) 255)]) (rest := []) (c_X11_stoppers l B s t 9 zk_9 zb_9 (wBest (fun b => decide (wWho (fun d => s (11 + d) 0) (fun d => s (11 + d) 1) (fun d => s (11 + d) 2) (s 9 3 ||| s 9 4) (s 9 0) b N &&& (0 ^^^ (-1)) = 0) || decide (wSum (fun d => s (11 + d) 0) (fun d => s (11 + d) 3) (wWho (fun d => s (11 + d) 0) (fun d => s (11 + d) 1) (fun d => s (11 + d) 2) (s 9 3 ||| s 9 4) (s 9 0) b N &&& (0 ^^^ (-1))) N ≤ a)) (255 &&& ((s 9 1 ||| s 9 2) ^^^ (-1))) 255) (wBest_r8 _ _ _ (by decide)) N hN h6 hK) zb_0 (zg_11 zk_0) rfl (zCB (nA := 2) C rfl rfl tw_473 tw_1 tw_470 (by decide +kernel) ⟨Nat.le_of_ble_eq_true rfl, Nat.le_of_ble_eq_true rfl⟩) tw_472 tp_10 rfl rfl (Nat.le_of_ble_eq_true rfl) dX11_money_47 (Nat.zero_le _) ?_
  refine z_istore C [(4, .int (wWho (fun d => s (11 + d) 0) (fun d => s (11 + d) 1) (fun d => s (11 + d) 2) (s 9 3 ||| s 9 4) (s 9 0) (wBest (fun b => decide (wWho (fun d => s (11 + d) 0) (fun d => s (11 + d) 1) (fun d => s (11 + d) 2) (s 9 3 ||| s 9 4) (s 9 0) b N &&& (0 ^^^ (-1)) = 0) || decide (wSum (fun d => s (11 + d) 0) (fun d => s (11 + d) 3) (wWho (fun d => s (11 + d) 0) (fun d => s (11 + d) 1) (fun d => s (11 + d) 2) (s 9 3 ||| s 9 4) (s 9 0) b N &&& (0 ^^^ (-1))) N ≤ a)) (255 &&& ((s 9 1 ||| s 9 2) ^^^ (-1))) 255) N)), (3, .int (wBest (fun b => decide (wWho (fun d => s (11 + d) 0) (fun d => s (11 + d) 1) (fun d => s (11 + d) 2) (s 9 3 ||| s 9 4) (s 9 0) b N &&& (0 ^^^ (-1)) = 0) || decide (wSum (fun d => s (11 + d) 0) (fun d => s (11 + d) 3) (wWho (fun d => s (11 + d) 0) (fun d => s (11 + d) 1) (fun d => s (11 + d) 2) (s 9 3 ||| s 9 4) (s 9 0) b N &&& (0 ^^^ (-1))) N ≤ a)) (255 &&& ((s 9 1 ||| s 9 2) ^^^ (-1))) 255)), (0, .ref (B.1 + 0)), (1, .int a), (2, .int 1)] dX11_money_50 (by decide) rfl ?_
  refine z_iload_n C dX11_money_52 4 rfl rfl ?_
  refine z_iconst C dX11_money_53 ki_1 ?_
  refine z_icmp_ne C 66 dX11_money_54 (by decide) (fun hbr => absurd (by decide) hbr) (fun _ => ?_)
  refine z_aload_n C dX11_money_57 2 rfl rfl ?_
  refine z_iload C dX11_money_58 0 rfl ?_
  refine f_callVr C hl (As := [.int (wWho (fun d => s (11 + d) 0) (fun d => s (11 + d) 1) (fun d => s (11 + d) 2) (s 9 3 ||| s 9 4) (s 9 0) (wBest (fun b => decide (wWho (fun d => s (11 + d) 0) (fun d => s (11 + d) 1) (fun d => s (11 + d) 2) (s 9 3 ||| s 9 4) (s 9 0) b N &&& (0 ^^^ (-1)) = 0) || decide (wSum (fun d => s (11 + d) 0) (fun d => s (11 + d) 3) (wWho (fun d => s (11 + d) 0) (fun d => s (11 + d) 1) (fun d => s (11 + d) 2) (s 9 3 ||| s 9 4) (s 9 0) b N &&& (0 ^^^ (-1))) N ≤ a)) (255 &&& ((s 9 1 ||| s 9 2) ^^^ (-1))) 255) N)]) (rest := []) (c_X11_costOfAll l B s t (wWho (fun d => s (11 + d) 0) (fun d => s (11 + d) 1) (fun d => s (11 + d) 2) (s 9 3 ||| s 9 4) (s 9 0) (wBest (fun b => decide (wWho (fun d => s (11 + d) 0) (fun d => s (11 + d) 1) (fun d => s (11 + d) 2) (s 9 3 ||| s 9 4) (s 9 0) b N &&& (0 ^^^ (-1)) = 0) || decide (wSum (fun d => s (11 + d) 0) (fun d => s (11 + d) 3) (wWho (fun d => s (11 + d) 0) (fun d => s (11 + d) 1) (fun d => s (11 + d) 2) (s 9 3 ||| s 9 4) (s 9 0) b N &&& (0 ^^^ (-1))) N ≤ a)) (255 &&& ((s 9 1 ||| s 9 2) ^^^ (-1))) 255) N) N hN h6 hK) zb_0 (zg_11 zk_0) rfl (zCB (nA := 1) C rfl rfl tw_604 tw_1 tw_601 (by decide +kernel) ⟨Nat.le_of_ble_eq_true rfl, Nat.le_of_ble_eq_true rfl⟩) tw_603 tp_16 rfl rfl (Nat.le_of_ble_eq_true rfl) dX11_money_60 (Nat.zero_le _) ?_
  refine z_goto C 68 dX11_money_63 (by decide) ?_
  refine z_iret C E rfl dX11_money_68 rfl (Nat.le_refl _) ⟨rfl, rfl⟩
set_option maxRecDepth 100000 in
set_option maxHeartbeats 4000000 in
theorem c_X11_money_2 (l : Launch) (B : zB) (s : zS) (t : zL) (a : Int32) (g : wIn a 200 = true) (N : Nat) (hN : s 8 4 = nI N) (h6 : N ≤ 6) (hK : ∀ d, d < N → ∃ c, c < 6 ∧ s (11 + d) 0 = nI c) : zD l B mX11_money s t [.ref (B.1 + 0), .int a, .int 2] (some (.int (wWho (fun d => s (11 + d) 0) (fun d => s (11 + d) 1) (fun d => s (11 + d) 2) (s 9 3 ||| s 9 4) (s 9 0) (wBest (fun b => decide (wWho (fun d => s (11 + d) 0) (fun d => s (11 + d) 1) (fun d => s (11 + d) 2) (s 9 3 ||| s 9 4) (s 9 0) b N &&& (0 ^^^ (-1)) = 0) || decide (wSum (fun d => s (11 + d) 0) (fun d => s (11 + d) 3) (wWho (fun d => s (11 + d) 0) (fun d => s (11 + d) 1) (fun d => s (11 + d) 2) (s 9 3 ||| s 9 4) (s 9 0) b N &&& (0 ^^^ (-1))) N ≤ a)) (255 &&& ((s 9 1 ||| s 9 2) ^^^ (-1))) 255) N))) s t := by
  refine z_met (by decide) (Nat.le_of_ble_eq_true rfl) ?_
  intro X hl C E hnm
  show Zf X B mX11_money s t 0 [(0, .ref (B.1 + 0)), (1, .int a), (2, .int 2)] []
  refine z_iload_n C dX11_money_0 1 rfl rfl ?_
  refine z_sipush C dX11_money_1 ks_200 ?_
  refine f_callSr C hl (As := [.int a, .int 200]) (rest := []) (c_X11_within l B s t a 200) (zCB (nA := 2) C rfl rfl tw_268 tw_1 tw_266 (by decide +kernel) ⟨Nat.le_of_ble_eq_true rfl, Nat.le_of_ble_eq_true rfl⟩) tw_267 rfl rfl (Nat.le_of_ble_eq_true rfl) dX11_money_4 (Nat.zero_le _) ?_
  refine z_ifb_eq C 18 dX11_money_7 (by decide) (fun hbr => absurd hbr (by rw [g]; decide)) (fun _ => ?_)
  refine z_iload_n C dX11_money_10 2 rfl rfl ?_
  refine z_iconst C dX11_money_11 ki_2 ?_
  refine f_callSr C hl (As := [.int 2, .int 2]) (rest := []) (c_X11_within l B s t 2 2) (zCB (nA := 2) C rfl rfl tw_268 tw_1 tw_266 (by decide +kernel) ⟨Nat.le_of_ble_eq_true rfl, Nat.le_of_ble_eq_true rfl⟩) tw_267 rfl rfl (Nat.le_of_ble_eq_true rfl) dX11_money_12 (Nat.zero_le _) ?_
  refine z_ifb_ne C 25 dX11_money_15 (by decide) (fun _ => ?_) (fun hbr => Bool.noConfusion (show false = true from hbr.symm.trans (by decide)))
  refine z_aload_n C dX11_money_25 0 rfl rfl ?_
  refine z_iload_n C dX11_money_26 1 rfl rfl ?_
  refine z_iconst C dX11_money_27 ki_0 ?_
  refine f_callVr C hl (As := [.int a, .int 0]) (rest := []) (c_X11_bestBundle l B s t a 0 N hN h6 hK) zb_0 (zg_11 zk_0) rfl (zCB (nA := 2) C rfl rfl tw_600 tw_1 tw_597 (by decide +kernel) ⟨Nat.le_of_ble_eq_true rfl, Nat.le_of_ble_eq_true rfl⟩) tw_599 tp_15 rfl rfl (Nat.le_of_ble_eq_true rfl) dX11_money_28 (Nat.zero_le _) ?_
  refine z_istore_n C [(3, .int (wBest (fun b => decide (wWho (fun d => s (11 + d) 0) (fun d => s (11 + d) 1) (fun d => s (11 + d) 2) (s 9 3 ||| s 9 4) (s 9 0) b N &&& (0 ^^^ (-1)) = 0) || decide (wSum (fun d => s (11 + d) 0) (fun d => s (11 + d) 3) (wWho (fun d => s (11 + d) 0) (fun d => s (11 + d) 1) (fun d => s (11 + d) 2) (s 9 3 ||| s 9 4) (s 9 0) b N &&& (0 ^^^ (-1))) N ≤ a)) (255 &&& ((s 9 1 ||| s 9 2) ^^^ (-1))) 255)), (0, .ref (B.1 + 0)), (1, .int a), (2, .int 2)] dX11_money_31 rfl (by decide) rfl ?_
  refine z_iload_n C dX11_money_32 3 rfl rfl ?_
  refine z_if_ne C 38 dX11_money_33 (by decide) (fun _ => ?_) (fun hbr => absurd hbr (by decide))
  refine z_aload_n C dX11_money_38 1 rfl rfl ?_
  refine z_aload_n C dX11_money_39 1 rfl rfl ?_
  refine f_get11 C 1 (v := .ref (B.1 + 8)) (by decide) tw_226 rfl zk_0 zb_0 rfl dX11_money_40 ?_
  refine f_get1 C 0 (v := .ref (B.1 + 9)) (by decide) tw_168 rfl zk_8 zb_8 rfl dX11_money_43 ?_
  refine z_iload_n C dX11_money_46 0 rfl rfl ?_
  refine f_callVr C hl (As := [.ref (B.1 + 9), .int (wBest (fun b => decide (wWho (fun d => s (11 + d) 0) (fun d => s (11 + d) 1) (fun d => s (11 + d) 2) (s 9 3 ||| s 9 4) (s 9 0) b N &&& (0 ^^^ (-1)) = 0) || decide (wSum (fun d => s (11 + d) 0) (fun d => s (11 + d) 3) (wWho (fun d => s (11 + d) 0) (fun d => s (11 + d) 1) (fun d => s (11 + d) 2) (s 9 3 ||| s 9 4) (s 9 0) b N &&& (0 ^^^ (-1))) N ≤ a)) (255 &&& ((s 9 1 ||| s 9 2) ^^^ (-1))) 255)]) (rest := []) (c_X11_stoppers l B s t 9 zk_9 zb_9 (wBest (fun b => decide (wWho (fun d => s (11 + d) 0) (fun d => s (11 + d) 1) (fun d => s (11 + d) 2) (s 9 3 ||| s 9 4) (s 9 0) b N &&& (0 ^^^ (-1)) = 0) || decide (wSum (fun d => s (11 + d) 0) (fun d => s (11 + d) 3) (wWho (fun d => s (11 + d) 0) (fun d => s (11 + d) 1) (fun d => s (11 + d) 2) (s 9 3 ||| s 9 4) (s 9 0) b N &&& (0 ^^^ (-1))) N ≤ a)) (255 &&& ((s 9 1 ||| s 9 2) ^^^ (-1))) 255) (wBest_r8 _ _ _ (by decide)) N hN h6 hK) zb_0 (zg_11 zk_0) rfl (zCB (nA := 2) C rfl rfl tw_473 tw_1 tw_470 (by decide +kernel) ⟨Nat.le_of_ble_eq_true rfl, Nat.le_of_ble_eq_true rfl⟩) tw_472 tp_10 rfl rfl (Nat.le_of_ble_eq_true rfl) dX11_money_47 (Nat.zero_le _) ?_
  refine z_istore C [(4, .int (wWho (fun d => s (11 + d) 0) (fun d => s (11 + d) 1) (fun d => s (11 + d) 2) (s 9 3 ||| s 9 4) (s 9 0) (wBest (fun b => decide (wWho (fun d => s (11 + d) 0) (fun d => s (11 + d) 1) (fun d => s (11 + d) 2) (s 9 3 ||| s 9 4) (s 9 0) b N &&& (0 ^^^ (-1)) = 0) || decide (wSum (fun d => s (11 + d) 0) (fun d => s (11 + d) 3) (wWho (fun d => s (11 + d) 0) (fun d => s (11 + d) 1) (fun d => s (11 + d) 2) (s 9 3 ||| s 9 4) (s 9 0) b N &&& (0 ^^^ (-1))) N ≤ a)) (255 &&& ((s 9 1 ||| s 9 2) ^^^ (-1))) 255) N)), (3, .int (wBest (fun b => decide (wWho (fun d => s (11 + d) 0) (fun d => s (11 + d) 1) (fun d => s (11 + d) 2) (s 9 3 ||| s 9 4) (s 9 0) b N &&& (0 ^^^ (-1)) = 0) || decide (wSum (fun d => s (11 + d) 0) (fun d => s (11 + d) 3) (wWho (fun d => s (11 + d) 0) (fun d => s (11 + d) 1) (fun d => s (11 + d) 2) (s 9 3 ||| s 9 4) (s 9 0) b N &&& (0 ^^^ (-1))) N ≤ a)) (255 &&& ((s 9 1 ||| s 9 2) ^^^ (-1))) 255)), (0, .ref (B.1 + 0)), (1, .int a), (2, .int 2)] dX11_money_50 (by decide) rfl ?_
  refine z_iload_n C dX11_money_52 4 rfl rfl ?_
  refine z_iconst C dX11_money_53 ki_1 ?_
  refine z_icmp_ne C 66 dX11_money_54 (by decide) (fun _ => ?_) (fun hbr => absurd hbr (by decide))
  refine z_iload C dX11_money_66 0 rfl ?_
  refine z_iret C E rfl dX11_money_68 rfl (Nat.le_refl _) ⟨rfl, rfl⟩
