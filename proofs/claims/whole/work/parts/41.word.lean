def zsC (i k : Nat) : Int32 := (zsB.getD i []).getD k 0
theorem zsC_all : ∀ i, i < 5 → zsL.getD i 0 < 7 ∧ ∀ k, k < zsL.getD i 0 → ((zsC i k &&& 255).toUInt32 % 65536).toInt32 = zsC i k ∧ narrow .char (.int (zsC i k)) = .int (zsC i k) := by decide +kernel
section SROWS
variable {X : zX} {B : zB} {μ : zM} {s : zS} {t : zL} {pc : Nat} {lv : List (Nat × Value)} {st : List Value}
theorem f_ldcS (C : zC X B μ) {i : Nat} (hi : i < 5) (hown : μ.1.cls = RX1) (d : decode μ.2.1 pc = .ok (.ldc (zsI i), 2)) (kk : Zf X B μ s t (pc + 2) lv (.ref (B.2.2.2.1 i) :: st)) : Zf X B μ s t pc lv st :=
  fun H locs ls hl hw hS hk => va_ldcS C.1 C.2.1 (hown ▸ C.2.2.2.1) (C.2.2.2.2.2.1.2.2.1 i hi) d (kk H locs ls hl hw hS hk)
theorem f_getSv (C : zC X B μ) {i index : Nat} (hi : i < 5) (hm : zT (.fieldLink μ.1.cls index "java/lang/String" "value" "[B")) (d : decode μ.2.1 pc = .ok (.getfield index, 3)) (kk : Zf X B μ s t (pc + 3) lv (.ref (B.2.2.2.2 i) :: st)) : Zf X B μ s t pc lv (.ref (B.2.2.2.1 i) :: st) :=
  fun H locs ls hl hw hS hk => vk_getf C.1 C.2.1 (C.2.2.2.2.2.1.2.2.2.1.1 i hi).2.2.1 hS C.2.2.2.1 (C.t hm) (fun _ h => h) d (kk H locs ls hl hw hS hk)
theorem f_getSc (C : zC X B μ) {i index : Nat} (hi : i < 5) (hm : zT (.fieldLink μ.1.cls index "java/lang/String" "coder" "B")) (d : decode μ.2.1 pc = .ok (.getfield index, 3)) (kk : Zf X B μ s t (pc + 3) lv (.int 0 :: st)) : Zf X B μ s t pc lv (.ref (B.2.2.2.1 i) :: st) :=
  fun H locs ls hl hw hS hk => vk_getf C.1 C.2.1 (C.2.2.2.2.2.1.2.2.2.1.1 i hi).2.1 hS C.2.2.2.1 (C.t hm) (fun _ h => h) d (kk H locs ls hl hw hS hk)
theorem f_lenS (C : zC X B μ) {i : Nat} (hi : i < 5) (d : decode μ.2.1 pc = .ok (.arraylength, 1)) (kk : Zf X B μ s t (pc + 1) lv (.int (nI (zsL.getD i 0)) :: st)) : Zf X B μ s t pc lv (.ref (B.2.2.2.2 i) :: st) :=
  fun H locs ls hl hw hS hk => va_tlen C.1 C.2.1 (C.2.2.2.2.2.1.2.2.2.1.1 i hi).2.2.2 hS rfl d (kk H locs ls hl hw hS hk)
theorem f_baldS (C : zC X B μ) {i : Nat} (hi : i < 5) {x : Int32} (hx : vp_in x (zsL.getD i 0)) {j : Nat} (hj : x.toNatClampNeg = j) (d : decode μ.2.1 pc = .ok (.baload, 1)) (kk : Zf X B μ s t (pc + 1) lv (.int (zsC i j) :: st)) : Zf X B μ s t pc lv (.int x :: .ref (B.2.2.2.2 i) :: st) :=
  fun H locs ls hl hw hS hk => va_tb C.1 C.2.1 (C.2.2.2.2.2.1.2.2.2.1.1 i hi).2.2.2 hS hx (by rw [hj]; rfl) d (kk H locs ls hl hw hS hk)
theorem f_getCS (C : zC X B μ) {index : Nat} (hm : zT (.fieldLink μ.1.cls index "java/lang/String" "COMPACT_STRINGS" "Z")) (d : decode μ.2.1 pc = .ok (.getstatic index, 3)) (kk : Zf X B μ s t (pc + 3) lv (.int 1 :: st)) : Zf X B μ s t pc lv st :=
  fun H locs ls hl hw hS hk => va_gets C.1 C.2.1 C.2.2.2.2.2.1.2.2.2.2.1 hS C.2.2.2.1 (C.t hm) (fun _ h => h) d (kk H locs ls hl hw hS hk)
theorem f_getSI (C : zC X B μ) {index : Nat} (hm : zT (.fieldLink μ.1.cls index "jdk/internal/util/Preconditions" "SIOOBE_FORMATTER" "Ljava/util/function/BiFunction;")) (d : decode μ.2.1 pc = .ok (.getstatic index, 3)) (kn : Zf X B μ s t (pc + 3) lv (.null :: st)) (kk : ∀ r : Nat, Zf X B μ s t (pc + 3) lv (.ref r :: st)) : Zf X B μ s t pc lv st := by
  intro H locs ls hl hw hS hk
  rcases C.2.2.2.2.2.1.2.2.2.2.2.1 with h | ⟨r, h⟩
  · exact va_gets C.1 C.2.1 h hS C.2.2.2.1 (C.t hm) (fun _ h => h) d (kn H locs ls hl hw hS hk)
  · exact va_gets C.1 C.2.1 h hS C.2.2.2.1 (C.t hm) (fun _ h => h) d (kk r H locs ls hl hw hS hk)
theorem f_callVs (C : zC X B μ) {l : Launch} (hl : X.2.1 = l) {κ : zM} {nA index w : Nat} {As rest : List Value} {v0 : Value} {i : Nat} (hi : i < 5) (hM : zD l B κ s t (.ref (B.2.2.2.1 i) :: As) (some v0) s t) (cw : CallB μ.2.2.2.2 (xS X) (xA X) μ.1.cls index κ.1 κ.2.1 κ.2.2.1 κ.2.2.2.1 (zWs κ) κ.2.2.2.2 0 0 nA) (hin : zT (.instanceMethod κ.1)) (hsel : zT (.selects "java/lang/String" κ.1 κ.1)) (hn : As.length = nA) (hst : st = As.reverse ++ .ref (B.2.2.2.1 i) :: rest) (hW : (rest.map fun v => v.category).sum ≤ 8) (d : decode μ.2.1 pc = .ok (.invokevirtual index, 3)) (hw0 : w ≤ μ.2.2.2.2.slots) (kk : Z X B μ 124 (zg B s t) 0 w (pc + 3) lv (v0 :: rest)) : Z X B μ 124 (zg B s t) 0 w pc lv st := by
  subst hl
  exact z_run (mc := 0) (ms := 0) (rest := rest) (fun H locs ls hls hw hS => va_runV (As := As) (rest := rest) C.fix hM ⟨cw, C.t hin, C.t hsel⟩ ⟨zPre_blind, vk_recv C.2.2.2.2.2.1.2.2.2.1 hi hS, zPre_at C hw hS _⟩ rfl hn hls.1 hst (lv_room hW) d ⟨Nat.zero_le _, hw0⟩) (fun v G q => by obtain ⟨rfl, rfl⟩ := q; exact kk)
end SROWS
theorem nI_shr0 {n : Nat} (h : n < 7) : nI n >>> ((0 : Int32) &&& 31) = nI n := by
  have : ∀ n, n < 7 → nI n >>> ((0 : Int32) &&& 31) = nI n := by decide +kernel
  exact this n h
abbrev mJ0_coder_7d493 : zM := (yJ0_coder_7d493, cJ0_coder_7d493, 1, (some .byte), { frames := 0, cells := 0, slots := 0, locals := 0 })
set_option maxRecDepth 100000 in
set_option maxHeartbeats 4000000 in
theorem c_J0_coder_7d493 (l : Launch) (B : zB) (s : zS) (t : zL) (i : Nat) (hi : i < 5) : zD l B mJ0_coder_7d493 s t [.ref (B.2.2.2.1 i)] (some (.int 0)) s t := by
  refine z_met (by decide) (Nat.le_of_ble_eq_true rfl) ?_
  intro X hl C E hnm
  show Zf X B mJ0_coder_7d493 s t 0 [(0, .ref (B.2.2.2.1 i))] []
  refine f_getCS C tw_357 dJ0_coder_7d493_0 ?_
  refine z_if_eq C 13 dJ0_coder_7d493_3 (by decide) (fun hbr => absurd hbr (by decide)) (fun _ => ?_)
  refine z_aload_n C dJ0_coder_7d493_6 0 rfl rfl ?_
  refine f_getSc C hi tw_1115 dJ0_coder_7d493_7 ?_
  refine z_goto C 14 dJ0_coder_7d493_10 (by decide) ?_
  refine z_zret C E rfl dJ0_coder_7d493_14 rfl rfl (Nat.le_refl _) ⟨rfl, rfl⟩
abbrev mJ0_length_8abf5 : zM := (yJ0_length_8abf5, cJ0_length_8abf5, 1, (some .int), { frames := 1, cells := 0, slots := 0, locals := 20 })
set_option maxRecDepth 100000 in
set_option maxHeartbeats 4000000 in
theorem c_J0_length_8abf5 (l : Launch) (B : zB) (s : zS) (t : zL) (i : Nat) (hi : i < 5) : zD l B mJ0_length_8abf5 s t [.ref (B.2.2.2.1 i)] (some (.int (nI (zsL.getD i 0)))) s t := by
  refine z_met (by decide) (Nat.le_of_ble_eq_true rfl) ?_
  intro X hl C E hnm
  show Zf X B mJ0_length_8abf5 s t 0 [(0, .ref (B.2.2.2.1 i))] []
  refine z_aload_n C dJ0_length_8abf5_0 0 rfl rfl ?_
  refine f_getSv C hi tw_1114 dJ0_length_8abf5_1 ?_
  refine f_lenS C hi dJ0_length_8abf5_4 ?_
  refine z_aload_n C dJ0_length_8abf5_5 0 rfl rfl ?_
  refine f_callVs C hl (As := []) (rest := [.int (nI (zsL.getD i 0))]) hi (c_J0_coder_7d493 l B s t i hi) (zCB (nA := 0) C rfl rfl tw_356 tw_15 tw_353 (by decide +kernel) ⟨Nat.le_of_ble_eq_true rfl, Nat.le_of_ble_eq_true rfl⟩) tw_354 tw_355 rfl rfl (Nat.le_of_ble_eq_true rfl) dJ0_length_8abf5_6 (Nat.zero_le _) ?_
  refine z_ishr C dJ0_length_8abf5_9 ?_
  refine z_iret C E rfl dJ0_length_8abf5_10 rfl (Nat.le_refl _) ⟨by rw [nI_shr0 (zsC_all i hi).1], rfl⟩
abbrev mJ0_isLatin1_aae02 : zM := (yJ0_isLatin1_aae02, cJ0_isLatin1_aae02, 1, (some .boolean), { frames := 0, cells := 0, slots := 0, locals := 0 })
set_option maxRecDepth 100000 in
set_option maxHeartbeats 4000000 in
theorem c_J0_isLatin1_aae02 (l : Launch) (B : zB) (s : zS) (t : zL) (i : Nat) (hi : i < 5) : zD l B mJ0_isLatin1_aae02 s t [.ref (B.2.2.2.1 i)] (some (.int 1)) s t := by
  refine z_met (by decide) (Nat.le_of_ble_eq_true rfl) ?_
  intro X hl C E hnm
  show Zf X B mJ0_isLatin1_aae02 s t 0 [(0, .ref (B.2.2.2.1 i))] []
  refine f_getCS C tw_357 dJ0_isLatin1_aae02_0 ?_
  refine z_if_eq C 17 dJ0_isLatin1_aae02_3 (by decide) (fun hbr => absurd hbr (by decide)) (fun _ => ?_)
  refine z_aload_n C dJ0_isLatin1_aae02_6 0 rfl rfl ?_
  refine f_getSc C hi tw_1115 dJ0_isLatin1_aae02_7 ?_
  refine z_if_ne C 17 dJ0_isLatin1_aae02_10 (by decide) (fun hbr => absurd (by decide) hbr) (fun _ => ?_)
  refine z_iconst C dJ0_isLatin1_aae02_13 ki_1 ?_
  refine z_goto C 18 dJ0_isLatin1_aae02_14 (by decide) ?_
  refine z_zret C E rfl dJ0_isLatin1_aae02_18 rfl rfl (Nat.le_refl _) ⟨rfl, rfl⟩
abbrev mJ3_checkIndex_8e157 : zM := (yJ3_checkIndex_8e157, cJ3_checkIndex_8e157, 3, (some .int), { frames := 0, cells := 0, slots := 0, locals := 0 })
set_option maxRecDepth 100000 in
set_option maxHeartbeats 4000000 in
theorem c_J3_checkIndexn (l : Launch) (B : zB) (s : zS) (t : zL) (a L : Nat) (h : a < L) (hL : L < 2 ^ 31) : zD l B mJ3_checkIndex_8e157 s t [.int (nI a), .int (nI L), .null] (some (.int (nI a))) s t := by
  refine z_met (by decide) (Nat.le_of_ble_eq_true rfl) ?_
  intro X hl C E hnm
  show Zf X B mJ3_checkIndex_8e157 s t 0 [(0, .int (nI a)), (1, .int (nI L)), (2, .null)] []
  refine z_iload_n C dJ3_checkIndex_8e157_0 0 rfl rfl ?_
  refine z_if_lt C 9 dJ3_checkIndex_8e157_1 (by decide) (fun hbr => absurd hbr (nI_pos (by omega))) (fun _ => ?_)
  refine z_iload_n C dJ3_checkIndex_8e157_4 0 rfl rfl ?_
  refine z_iload_n C dJ3_checkIndex_8e157_5 1 rfl rfl ?_
  refine z_icmp_lt C 16 dJ3_checkIndex_8e157_6 (by decide) (fun _ => ?_) (fun hbr => absurd (nI_lt h hL) hbr)
  refine z_iload_n C dJ3_checkIndex_8e157_16 0 rfl rfl ?_
  refine z_iret C E rfl dJ3_checkIndex_8e157_17 rfl (Nat.le_refl _) ⟨rfl, rfl⟩
set_option maxRecDepth 100000 in
set_option maxHeartbeats 4000000 in
theorem c_J3_checkIndexr (l : Launch) (B : zB) (s : zS) (t : zL) (r : Nat) (a L : Nat) (h : a < L) (hL : L < 2 ^ 31) : zD l B mJ3_checkIndex_8e157 s t [.int (nI a), .int (nI L), .ref r] (some (.int (nI a))) s t := by
  refine z_met (by decide) (Nat.le_of_ble_eq_true rfl) ?_
  intro X hl C E hnm
  show Zf X B mJ3_checkIndex_8e157 s t 0 [(0, .int (nI a)), (1, .int (nI L)), (2, .ref r)] []
  refine z_iload_n C dJ3_checkIndex_8e157_0 0 rfl rfl ?_
  refine z_if_lt C 9 dJ3_checkIndex_8e157_1 (by decide) (fun hbr => absurd hbr (nI_pos (by omega))) (fun _ => ?_)
  refine z_iload_n C dJ3_checkIndex_8e157_4 0 rfl rfl ?_
  refine z_iload_n C dJ3_checkIndex_8e157_5 1 rfl rfl ?_
  refine z_icmp_lt C 16 dJ3_checkIndex_8e157_6 (by decide) (fun _ => ?_) (fun hbr => absurd (nI_lt h hL) hbr)
  refine z_iload_n C dJ3_checkIndex_8e157_16 0 rfl rfl ?_
  refine z_iret C E rfl dJ3_checkIndex_8e157_17 rfl (Nat.le_refl _) ⟨rfl, rfl⟩
abbrev mJ0_checkIndex_df160 : zM := (yJ0_checkIndex_df160, cJ0_checkIndex_df160, 2, none, { frames := 1, cells := 0, slots := 0, locals := 22 })
set_option maxRecDepth 100000 in
set_option maxHeartbeats 4000000 in
theorem c_J0_checkIndex_df160 (l : Launch) (B : zB) (s : zS) (t : zL) (a L : Nat) (h : a < L) (hL : L < 2 ^ 31) : zD l B mJ0_checkIndex_df160 s t [.int (nI a), .int (nI L)] none s t := by
  refine z_met (by decide) (Nat.le_of_ble_eq_true rfl) ?_
  intro X hl C E hnm
  show Zf X B mJ0_checkIndex_df160 s t 0 [(0, .int (nI a)), (1, .int (nI L))] []
  refine z_iload_n C dJ0_checkIndex_df160_0 0 rfl rfl ?_
  refine z_iload_n C dJ0_checkIndex_df160_1 1 rfl rfl ?_
  refine f_getSI C tw_373 dJ0_checkIndex_df160_2 ?_ (fun r => ?_)
  · refine f_callSr C hl (As := [.int (nI a), .int (nI L), .null]) (rest := []) (c_J3_checkIndexn l B s t a L h hL) (zCB (nA := 3) C rfl rfl tw_377 tw_17 tw_375 (by decide +kernel) ⟨Nat.le_of_ble_eq_true rfl, Nat.le_of_ble_eq_true rfl⟩) tw_376 rfl rfl (Nat.le_of_ble_eq_true rfl) dJ0_checkIndex_df160_5 (Nat.zero_le _) ?_
    refine z_pop C dJ0_checkIndex_df160_8 rfl ?_
    refine z_vret C E rfl dJ0_checkIndex_df160_9 rfl (Nat.le_refl _) ⟨rfl, rfl⟩
  · refine f_callSr C hl (As := [.int (nI a), .int (nI L), .ref r]) (rest := []) (c_J3_checkIndexr l B s t r a L h hL) (zCB (nA := 3) C rfl rfl tw_377 tw_17 tw_375 (by decide +kernel) ⟨Nat.le_of_ble_eq_true rfl, Nat.le_of_ble_eq_true rfl⟩) tw_376 rfl rfl (Nat.le_of_ble_eq_true rfl) dJ0_checkIndex_df160_5 (Nat.zero_le _) ?_
    refine z_pop C dJ0_checkIndex_df160_8 rfl ?_
    refine z_vret C E rfl dJ0_checkIndex_df160_9 rfl (Nat.le_refl _) ⟨rfl, rfl⟩
abbrev mJ1_charAt_3b067 : zM := (yJ1_charAt_3b067, cJ1_charAt_3b067, 2, (some .char), { frames := 2, cells := 0, slots := 0, locals := 43 })
set_option maxRecDepth 100000 in
set_option maxHeartbeats 4000000 in
theorem c_J1_charAt_3b067 (l : Launch) (B : zB) (s : zS) (t : zL) (i : Nat) (hi : i < 5) (k : Nat) (hk : k < zsL.getD i 0) : zD l B mJ1_charAt_3b067 s t [.ref (B.2.2.2.2 i), .int (nI k)] (some (.int (zsC i k))) s t := by
  refine z_met (by decide) (Nat.le_of_ble_eq_true rfl) ?_
  intro X hl C E hnm
  show Zf X B mJ1_charAt_3b067 s t 0 [(0, .ref (B.2.2.2.2 i)), (1, .int (nI k))] []
  refine z_iload_n C dJ1_charAt_3b067_0 1 rfl rfl ?_
  refine z_aload_n C dJ1_charAt_3b067_1 0 rfl rfl ?_
  refine f_lenS C hi dJ1_charAt_3b067_2 ?_
  refine f_callSv C hl (As := [.int (nI k), .int (nI (zsL.getD i 0))]) (rest := []) (c_J0_checkIndex_df160 l B s t k (zsL.getD i 0) hk (by have := (zsC_all i hi).1; omega)) (zCB (nA := 2) C rfl rfl tw_372 tw_15 tw_370 (by decide +kernel) ⟨Nat.le_of_ble_eq_true rfl, Nat.le_of_ble_eq_true rfl⟩) tw_371 rfl rfl (Nat.le_of_ble_eq_true rfl) dJ1_charAt_3b067_3 (Nat.zero_le _) ?_
  refine z_aload_n C dJ1_charAt_3b067_6 0 rfl rfl ?_
  refine z_iload_n C dJ1_charAt_3b067_7 1 rfl rfl ?_
  refine f_baldS C hi (ixN (n := zsL.getD i 0) rfl hk (by have := (zsC_all i hi).1; omega)).1 (j := k) (ixN (n := zsL.getD i 0) rfl hk (by have := (zsC_all i hi).1; omega)).2 dJ1_charAt_3b067_8 ?_
  refine z_sipush C dJ1_charAt_3b067_9 ks_255 ?_
  refine z_iand C dJ1_charAt_3b067_12 ?_
  refine z_i2c C dJ1_charAt_3b067_13 ?_
  refine f_topi (y := zsC i k) ((zsC_all i hi).2 k hk).1 ?_
  refine z_zret C E rfl dJ1_charAt_3b067_14 ((zsC_all i hi).2 k hk).2 rfl (Nat.le_refl _) ⟨rfl, rfl⟩
abbrev mJ0_charAt_5068e : zM := (yJ0_charAt_5068e, cJ0_charAt_5068e, 2, (some .char), { frames := 4, cells := 0, slots := 0, locals := 85 })
set_option maxRecDepth 100000 in
set_option maxHeartbeats 4000000 in
theorem c_J0_charAt_5068e (l : Launch) (B : zB) (s : zS) (t : zL) (i : Nat) (hi : i < 5) (k : Nat) (hk : k < zsL.getD i 0) : zD l B mJ0_charAt_5068e s t [.ref (B.2.2.2.1 i), .int (nI k)] (some (.int (zsC i k))) s t := by
  refine z_met (by decide) (Nat.le_of_ble_eq_true rfl) ?_
  intro X hl C E hnm
  show Zf X B mJ0_charAt_5068e s t 0 [(0, .ref (B.2.2.2.1 i)), (1, .int (nI k))] []
  refine z_aload_n C dJ0_charAt_5068e_0 0 rfl rfl ?_
  refine f_callVs C hl (As := []) (rest := []) hi (c_J0_isLatin1_aae02 l B s t i hi) (zCB (nA := 0) C rfl rfl tw_366 tw_15 tw_363 (by decide +kernel) ⟨Nat.le_of_ble_eq_true rfl, Nat.le_of_ble_eq_true rfl⟩) tw_364 tw_365 rfl rfl (Nat.le_of_ble_eq_true rfl) dJ0_charAt_5068e_1 (Nat.zero_le _) ?_
  refine z_if_eq C 16 dJ0_charAt_5068e_4 (by decide) (fun hbr => absurd hbr (by decide)) (fun _ => ?_)
  refine z_aload_n C dJ0_charAt_5068e_7 0 rfl rfl ?_
  refine f_getSv C hi tw_1114 dJ0_charAt_5068e_8 ?_
  refine z_iload_n C dJ0_charAt_5068e_11 1 rfl rfl ?_
  refine f_callSr C hl (As := [.ref (B.2.2.2.2 i), .int (nI k)]) (rest := []) (c_J1_charAt_3b067 l B s t i hi k hk) (zCB (nA := 2) C rfl rfl tw_369 tw_16 tw_367 (by decide +kernel) ⟨Nat.le_of_ble_eq_true rfl, Nat.le_of_ble_eq_true rfl⟩) tw_368 rfl rfl (Nat.le_of_ble_eq_true rfl) dJ0_charAt_5068e_12 (Nat.zero_le _) ?_
  refine z_zret C E rfl dJ0_charAt_5068e_15 ((zsC_all i hi).2 k hk).2 rfl (Nat.le_refl _) ⟨rfl, rfl⟩
def tIs (b : Nat → Int32) (n q i : Nat) : Bool := decide (tK b n q = 1) && (decide (tE b n q - q = zsL.getD i 0) && wAll (fun k => decide (b (q + k) = zsC i k)) (zsL.getD i 0))
theorem tE_ge {b : Nat → Int32} {n q : Nat} : q ≤ tE b n q := by
  by_cases h : n ≤ q
  · rw [tE, if_pos h]; exact Nat.le_refl _
  · exact Nat.le_of_lt (tE_gt (by omega))
abbrev mX9_isWord : zM := (yX9_isWord, cX9_isWord, 3, (some .boolean), { frames := 5, cells := 0, slots := 0, locals := 106 })
set_option maxRecDepth 100000 in
set_option maxHeartbeats 4000000 in
theorem l_X9_isWord {l : Launch} {B : zB} {s : zS} {t : zL} {X : zX} (hl : X.2.1 = l) (C : zC X B mX9_isWord) (b : Nat → Int32) (hb : s 112 = b) (n : Nat) (h150 : n ≤ 150) (q : Nat) (hq : q ≤ n) (v : Int32) (i : Nat) (hi : i < 5) (hL : zsL.getD i 0 < 7) (hK : tK b n q = 1) (hE : tE b n q - q = zsL.getD i 0) (hEn : tE b n q ≤ n) (hEq : q ≤ tE b n q) (E : zE X B mX9_isWord 124 0 0 (zR B (some (.int (zi (tIs b n q i)))) (cT s b n q v) t)) : ∀ (m : Nat) (k : Nat), k + m = zsL.getD i 0 → wAll (fun k => decide (b (q + k) = zsC i k)) k = true → Zf X B mX9_isWord (cT s b n q v) t 28 [(2, .int (nI k)), (0, .ref (B.1 + 111)), (1, .ref (B.2.2.2.1 i))] [] := by
  intro m
  induction m with
  | zero =>
    intro k hk0 hp
    refine z_iload_n C dX9_isWord_28 0 rfl rfl ?_
    refine z_aload_n C dX9_isWord_29 2 rfl rfl ?_
    refine f_callVs C hl (As := []) (rest := [.int (nI k)]) hi (c_J0_length_8abf5 l B (cT s b n q v) t i hi) (zCB (nA := 0) C rfl rfl tw_352 tw_15 tw_349 (by decide +kernel) ⟨Nat.le_of_ble_eq_true rfl, Nat.le_of_ble_eq_true rfl⟩) tw_350 tw_351 rfl rfl (Nat.le_of_ble_eq_true rfl) dX9_isWord_30 (Nat.zero_le _) ?_
    refine z_icmp_ge C 62 dX9_isWord_33 (by decide) (fun _ => ?_) (fun hbr => absurd (nI_le (by omega) (by omega)) hbr)
    refine z_iconst C dX9_isWord_62 ki_1 ?_
    refine z_zret C E rfl dX9_isWord_63 rfl rfl (Nat.le_refl _) ⟨congrArg (fun z => some (Value.int z)) (by rw [tIs, decide_eq_true hK, decide_eq_true hE, show zsL.getD i 0 = k by omega, hp]; rfl), rfl⟩
  | succ m ih =>
    intro k hk0 hp
    have hk : k < zsL.getD i 0 := by omega
    refine z_iload_n C dX9_isWord_28 0 rfl rfl ?_
    refine z_aload_n C dX9_isWord_29 2 rfl rfl ?_
    refine f_callVs C hl (As := []) (rest := [.int (nI k)]) hi (c_J0_length_8abf5 l B (cT s b n q v) t i hi) (zCB (nA := 0) C rfl rfl tw_352 tw_15 tw_349 (by decide +kernel) ⟨Nat.le_of_ble_eq_true rfl, Nat.le_of_ble_eq_true rfl⟩) tw_350 tw_351 rfl rfl (Nat.le_of_ble_eq_true rfl) dX9_isWord_30 (Nat.zero_le _) ?_
    refine z_icmp_ge C 62 dX9_isWord_33 (by decide) (fun hbr => absurd hbr (nI_ge hk (by omega))) (fun _ => ?_)
    refine z_aload_n C dX9_isWord_36 1 rfl rfl ?_
    refine z_aload_n C dX9_isWord_37 1 rfl rfl ?_
    refine f_get9 C 2 (v := .int ((cT s b n q v) 111 2)) (by decide) tw_205 rfl zk_111 zb_111 rfl dX9_isWord_38 ?_
    refine f_topi (y := nI q) (cT_2 _ _ _ _ _) ?_
    refine z_iload_n C dX9_isWord_41 0 rfl rfl ?_
    refine z_iadd C dX9_isWord_42 ?_
    refine f_topi (y := nI (q + k)) (nA rfl rfl rfl) ?_
    refine f_callVr C hl (As := [.int (nI (q + k))]) (rest := []) (c_X9_byteAt l B (cT s b n q v) t b (by rw [cT_row _ _ _ _ _ (by decide)]; exact hb) n (cT_1 _ _ _ _ _) h150 (q + k) (by omega)) zb_111 (zg_9 zk_111) rfl (zCB (nA := 1) C rfl rfl tw_335 tw_12 tw_332 (by decide +kernel) ⟨Nat.le_of_ble_eq_true rfl, Nat.le_of_ble_eq_true rfl⟩) tw_334 tp_3 rfl rfl (Nat.le_of_ble_eq_true rfl) dX9_isWord_43 (Nat.zero_le _) ?_
    refine z_aload_n C dX9_isWord_46 2 rfl rfl ?_
    refine z_iload_n C dX9_isWord_47 0 rfl rfl ?_
    refine f_callVs C hl (As := [.int (nI k)]) (rest := [.int (b (q + k))]) hi (c_J0_charAt_5068e l B (cT s b n q v) t i hi k hk) (zCB (nA := 1) C rfl rfl tw_362 tw_15 tw_359 (by decide +kernel) ⟨Nat.le_of_ble_eq_true rfl, Nat.le_of_ble_eq_true rfl⟩) tw_360 tw_361 rfl rfl (Nat.le_of_ble_eq_true rfl) dX9_isWord_48 (Nat.zero_le _) ?_
    refine z_icmp_eq C 56 dX9_isWord_51 (by decide) (fun h51 => ?_) (fun h51 => ?_)
    · refine z_iinc C [(2, .int (nI (k + 1))), (0, .ref (B.1 + 111)), (1, .ref (B.2.2.2.1 i))] dX9_isWord_56 0 rfl (nI_inc k) (by decide) rfl ?_
      refine z_goto C 28 dX9_isWord_59 (by decide) ?_
      exact z_lv [0, 1, 2] rfl (ih (k + 1) (by omega) (by rw [wAll, hp, decide_eq_true h51]; rfl))
    · refine z_iconst C dX9_isWord_54 ki_0 ?_
      refine z_zret C E rfl dX9_isWord_55 rfl rfl (Nat.le_refl _) ⟨congrArg (fun z => some (Value.int z)) (by rw [tIs, decide_eq_true hK, decide_eq_true hE, wAll_no hk (decide_eq_false h51)]; rfl), rfl⟩
set_option maxRecDepth 100000 in
set_option maxHeartbeats 4000000 in
theorem c_X9_isWord (l : Launch) (B : zB) (s : zS) (t : zL) (b : Nat → Int32) (hb : s 112 = b) (n : Nat) (h150 : n ≤ 150) (q : Nat) (hq : q ≤ n) (v : Int32) (i : Nat) (hi : i < 5) : zD l B mX9_isWord (cT s b n q v) t [.ref (B.1 + 111), .ref (B.2.2.2.1 i)] (some (.int (zi (tIs b n q i)))) (cT s b n q v) t := by
  have hL := (zsC_all i hi).1
  have hEn : tE b n q ≤ n := tE_le hq
  have hEq : q ≤ tE b n q := tE_ge
  refine z_met (by decide) (Nat.le_of_ble_eq_true rfl) ?_
  intro X hl C E hnm
  show Zf X B mX9_isWord (cT s b n q v) t 0 [(0, .ref (B.1 + 111)), (1, .ref (B.2.2.2.1 i))] []
  refine z_aload_n C dX9_isWord_0 0 rfl rfl ?_
  refine f_get9 C 4 (v := .int ((cT s b n q v) 111 4)) (by decide) tw_208 rfl zk_111 zb_111 rfl dX9_isWord_1 ?_
  refine f_topi (y := tK b n q) (cT_4 _ _ _ _ _) ?_
  refine z_iconst C dX9_isWord_4 ki_1 ?_
  refine z_icmp_ne C 24 dX9_isWord_5 (by decide) (fun h5 => ?_) (fun h5 => ?_)
  · refine z_iconst C dX9_isWord_24 ki_0 ?_
    refine z_zret C E rfl dX9_isWord_25 rfl rfl (Nat.le_refl _) ⟨congrArg (fun z => some (Value.int z)) (by rw [tIs, decide_eq_false h5]; rfl), rfl⟩
  · refine z_aload_n C dX9_isWord_8 0 rfl rfl ?_
    refine f_get9 C 3 (v := .int ((cT s b n q v) 111 3)) (by decide) tw_207 rfl zk_111 zb_111 rfl dX9_isWord_9 ?_
    refine f_topi (y := nI (tE b n q)) (cT_3 _ _ _ _ _) ?_
    refine z_aload_n C dX9_isWord_12 0 rfl rfl ?_
    refine f_get9 C 2 (v := .int ((cT s b n q v) 111 2)) (by decide) tw_205 rfl zk_111 zb_111 rfl dX9_isWord_13 ?_
    refine f_topi (y := nI q) (cT_2 _ _ _ _ _) ?_
    refine z_isub C dX9_isWord_16 ?_
    refine f_topi (y := nI (tE b n q - q)) (pk_sub hEq) ?_
    refine z_aload_n C dX9_isWord_17 1 rfl rfl ?_
    refine f_callVs C hl (As := []) (rest := [.int (nI (tE b n q - q))]) hi (c_J0_length_8abf5 l B (cT s b n q v) t i hi) (zCB (nA := 0) C rfl rfl tw_352 tw_15 tw_349 (by decide +kernel) ⟨Nat.le_of_ble_eq_true rfl, Nat.le_of_ble_eq_true rfl⟩) tw_350 tw_351 rfl rfl (Nat.le_of_ble_eq_true rfl) dX9_isWord_18 (Nat.zero_le _) ?_
    refine z_icmp_eq C 26 dX9_isWord_21 (by decide) (fun h21 => ?_) (fun h21 => ?_)
    · refine z_iconst C dX9_isWord_26 ki_0 ?_
      refine z_istore_n C [(2, .int 0), (0, .ref (B.1 + 111)), (1, .ref (B.2.2.2.1 i))] dX9_isWord_27 rfl (by decide) rfl ?_
      exact z_lv [0, 1, 2] rfl (l_X9_isWord hl C b hb n h150 q hq v i hi hL h5 ((nI_eq (by omega) (by omega)).mp h21) hEn hEq E _ 0 (Nat.zero_add _) rfl)
    · refine z_iconst C dX9_isWord_24 ki_0 ?_
      refine z_zret C E rfl dX9_isWord_25 rfl rfl (Nat.le_refl _) ⟨congrArg (fun z => some (Value.int z)) (by rw [tIs, decide_eq_true h5, decide_eq_false (fun z => h21 (by rw [z]))]; rfl), rfl⟩
