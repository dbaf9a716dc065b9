set_option maxRecDepth 100000 in
set_option maxHeartbeats 4000000 in
theorem l_step {l : Launch} {X : zX} {B : zB} (hl : X.2.1 = l) (C : zC X B mLaw) {b L : Nat} {xs : Nat → Int32} (hX : va_X b L xs (xS X) (xS X).heap) (hbl : b < (xS X).heap.size) (hbB : b < B.1) (hL : L ≤ 320) {i : Nat} (hi : i + 5 ≤ L) {s : zS} {t : zL} (hJ : jI s t) (k : ∀ s2 t2, jI s2 t2 → lZ X B s2 t2 998 (lLv B b i) []) : lZ X B s t 26 (lLv B b i) [] := by
  refine z_aload_n C dL_law_26 3 rfl rfl ?_
  refine z_iload_n C dL_law_27 0 rfl rfl ?_
  refine z_sld C hX hbl hbB (i := i) (by omega) hL dL_law_28 ?_
  refine z_bipush C dL_law_29 kb_63 ?_
  refine z_iand C dL_law_31 ?_
  obtain ⟨j, hj, ej⟩ := pk_andE (xs i) (m := 63) 6 (by decide)
  refine f_topi ej ?_
  by_cases h34 : j < 34
  · rcases (show j = 0 ∨ j = 1 ∨ j = 2 ∨ j = 3 ∨ j = 4 ∨ j = 5 ∨ j = 6 ∨ j = 7 ∨ j = 8 ∨ j = 9 ∨ j = 10 ∨ j = 11 ∨ j = 12 ∨ j = 13 ∨ j = 14 ∨ j = 15 ∨ j = 16 ∨ j = 17 ∨ j = 18 ∨ j = 19 ∨ j = 20 ∨ j = 21 ∨ j = 22 ∨ j = 23 ∨ j = 24 ∨ j = 25 ∨ j = 26 ∨ j = 27 ∨ j = 28 ∨ j = 29 ∨ j = 30 ∨ j = 31 ∨ j = 32 ∨ j = 33 by omega) with rfl | rfl | rfl | rfl | rfl | rfl | rfl | rfl | rfl | rfl | rfl | rfl | rfl | rfl | rfl | rfl | rfl | rfl | rfl | rfl | rfl | rfl | rfl | rfl | rfl | rfl | rfl | rfl | rfl | rfl | rfl | rfl | rfl | rfl
    · exact z_tableIn C (off := 152) 184 dL_law_32 (by decide) (by decide) (by decide) (by decide) (lc_0 hl C hX hbl hbB hL hi hJ k)
    · exact z_tableIn C (off := 175) 207 dL_law_32 (by decide) (by decide) (by decide) (by decide) (lc_1 hl C hX hbl hbB hL hi hJ k)
    · exact z_tableIn C (off := 228) 260 dL_law_32 (by decide) (by decide) (by decide) (by decide) (lc_2 hl C hX hbl hbB hL hi hJ k)
    · exact z_tableIn C (off := 251) 283 dL_law_32 (by decide) (by decide) (by decide) (by decide) (lc_3 hl C hX hbl hbB hL hi hJ k)
    · exact z_tableIn C (off := 264) 296 dL_law_32 (by decide) (by decide) (by decide) (by decide) (lc_4 hl C hX hbl hbB hL hi hJ k)
    · exact z_tableIn C (off := 277) 309 dL_law_32 (by decide) (by decide) (by decide) (by decide) (lc_5 hl C hX hbl hbB hL hi hJ k)
    · exact z_tableIn C (off := 300) 332 dL_law_32 (by decide) (by decide) (by decide) (by decide) (lc_6 hl C hX hbl hbB hL hi hJ k)
    · exact z_tableIn C (off := 313) 345 dL_law_32 (by decide) (by decide) (by decide) (by decide) (lc_7 hl C hX hbl hbB hL hi hJ k)
    · exact z_tableIn C (off := 336) 368 dL_law_32 (by decide) (by decide) (by decide) (by decide) (lc_8 hl C hX hbl hbB hL hi hJ k)
    · exact z_tableIn C (off := 359) 391 dL_law_32 (by decide) (by decide) (by decide) (by decide) (lc_9 hl C hX hbl hbB hL hi hJ k)
    · exact z_tableIn C (off := 372) 404 dL_law_32 (by decide) (by decide) (by decide) (by decide) (lc_10 hl C hX hbl hbB hL hi hJ k)
    · exact z_tableIn C (off := 405) 437 dL_law_32 (by decide) (by decide) (by decide) (by decide) (lc_11 hl C hX hbl hbB hL hi hJ k)
    · exact z_tableIn C (off := 438) 470 dL_law_32 (by decide) (by decide) (by decide) (by decide) (lc_12 hl C hX hbl hbB hL hi hJ k)
    · exact z_tableIn C (off := 461) 493 dL_law_32 (by decide) (by decide) (by decide) (by decide) (lc_13 hl C hX hbl hbB hL hi hJ k)
    · exact z_tableIn C (off := 484) 516 dL_law_32 (by decide) (by decide) (by decide) (by decide) (lc_14 hl C hX hbl hbB hL hi hJ k)
    · exact z_tableIn C (off := 497) 529 dL_law_32 (by decide) (by decide) (by decide) (by decide) (lc_15 hl C hX hbl hbB hL hi hJ k)
    · exact z_tableIn C (off := 530) 562 dL_law_32 (by decide) (by decide) (by decide) (by decide) (lc_16 hl C hX hbl hbB hL hi hJ k)
    · exact z_tableIn C (off := 553) 585 dL_law_32 (by decide) (by decide) (by decide) (by decide) (lc_17 hl C hX hbl hbB hL hi hJ k)
    · exact z_tableIn C (off := 566) 598 dL_law_32 (by decide) (by decide) (by decide) (by decide) (lc_18 hl C hX hbl hbB hL hi hJ k)
    · exact z_tableIn C (off := 579) 611 dL_law_32 (by decide) (by decide) (by decide) (by decide) (lc_19 hl C hX hbl hbB hL hi hJ k)
    · exact z_tableIn C (off := 602) 634 dL_law_32 (by decide) (by decide) (by decide) (by decide) (lc_20 hl C hX hbl hbB hL hi hJ k)
    · exact z_tableIn C (off := 625) 657 dL_law_32 (by decide) (by decide) (by decide) (by decide) (lc_21 hl C hX hbl hbB hL hi hJ k)
    · exact z_tableIn C (off := 678) 710 dL_law_32 (by decide) (by decide) (by decide) (by decide) (lc_22 hl C hX hbl hbB hL hi hJ k)
    · exact z_tableIn C (off := 691) 723 dL_law_32 (by decide) (by decide) (by decide) (by decide) (lc_23 hl C hX hbl hbB hL hi hJ k)
    · exact z_tableIn C (off := 714) 746 dL_law_32 (by decide) (by decide) (by decide) (by decide) (lc_24 hl C hX hbl hbB hL hi hJ k)
    · exact z_tableIn C (off := 747) 779 dL_law_32 (by decide) (by decide) (by decide) (by decide) (lc_25 hl C hX hbl hbB hL hi hJ k)
    · exact z_tableIn C (off := 770) 802 dL_law_32 (by decide) (by decide) (by decide) (by decide) (lc_26 hl C hX hbl hbB hL hi hJ k)
    · exact z_tableIn C (off := 803) 835 dL_law_32 (by decide) (by decide) (by decide) (by decide) (lc_27 hl C hX hbl hbB hL hi hJ k)
    · exact z_tableIn C (off := 836) 868 dL_law_32 (by decide) (by decide) (by decide) (by decide) (lc_28 hl C hX hbl hbB hL hi hJ k)
    · exact z_tableIn C (off := 860) 892 dL_law_32 (by decide) (by decide) (by decide) (by decide) (lc_29 hl C hX hbl hbB hL hi hJ k)
    · exact z_tableIn C (off := 883) 915 dL_law_32 (by decide) (by decide) (by decide) (by decide) (lc_30 hl C hX hbl hbB hL hi hJ k)
    · exact z_tableIn C (off := 906) 938 dL_law_32 (by decide) (by decide) (by decide) (by decide) (lc_31 hl C hX hbl hbB hL hi hJ k)
    · exact z_tableIn C (off := 929) 961 dL_law_32 (by decide) (by decide) (by decide) (by decide) (lc_32 hl C hX hbl hbB hL hi hJ k)
    · exact z_tableIn C (off := 952) 984 dL_law_32 (by decide) (by decide) (by decide) (by decide) (lc_33 hl C hX hbl hbB hL hi hJ k)
  · refine z_tableOut C 998 dL_law_32 (Or.inr ?_) (by decide) (k s t hJ)
    rw [nI_toInt (by omega)]
    omega
set_option maxRecDepth 100000 in
set_option maxHeartbeats 4000000 in
theorem l_loop {l : Launch} {X : zX} {B : zB} (hl : X.2.1 = l) (C : zC X B mLaw) {b L : Nat} {xs : Nat → Int32} (hX : va_X b L xs (xS X) (xS X).heap) (hbl : b < (xS X).heap.size) (hbB : b < B.1) (hL : L ≤ 320) (fin : ∀ (s : zS) (t : zL) (i : Nat), lZ X B s t 1004 (lLv B b i) []) : ∀ (m i : Nat) (s : zS) (t : zL), L ≤ i + m → i ≤ 400 → jI s t → lZ X B s t 18 (lLv B b i) [] := by
  intro m
  have e1 : (nI L - 5).toInt = (L : Int) - 5 := pk_sub_toInt (a := L) (b := 5) (by omega) (by decide)
  induction m with
  | zero =>
    intro i s t h1 h2 hJ
    refine z_iload_n C dL_law_18 0 rfl rfl ?_
    refine z_aload_n C dL_law_19 3 rfl rfl ?_
    refine z_slen C hX hbl hbB dL_law_20 ?_
    refine z_iconst C dL_law_21 ki_5 ?_
    refine z_isub C dL_law_22 ?_
    refine z_icmp_gt C 1004 dL_law_23 (by decide) (fun _ => fin s t i) (fun hbr => absurd ?_ hbr)
    rw [Int32.lt_iff_toInt_lt, e1, nI_toInt (by omega)]
    omega
  | succ m ih =>
    intro i s t h1 h2 hJ
    refine z_iload_n C dL_law_18 0 rfl rfl ?_
    refine z_aload_n C dL_law_19 3 rfl rfl ?_
    refine z_slen C hX hbl hbB dL_law_20 ?_
    refine z_iconst C dL_law_21 ki_5 ?_
    refine z_isub C dL_law_22 ?_
    refine z_icmp_gt C 1004 dL_law_23 (by decide) (fun _ => fin s t i) (fun hbr => ?_)
    have hi : i + 5 ≤ L := by
      rw [Int32.lt_iff_toInt_lt, e1, nI_toInt (by omega)] at hbr
      omega
    refine l_step hl C hX hbl hbB hL hi hJ (fun s2 t2 hJ2 => ?_)
    refine z_iinc C (lLv B b (i + 5)) dL_law_998 0 rfl (nA (a := i) (b := 5) rfl (by decide) rfl) (by decide) rfl ?_
    refine z_goto C 18 dL_law_1001 (by decide) ?_
    exact ih (i + 5) s2 t2 (by omega) (by omega) hJ2
