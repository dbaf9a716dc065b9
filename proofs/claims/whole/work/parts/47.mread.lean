def mNm (s : zS) (b : Nat → Int32) (n q k : Nat) (up : Int32) : Bool × zS × Nat := if tK b n q = 2 ∧ wIn (mV b n q) up = true then (true, zu s 123 k (mV b n q), tN b n q) else (false, s, q)
theorem mNm_le {s : zS} {b : Nat → Int32} {n q k : Nat} {up : Int32} (h : q ≤ n) : (mNm s b n q k up).2.2 ≤ n := by
  unfold mNm
  split
  · exact tN_le h
  · exact h
theorem mNm_row {s : zS} {b : Nat → Int32} {n q k : Nat} {up : Int32} {i : Nat} (h : i ≠ 123) : (mNm s b n q k up).2.1 i = s i := by
  unfold mNm
  split
  · exact zu_row _ _ h
  · rfl
theorem c_mNm (l : Launch) (B : zB) (s : zS) (t : zL) (b : Nat → Int32) (hb : s 121 = b) (n : Nat) (hn : s 113 12 = nI n) (h150 : n ≤ 150) (q : Nat) (hq : q ≤ n) (k : Nat) (hk : k < 3) (up : Int32) : zD l B mX12_takes (mT s b n q) t [.ref (B.1 + 113), .int (nI k), .int 0, .int up] (some (.int (zi (mNm s b n q k up).1))) (mT (mNm s b n q k up).2.1 b n (mNm s b n q k up).2.2) t := by
  unfold mNm
  split
  · next h => exact c_X12_takes_ok l B s t b hb n hn h150 q hq k hk up h.1 h.2
  · next h => exact c_X12_takes_no l B s t b hb n hn h150 q hq k hk up h
/-- the laws from q on: f tokens at most -/
def mLw (b : Nat → Int32) (n : Nat) : Nat → Nat → Int32 → zS → Bool × Int32 × zS × Nat
  | 0, q, a, s => (true, a, s, q)
  | f + 1, q, a, s => if tK b n q = 2 then (if wIn (mV b n q) 7 = true then mLw b n f (tN b n q) (a ||| ((1 : Int32) <<< (mV b n q &&& 31))) (zu s 123 2 (mV b n q)) else (false, a, s, q)) else (true, a, s, q)
abbrev mX12_takesLaws : zM := (yX12_takesLaws, cX12_takesLaws, 3, (some .boolean), { frames := 5, cells := 0, slots := 0, locals := 112 })
theorem mNm_t {s : zS} {b : Nat → Int32} {n q k : Nat} {up : Int32} (h : (mNm s b n q k up).1 = true) : (tK b n q = 2 ∧ wIn (mV b n q) up = true) ∧ mNm s b n q k up = (true, zu s 123 k (mV b n q), tN b n q) := by
  by_cases g : tK b n q = 2 ∧ wIn (mV b n q) up = true
  · exact ⟨g, by rw [mNm, if_pos g]⟩
  · rw [mNm, if_neg g] at h; exact Bool.noConfusion (show false = true from h)
theorem mNm_f {s : zS} {b : Nat → Int32} {n q k : Nat} {up : Int32} (h : (mNm s b n q k up).1 = false) : ¬ (tK b n q = 2 ∧ wIn (mV b n q) up = true) ∧ mNm s b n q k up = (false, s, q) := by
  by_cases g : tK b n q = 2 ∧ wIn (mV b n q) up = true
  · rw [mNm, if_pos g] at h; exact Bool.noConfusion (show true = false from h)
  · exact ⟨g, by rw [mNm, if_neg g]⟩
set_option maxRecDepth 100000 in
set_option maxHeartbeats 4000000 in
theorem l_X12_takesLaws {l : Launch} {B : zB} {t : zL} {X : zX} (hl : X.2.1 = l) (C : zC X B mX12_takesLaws) (b : Nat → Int32) (n : Nat) (h150 : n ≤ 150) (j : Nat) (hj : j < 57) (to : Int32) (hto : to = nI j) (r : Bool × Int32 × zS × Nat) (E : zE X B mX12_takesLaws 124 0 0 (zR B (some (.int (zi r.1))) (mT (if r.1 = true then zu r.2.2.1 122 j r.2.1 else r.2.2.1) b n r.2.2.2) t)) : ∀ (m : Nat) (q : Nat) (a : Int32) (s : zS), n - q ≤ m → q ≤ n → (s 121 = b ∧ s 113 12 = nI n) → mLw b n m q a s = r → Zf X B mX12_takesLaws (mT s b n q) t 2 [(2, .int a), (0, .ref (B.1 + 113)), (1, .int to)] [] := by
  intro m
  induction m with
  | zero =>
    intro q a s hm hq hs hr
    refine z_aload_n C dX12_takesLaws_2 1 rfl rfl ?_
    refine f_get12 C 15 (v := .int ((mT s b n q) 113 15)) (by decide) tw_759 rfl zk_113 zb_113 rfl dX12_takesLaws_3 ?_
    refine f_topi (y := tK b n q) (mT_15 _ _ _ _) ?_
    refine z_iconst C dX12_takesLaws_6 ki_2 ?_
    refine z_icmp_ne C 37 dX12_takesLaws_7 (by decide) (fun _ => ?_) (fun hbr => absurd hbr (by rw [tK, if_pos (by omega)]; decide))
    refine z_aload_n C dX12_takesLaws_37 1 rfl rfl ?_
    refine f_get12 C 17 (v := .ref (B.1 + 122)) (by decide) tw_761 rfl zk_113 zb_113 rfl dX12_takesLaws_38 ?_
    refine z_iload_n C dX12_takesLaws_41 2 rfl rfl ?_
    refine z_iload_n C dX12_takesLaws_42 0 rfl rfl ?_
    refine f_iastL C zk_122 zb_122 (ixN (n := 57) hto hj (by decide)).1 (j := j) (ixN (n := 57) hto hj (by decide)).2 dX12_takesLaws_43 ?_
    refine z_iconst C dX12_takesLaws_44 ki_1 ?_
    refine z_zret C E rfl dX12_takesLaws_45 rfl rfl (Nat.le_refl _) ⟨by rw [← hr, mLw]; rfl, congrArg (fun z => zg B z t) (by rw [← hr, mLw]; exact mT_zu _ _ _ _ _ (by decide))⟩
  | succ m ih =>
    intro q a s hm hq hs hr
    refine z_aload_n C dX12_takesLaws_2 1 rfl rfl ?_
    refine f_get12 C 15 (v := .int ((mT s b n q) 113 15)) (by decide) tw_759 rfl zk_113 zb_113 rfl dX12_takesLaws_3 ?_
    refine f_topi (y := tK b n q) (mT_15 _ _ _ _) ?_
    refine z_iconst C dX12_takesLaws_6 ki_2 ?_
    refine z_icmp_ne C 37 dX12_takesLaws_7 (by decide) (fun h7 => ?_) (fun h7 => ?_)
    · refine z_aload_n C dX12_takesLaws_37 1 rfl rfl ?_
      refine f_get12 C 17 (v := .ref (B.1 + 122)) (by decide) tw_761 rfl zk_113 zb_113 rfl dX12_takesLaws_38 ?_
      refine z_iload_n C dX12_takesLaws_41 2 rfl rfl ?_
      refine z_iload_n C dX12_takesLaws_42 0 rfl rfl ?_
      refine f_iastL C zk_122 zb_122 (ixN (n := 57) hto hj (by decide)).1 (j := j) (ixN (n := 57) hto hj (by decide)).2 dX12_takesLaws_43 ?_
      refine z_iconst C dX12_takesLaws_44 ki_1 ?_
      refine z_zret C E rfl dX12_takesLaws_45 rfl rfl (Nat.le_refl _) ⟨by rw [← hr, mLw, if_neg h7]; rfl, congrArg (fun z => zg B z t) (by rw [← hr, mLw, if_neg h7]; exact mT_zu _ _ _ _ _ (by decide))⟩
    · refine z_aload_n C dX12_takesLaws_10 1 rfl rfl ?_
      refine z_iconst C dX12_takesLaws_11 ki_2 ?_
      refine z_iconst C dX12_takesLaws_12 ki_0 ?_
      refine z_bipush C dX12_takesLaws_13 kb_7 ?_
      refine f_callVr C hl (As := [.int 2, .int 0, .int 7]) (rest := []) (c_mNm l B s t b hs.1 n hs.2 h150 q hq 2 (by decide) 7) zb_113 (zg_12 zk_113) rfl (zCB (nA := 3) C rfl rfl tw_1057 tw_13 tw_1054 (by decide +kernel) ⟨Nat.le_of_ble_eq_true rfl, Nat.le_of_ble_eq_true rfl⟩) tw_1056 tp_50 rfl rfl (Nat.le_of_ble_eq_true rfl) dX12_takesLaws_15 (Nat.zero_le _) ?_
      refine z_ifb_ne C 23 dX12_takesLaws_18 (by decide) (fun h18 => ?_) (fun h18 => ?_)
      · obtain ⟨gg, em⟩ := mNm_t h18
        refine z_G (G2 := zg B (mT (zu s 123 2 (mV b n q)) b n (tN b n q)) t) (by rw [em]) ?_
        refine z_iload_n C dX12_takesLaws_23 0 rfl rfl ?_
        refine z_iconst C dX12_takesLaws_24 ki_1 ?_
        refine z_aload_n C dX12_takesLaws_25 1 rfl rfl ?_
        refine f_get12 C 18 (v := .ref (B.1 + 123)) (by decide) tw_762 rfl zk_113 zb_113 rfl dX12_takesLaws_26 ?_
        refine z_iconst C dX12_takesLaws_29 ki_2 ?_
        refine f_ialdL C zk_123 zb_123 (by unfold vp_in; decide) (j := 2) (by decide) dX12_takesLaws_30 ?_
        refine f_topi (y := mV b n q) (by rw [mT_row _ _ _ _ (by decide)]; exact zu_same _ _ _ _) ?_
        refine z_ishl C dX12_takesLaws_31 ?_
        refine f_topi (y := (1 : Int32) <<< (mV b n q &&& 31)) rfl ?_
        refine z_ior C dX12_takesLaws_32 ?_
        refine z_istore_n C [(2, .int (a ||| ((1 : Int32) <<< (mV b n q &&& 31)))), (0, .ref (B.1 + 113)), (1, .int to)] dX12_takesLaws_33 rfl (by decide) rfl ?_
        refine z_goto C 2 dX12_takesLaws_34 (by decide) ?_
        exact z_lv [0, 1, 2] rfl (ih _ _ _ (by have : q < n := (Classical.byContradiction fun z => by rw [tK, if_pos (by omega)] at h7; exact absurd h7 (by decide)); have := tN_gt (b := b) this; omega) (tN_le hq) ⟨by rw [zu_row _ _ (by decide)]; exact hs.1, by rw [zu_row _ _ (by decide)]; exact hs.2⟩ (by rw [← hr, mLw, if_pos h7, if_pos gg.2]))
      · refine z_iconst C dX12_takesLaws_21 ki_0 ?_
        obtain ⟨gg, em⟩ := mNm_f h18
        have g2 : ¬ wIn (mV b n q) 7 = true := fun z => gg ⟨h7, z⟩
        refine z_zret C E rfl dX12_takesLaws_22 rfl rfl (Nat.le_refl _) ⟨by rw [← hr, mLw, if_pos h7, if_neg g2]; rfl, by rw [em, ← hr, mLw, if_pos h7, if_neg g2]; rfl⟩
set_option maxRecDepth 100000 in
set_option maxHeartbeats 4000000 in
theorem c_X12_takesLaws (l : Launch) (B : zB) (s : zS) (t : zL) (b : Nat → Int32) (hb : s 121 = b) (n : Nat) (hn : s 113 12 = nI n) (h150 : n ≤ 150) (q : Nat) (hq : q ≤ n) (j : Nat) (hj : j < 57) (to : Int32) (hto : to = nI j) : zD l B mX12_takesLaws (mT s b n q) t [.ref (B.1 + 113), .int to] (some (.int (zi (mLw b n (n - q) q 0 s).1))) (mT (if (mLw b n (n - q) q 0 s).1 = true then zu (mLw b n (n - q) q 0 s).2.2.1 122 j (mLw b n (n - q) q 0 s).2.1 else (mLw b n (n - q) q 0 s).2.2.1) b n (mLw b n (n - q) q 0 s).2.2.2) t := by
  refine z_met (by decide) (Nat.le_of_ble_eq_true rfl) ?_
  intro X hl C E hnm
  show Zf X B mX12_takesLaws (mT s b n q) t 0 [(0, .ref (B.1 + 113)), (1, .int to)] []
  refine z_iconst C dX12_takesLaws_0 ki_0 ?_
  refine z_istore_n C [(2, .int 0), (0, .ref (B.1 + 113)), (1, .int to)] dX12_takesLaws_1 rfl (by decide) rfl ?_
  exact z_lv [0, 1, 2] rfl (l_X12_takesLaws hl C b n h150 j hj to hto _ E (n - q) q 0 s (Nat.le_refl _) hq ⟨hb, hn⟩ rfl)
