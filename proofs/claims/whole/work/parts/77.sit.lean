section KG
variable {l : Launch} {B : zB} {s : zS} {t : zL}
theorem has_no {x : Int32} (h : r8 x) {i : Nat} (hi : i < 8) (g : x &&& wBit (nI i) = 0) : wHas x (nI i) = false := by
  cases hc : wHas x (nI i) with
  | false => rfl
  | true => exact absurd g ((has_bit h hi).mp hc)
theorem k_buy (hJ : jI s t) (x : Int32) : kI l B s t mX11_buy mX12_buy [.int x] := by
  obtain ⟨N, M, p, h⟩ := hJ.1
  rcases j_dep h x with ⟨d, hd, rfl, g⟩ | ⟨hx, g⟩
  · have h6 := j_6 h
    have hp := h.2.2.1.1
    have r3 : r8 (s 114 3) := by rw [← j_e3 h]; exact j_r3 h
    by_cases g3 : s 9 3 &&& wBit (nI d) = 0
    · have hc := c_X11_buy_ok l B s t N (j_N h) (j_6 h) d hd _ rfl (j_K h d hd) g3 p hp h.2.2.1.2.1
      have hD := h.2.2.2.2.1 d hd
      have ec : wCost (wRmb s p (11 + d) 0) (wRmb s p (11 + d) 3) = wCost (mK s d) (mP s d) := by
        rw [wRmb_row (k := 11 + d) hp (by omega) (by omega)]
        show wCost (s (8 + 3 + d) 0) (s (8 + 3 + d) 3) = _
        rw [hD.1.1, hD.1.2.2.2]
        rfl
      rw [ec] at hc
      generalize hcst : wCost (mK s d) (mP s d) = cst at hc
      generalize hS1 : zu (zu (wRmb s p) 9 3 (wRmb s p 9 3 ||| wBit (nI d))) 9 5 (zu (wRmb s p) 9 3 (wRmb s p 9 3 ||| wBit (nI d)) 9 5 + cst) = s1 at hc
      have e114 : s1 114 = s 114 := by rw [← hS1, zu_row _ _ (by decide), zu_row _ _ (by decide), wRmb_row hp (by decide) (by decide)]
      have hm := c_X12_buy_ok l B s1 t N (mOk_c e114 (j_mOk h)) p hp (by rw [e114]; exact h.2.2.1.2.2) d hd (by rw [e114]; exact g) (by rw [e114]; exact has_no r3 (by omega) (by rw [← j_e3 h]; exact g3))
      have ec2 : wCost (mK s1 d) (mP s1 d) = cst := by rw [← hcst, mK, mP, mK, mP, e114]
      rw [ec2, ← wBit_nI (show d < 2 ^ 31 by omega)] at hm
      have hk := hR_rmb h (s' := wHand s1 N) (by rw [wHand_114]; exact e114)
      generalize hK : wKeep (wHand s1 N) p = K at hm hk
      have hF1 : jF s s1 := by rw [← hS1]; exact ((jF.rmb hp).tr jF.zu9).tr jF.zu9
      have hF : jF s K := by rw [← hK]; exact (hF1.tr jQ.hand.1).tr jF.keep
      have hrow : ∀ k, 8 ≤ k → k < 33 → zu (zu K 114 3 (K 114 3 ||| wBit (nI d))) 114 5 (zu K 114 3 (K 114 3 ||| wBit (nI d)) 114 5 + cst) k = s1 k := fun k h1 h2 => by
        rw [zu_row _ _ (by omega), zu_row _ _ (by omega), ← hK, wKeep_row _ (by omega), wHand_row _ (by omega) (by omega) (by omega) (by omega)]
      refine kI_of hc hm rfl (J_now hJ ((hF.tr jF.zu114).tr jF.zu114) ⟨N, M, pNx p, ?_⟩)
      refine hR_sit hk (fun k h1 h2 h3 => by rw [hrow k h2 (by omega), ← hS1, zu_row _ _ (by omega), zu_row _ _ (by omega)]) (fun j hj => by rw [zu_ne _ _ (by omega), zu_ne _ _ (by omega)]) ?_
      rw [hrow (8 + 1) (by decide) (by decide), ← hS1]
      obtain ⟨h0, h1, h2, h3, h4, h5, r1, r2, r3, r4⟩ := hk.2.2.2.1
      have h3 : wRmb s p 9 3 = K 114 3 := h3
      have h5 : wRmb s p 9 5 = K 114 5 := h5
      refine ⟨?_, ?_, ?_, ?_, ?_, ?_, ?_, ?_, ?_, ?_⟩
      · rw [zu_ne _ _ (by omega), zu_ne _ _ (by omega), zu_ne _ _ (by omega), zu_ne _ _ (by omega)]; exact h0
      · rw [zu_ne _ _ (by omega), zu_ne _ _ (by omega), zu_ne _ _ (by omega), zu_ne _ _ (by omega)]; exact h1
      · rw [zu_ne _ _ (by omega), zu_ne _ _ (by omega), zu_ne _ _ (by omega), zu_ne _ _ (by omega)]; exact h2
      · rw [zu_ne _ _ (by omega), zu_ne (k2 := 114) _ _ (by omega)]
        show zu _ 9 3 _ 9 3 = zu _ 114 3 _ 114 3
        rw [zu_same, zu_same, h3]
      · rw [zu_ne _ _ (by omega), zu_ne _ _ (by omega), zu_ne _ _ (by omega), zu_ne _ _ (by omega)]; exact h4
      · show zu _ 9 5 _ 9 5 = zu _ 114 5 _ 114 5
        rw [zu_same, zu_same, zu_ne _ _ (by omega), zu_ne _ _ (by omega), h5]
      · rw [zu_ne _ _ (by omega), zu_ne _ _ (by omega)]; exact r1
      · rw [zu_ne _ _ (by omega), zu_ne _ _ (by omega)]; exact r2
      · rw [zu_ne _ _ (by omega)]
        show r8 (zu _ 9 3 _ 9 3)
        rw [zu_same]; exact r8_or r3 (wBit_r (by omega))
      · rw [zu_ne _ _ (by omega), zu_ne _ _ (by omega)]; exact r4
    · exact kI_no hJ (c_X11_buy_no l B s t N (j_N h) (j_6 h) d hd _ rfl g3) (c_X12_buy_no l B _ t _ g (show wHas (s 114 3) (nI d) = true from (has_bit r3 (by omega)).mpr (by rw [← j_e3 h]; exact g3)))
  · exact kI_bad hJ (c_X11_buy_bad l B s t x hx) (c_X12_buy_bad l B _ t x g)
theorem k_lock (hJ : jI s t) (x : Int32) : kI l B s t mX11_lock mX12_lock [.int x] := by
  obtain ⟨N, M, p, h⟩ := hJ.1
  rcases j_dep h x with ⟨d, hd, rfl, g⟩ | ⟨hx, g⟩
  · have h6 := j_6 h
    have hp := h.2.2.1.1
    by_cases g4 : s 9 4 = 0
    · have hc := c_X11_lock_ok l B s t N (j_N h) (j_6 h) d hd _ rfl g4 p hp h.2.2.1.2.1
      generalize hS1 : zu (wRmb s p) 9 4 (wBit (nI d)) = s1 at hc
      have e114 : s1 114 = s 114 := by rw [← hS1, zu_row _ _ (by decide), wRmb_row hp (by decide) (by decide)]
      have hm := c_X12_lock_ok l B s1 t p hp (by rw [e114]; exact h.2.2.1.2.2) (nI d) (by rw [e114]; exact g) (by rw [e114, ← j_e4 h]; exact g4)
      rw [← wBit_nI (show d < 2 ^ 31 by omega)] at hm
      have hk := hR_rmb h (s' := s1) e114
      generalize hK : wKeep s1 p = K at hm hk
      have hF1 : jF s s1 := by rw [← hS1]; exact (jF.rmb hp).tr jF.zu9
      have hF : jF s K := by rw [← hK]; exact hF1.tr jF.keep
      have hrow : ∀ k, 8 ≤ k → k < 33 → zu K 114 4 (wBit (nI d)) k = s1 k := fun k h1 h2 => by
        rw [zu_row _ _ (by omega), ← hK, wKeep_row _ (by omega)]
      refine kI_of hc hm rfl (J_now hJ (hF.tr jF.zu114) ⟨N, M, pNx p, ?_⟩)
      refine hR_sit hk (fun k h1 h2 h3 => by rw [hrow k h2 (by omega), ← hS1, zu_row _ _ (by omega)]) (fun j hj => by rw [zu_ne _ _ (by omega)]) ?_
      rw [hrow (8 + 1) (by decide) (by decide), ← hS1]
      obtain ⟨h0, h1, h2, h3, h4, h5, r1, r2, r3, r4⟩ := hk.2.2.2.1
      refine ⟨?_, ?_, ?_, ?_, ?_, ?_, ?_, ?_, ?_, ?_⟩
      · rw [zu_ne _ _ (by omega), zu_ne _ _ (by omega)]; exact h0
      · rw [zu_ne _ _ (by omega), zu_ne _ _ (by omega)]; exact h1
      · rw [zu_ne _ _ (by omega), zu_ne _ _ (by omega)]; exact h2
      · rw [zu_ne _ _ (by omega), zu_ne _ _ (by omega)]; exact h3
      · show zu _ 9 4 _ 9 4 = zu _ 114 4 _ 114 4
        rw [zu_same, zu_same]
      · rw [zu_ne _ _ (by omega), zu_ne _ _ (by omega)]; exact h5
      · rw [zu_ne _ _ (by omega)]; exact r1
      · rw [zu_ne _ _ (by omega)]; exact r2
      · rw [zu_ne _ _ (by omega)]; exact r3
      · show r8 (zu _ 9 4 _ 9 4)
        rw [zu_same]; exact wBit_r (by omega)
    · exact kI_no hJ (c_X11_lock_no l B s t N (j_N h) (j_6 h) d hd _ rfl g4) (c_X12_lock_no l B _ t _ g (show ¬ s 114 4 = 0 by rw [← j_e4 h]; exact g4))
  · exact kI_bad hJ (c_X11_lock_bad l B s t x hx) (c_X12_lock_bad l B _ t x g)
theorem k_undo (hJ : jI s t) : kI l B s t mX11_undo mX12_undo [] := by
  obtain ⟨N, M, p, h⟩ := hJ.1
  have hp := h.2.2.1.1
  cases p with
  | zero => exact kI_no hJ (c_X11_undo_no l B s t h.2.2.1.2.1) (c_X12_undo_no l B _ t (show s 114 8 = 0 from h.2.2.1.2.2))
  | succ n =>
    have e114 : wBack s n 114 = s 114 := by rw [wBack, zcp_row _ (by decide), zu_row _ _ (by decide)]
    have hP := h.2.2.2.2.2.2 n (by omega)
    have hc : ∀ j, j < 6 → wBack s n 9 j = s (8 + 17 + n) j := fun j hj => by
      rw [wBack, zcp_hit _ hj, zu_row _ _ (by omega)]
    have hu : ∀ j, 1 ≤ j → j ≤ 6 → wUn (zu (wBack s n) 114 8 (nI n)) n 6 114 j = s 114 (56 + 6 * n + j) := fun j h1 h2 => by
      simp only [wUn]
      rw [if_pos ⟨by trivial, by omega, by omega⟩, zu_ne _ _ (by omega), e114]
      congr 1
      omega
    have ho : ∀ j, j = 0 ∨ 7 ≤ j → wUn (zu (wBack s n) 114 8 (nI n)) n 6 114 j = zu (wBack s n) 114 8 (nI n) 114 j := fun j hj => by
      simp only [wUn]
      rw [if_neg (by omega)]
    have hrow : ∀ k, k ≠ 114 → wUn (zu (wBack s n) 114 8 (nI n)) n 6 k = wBack s n k := fun k hk => by
      funext j
      simp only [wUn]
      rw [if_neg (by omega), zu_row _ _ hk]
    have hS : sR (wBack s n 9) (wUn (zu (wBack s n) 114 8 (nI n)) n 6 114) 0 := sR_r (r := s (8 + 17 + n)) (sR_q hP (fun j h1 h2 => by rw [Nat.zero_add]; exact hu j h1 h2)) hc
    refine kI_of (c_X11_undo_ok l B s t n (by omega) h.2.2.1.2.1) (c_X12_undo_ok l B _ t n (by omega) (by rw [e114]; exact h.2.2.1.2.2)) hS.1 (J_now hJ (jF.of (fun k hk => by rw [hrow k (by omega), wBack, zcp_row _ (by omega), zu_row _ _ (by omega)])) ⟨N, M, n, ?_⟩)
    refine hR_up h (Nat.le_refl _) (Nat.le_succ _) ?_ ?_ ?_ ?_ ?_ ?_ ?_ ?_ ?_
    · rw [hrow 8 (by decide), wBack, zcp_row _ (by decide), zu_ne _ _ (by omega)]
    · rw [hrow 8 (by decide), wBack, zcp_row _ (by decide), zu_ne _ _ (by omega)]; exact j_M h
    · rw [hrow 8 (by decide), wBack, zcp_row _ (by decide), zu_same]
    · rw [ho 0 (by omega), zu_ne _ _ (by omega), e114]
    · rw [ho 7 (by omega), zu_ne _ _ (by omega), e114]; exact j_M2 h
    · rw [ho 8 (by omega), zu_same]
    · rw [hrow (8 + 1) (by decide)]; exact hS
    · intro k h1 h2
      rw [hrow k (by omega), wBack, zcp_row _ (by omega), zu_row _ _ (by omega)]
    · intro j h1 h2
      rw [ho j (by omega), zu_ne _ _ (by omega), e114]
end KG
