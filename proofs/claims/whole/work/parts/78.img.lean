section KH
variable {l : Launch} {B : zB} {s : zS} {t : zL}
theorem hR_cp {s2 : zS} {h h2 : Nat} {q q2 : Nat → Int32} {N M p : Nat} (hr : hR s h q N M p) (c0 : s2 h2 4 = s h 4 ∧ s2 h2 5 = s h 5 ∧ s2 h2 6 = s h 6) (c1 : ∀ j, j < 6 → s2 (h2 + 1) j = s (h + 1) j) (c2 : ∀ d, d < 6 → ∀ j, j < 4 → s2 (h2 + 3 + d) j = s (h + 3 + d) j) (c3 : ∀ d, d < 6 → ∀ j, j < 4 → s2 (h2 + 10 + d) j = s (h + 10 + d) j) (c4 : ∀ d, d < 8 → ∀ j, j < 6 → s2 (h2 + 17 + d) j = s (h + 17 + d) j) (hq : ∀ j, j < 57 + 6 * p → q2 j = q j) : hR s2 h2 q2 N M p := by
  obtain ⟨hA, hB, hC, hS, hD, hNt, hP⟩ := hr
  have a1 := hA.1
  have a2 := hB.1
  have a3 := hC.1
  refine ⟨⟨a1, c0.1.trans hA.2.1, by rw [hq 0 (by omega)]; exact hA.2.2⟩, ⟨a2, c0.2.1.trans hB.2.1, by rw [hq 7 (by omega)]; exact hB.2.2⟩, ⟨a3, c0.2.2.trans hC.2.1, by rw [hq 8 (by omega)]; exact hC.2.2⟩, ?_, fun i hi => ?_, fun i hi => ?_, fun i hi => ?_⟩
  · exact sR_r (sR_q hS (fun j h1 h2 => hq _ (by omega))) c1
  · have e := dR_q (q2 := q2) (hD i hi) (fun j hj => hq _ (by omega))
    unfold dR
    rw [c2 i (by omega) 0 (by decide), c2 i (by omega) 1 (by decide), c2 i (by omega) 2 (by decide), c2 i (by omega) 3 (by decide)]
    exact e
  · have e := nR_q (q2 := q2) (hNt i hi) (fun j hj => hq _ (by omega))
    unfold nR
    rw [c3 i (by omega) 0 (by decide), c3 i (by omega) 1 (by decide), c3 i (by omega) 2 (by decide), c3 i (by omega) 3 (by decide)]
    exact e
  · exact sR_r (sR_q (hP i hi) (fun j h1 h2 => hq _ (by omega))) (c4 i (by omega))
set_option maxRecDepth 100000 in
theorem cp59_8_row {k : Nat} (h : k < 59 ∨ 84 ≤ k) : wCopy59_8 s k = s k := by
  rw [wCopy59_8, zu_row _ _ (by omega), zu_row _ _ (by omega), zu_row _ _ (by omega), zcp_row _ (by omega), zcp_row _ (by omega), zcp_row _ (by omega), zcp_row _ (by omega), zcp_row _ (by omega), zcp_row _ (by omega), zcp_row _ (by omega), zcp_row _ (by omega), zcp_row _ (by omega), zcp_row _ (by omega), zcp_row _ (by omega), zcp_row _ (by omega), zcp_row _ (by omega), zcp_row _ (by omega), zcp_row _ (by omega), zcp_row _ (by omega), zcp_row _ (by omega), zcp_row _ (by omega), zcp_row _ (by omega), zcp_row _ (by omega), zcp_row _ (by omega)]
theorem cp59_8_0 : wCopy59_8 s 59 4 = s 8 4 ∧ wCopy59_8 s 59 5 = s 8 5 ∧ wCopy59_8 s 59 6 = s 8 6 := ⟨rfl, rfl, rfl⟩
theorem cp59_8_1 : ∀ j, j < 6 → wCopy59_8 s (59 + 1) j = s (8 + 1) j := by
  intro j hj
  rcases (show j = 0 ∨ j = 1 ∨ j = 2 ∨ j = 3 ∨ j = 4 ∨ j = 5 by omega) with rfl | rfl | rfl | rfl | rfl | rfl <;> rfl
theorem cp59_8_2 : ∀ d, d < 6 → ∀ j, j < 4 → wCopy59_8 s (59 + 3 + d) j = s (8 + 3 + d) j := by
  intro d hd j hj
  rcases (show d = 0 ∨ d = 1 ∨ d = 2 ∨ d = 3 ∨ d = 4 ∨ d = 5 by omega) with rfl | rfl | rfl | rfl | rfl | rfl <;> rcases (show j = 0 ∨ j = 1 ∨ j = 2 ∨ j = 3 by omega) with rfl | rfl | rfl | rfl <;> rfl
theorem cp59_8_3 : ∀ d, d < 6 → ∀ j, j < 4 → wCopy59_8 s (59 + 10 + d) j = s (8 + 10 + d) j := by
  intro d hd j hj
  rcases (show d = 0 ∨ d = 1 ∨ d = 2 ∨ d = 3 ∨ d = 4 ∨ d = 5 by omega) with rfl | rfl | rfl | rfl | rfl | rfl <;> rcases (show j = 0 ∨ j = 1 ∨ j = 2 ∨ j = 3 by omega) with rfl | rfl | rfl | rfl <;> rfl
theorem cp59_8_4 : ∀ d, d < 8 → ∀ j, j < 6 → wCopy59_8 s (59 + 17 + d) j = s (8 + 17 + d) j := by
  intro d hd j hj
  rcases (show d = 0 ∨ d = 1 ∨ d = 2 ∨ d = 3 ∨ d = 4 ∨ d = 5 ∨ d = 6 ∨ d = 7 by omega) with rfl | rfl | rfl | rfl | rfl | rfl | rfl | rfl <;> rcases (show j = 0 ∨ j = 1 ∨ j = 2 ∨ j = 3 ∨ j = 4 ∨ j = 5 by omega) with rfl | rfl | rfl | rfl | rfl | rfl <;> rfl
set_option maxRecDepth 100000 in
theorem cp84_8_row {k : Nat} (h : k < 84 ∨ 109 ≤ k) : wCopy84_8 s k = s k := by
  rw [wCopy84_8, zu_row _ _ (by omega), zu_row _ _ (by omega), zu_row _ _ (by omega), zcp_row _ (by omega), zcp_row _ (by omega), zcp_row _ (by omega), zcp_row _ (by omega), zcp_row _ (by omega), zcp_row _ (by omega), zcp_row _ (by omega), zcp_row _ (by omega), zcp_row _ (by omega), zcp_row _ (by omega), zcp_row _ (by omega), zcp_row _ (by omega), zcp_row _ (by omega), zcp_row _ (by omega), zcp_row _ (by omega), zcp_row _ (by omega), zcp_row _ (by omega), zcp_row _ (by omega), zcp_row _ (by omega), zcp_row _ (by omega), zcp_row _ (by omega)]
theorem cp84_8_0 : wCopy84_8 s 84 4 = s 8 4 ∧ wCopy84_8 s 84 5 = s 8 5 ∧ wCopy84_8 s 84 6 = s 8 6 := ⟨rfl, rfl, rfl⟩
theorem cp84_8_1 : ∀ j, j < 6 → wCopy84_8 s (84 + 1) j = s (8 + 1) j := by
  intro j hj
  rcases (show j = 0 ∨ j = 1 ∨ j = 2 ∨ j = 3 ∨ j = 4 ∨ j = 5 by omega) with rfl | rfl | rfl | rfl | rfl | rfl <;> rfl
theorem cp84_8_2 : ∀ d, d < 6 → ∀ j, j < 4 → wCopy84_8 s (84 + 3 + d) j = s (8 + 3 + d) j := by
  intro d hd j hj
  rcases (show d = 0 ∨ d = 1 ∨ d = 2 ∨ d = 3 ∨ d = 4 ∨ d = 5 by omega) with rfl | rfl | rfl | rfl | rfl | rfl <;> rcases (show j = 0 ∨ j = 1 ∨ j = 2 ∨ j = 3 by omega) with rfl | rfl | rfl | rfl <;> rfl
theorem cp84_8_3 : ∀ d, d < 6 → ∀ j, j < 4 → wCopy84_8 s (84 + 10 + d) j = s (8 + 10 + d) j := by
  intro d hd j hj
  rcases (show d = 0 ∨ d = 1 ∨ d = 2 ∨ d = 3 ∨ d = 4 ∨ d = 5 by omega) with rfl | rfl | rfl | rfl | rfl | rfl <;> rcases (show j = 0 ∨ j = 1 ∨ j = 2 ∨ j = 3 by omega) with rfl | rfl | rfl | rfl <;> rfl
theorem cp84_8_4 : ∀ d, d < 8 → ∀ j, j < 6 → wCopy84_8 s (84 + 17 + d) j = s (8 + 17 + d) j := by
  intro d hd j hj
  rcases (show d = 0 ∨ d = 1 ∨ d = 2 ∨ d = 3 ∨ d = 4 ∨ d = 5 ∨ d = 6 ∨ d = 7 by omega) with rfl | rfl | rfl | rfl | rfl | rfl | rfl | rfl <;> rcases (show j = 0 ∨ j = 1 ∨ j = 2 ∨ j = 3 ∨ j = 4 ∨ j = 5 by omega) with rfl | rfl | rfl | rfl | rfl | rfl <;> rfl
set_option maxRecDepth 100000 in
theorem cp8_59_row {k : Nat} (h : k < 8 ∨ 33 ≤ k) : wCopy8_59 s k = s k := by
  rw [wCopy8_59, zu_row _ _ (by omega), zu_row _ _ (by omega), zu_row _ _ (by omega), zcp_row _ (by omega), zcp_row _ (by omega), zcp_row _ (by omega), zcp_row _ (by omega), zcp_row _ (by omega), zcp_row _ (by omega), zcp_row _ (by omega), zcp_row _ (by omega), zcp_row _ (by omega), zcp_row _ (by omega), zcp_row _ (by omega), zcp_row _ (by omega), zcp_row _ (by omega), zcp_row _ (by omega), zcp_row _ (by omega), zcp_row _ (by omega), zcp_row _ (by omega), zcp_row _ (by omega), zcp_row _ (by omega), zcp_row _ (by omega), zcp_row _ (by omega)]
theorem cp8_59_0 : wCopy8_59 s 8 4 = s 59 4 ∧ wCopy8_59 s 8 5 = s 59 5 ∧ wCopy8_59 s 8 6 = s 59 6 := ⟨rfl, rfl, rfl⟩
theorem cp8_59_1 : ∀ j, j < 6 → wCopy8_59 s (8 + 1) j = s (59 + 1) j := by
  intro j hj
  rcases (show j = 0 ∨ j = 1 ∨ j = 2 ∨ j = 3 ∨ j = 4 ∨ j = 5 by omega) with rfl | rfl | rfl | rfl | rfl | rfl <;> rfl
theorem cp8_59_2 : ∀ d, d < 6 → ∀ j, j < 4 → wCopy8_59 s (8 + 3 + d) j = s (59 + 3 + d) j := by
  intro d hd j hj
  rcases (show d = 0 ∨ d = 1 ∨ d = 2 ∨ d = 3 ∨ d = 4 ∨ d = 5 by omega) with rfl | rfl | rfl | rfl | rfl | rfl <;> rcases (show j = 0 ∨ j = 1 ∨ j = 2 ∨ j = 3 by omega) with rfl | rfl | rfl | rfl <;> rfl
theorem cp8_59_3 : ∀ d, d < 6 → ∀ j, j < 4 → wCopy8_59 s (8 + 10 + d) j = s (59 + 10 + d) j := by
  intro d hd j hj
  rcases (show d = 0 ∨ d = 1 ∨ d = 2 ∨ d = 3 ∨ d = 4 ∨ d = 5 by omega) with rfl | rfl | rfl | rfl | rfl | rfl <;> rcases (show j = 0 ∨ j = 1 ∨ j = 2 ∨ j = 3 by omega) with rfl | rfl | rfl | rfl <;> rfl
theorem cp8_59_4 : ∀ d, d < 8 → ∀ j, j < 6 → wCopy8_59 s (8 + 17 + d) j = s (59 + 17 + d) j := by
  intro d hd j hj
  rcases (show d = 0 ∨ d = 1 ∨ d = 2 ∨ d = 3 ∨ d = 4 ∨ d = 5 ∨ d = 6 ∨ d = 7 by omega) with rfl | rfl | rfl | rfl | rfl | rfl | rfl | rfl <;> rcases (show j = 0 ∨ j = 1 ∨ j = 2 ∨ j = 3 ∨ j = 4 ∨ j = 5 by omega) with rfl | rfl | rfl | rfl | rfl | rfl <;> rfl
set_option maxRecDepth 100000 in
theorem cp8_84_row {k : Nat} (h : k < 8 ∨ 33 ≤ k) : wCopy8_84 s k = s k := by
  rw [wCopy8_84, zu_row _ _ (by omega), zu_row _ _ (by omega), zu_row _ _ (by omega), zcp_row _ (by omega), zcp_row _ (by omega), zcp_row _ (by omega), zcp_row _ (by omega), zcp_row _ (by omega), zcp_row _ (by omega), zcp_row _ (by omega), zcp_row _ (by omega), zcp_row _ (by omega), zcp_row _ (by omega), zcp_row _ (by omega), zcp_row _ (by omega), zcp_row _ (by omega), zcp_row _ (by omega), zcp_row _ (by omega), zcp_row _ (by omega), zcp_row _ (by omega), zcp_row _ (by omega), zcp_row _ (by omega), zcp_row _ (by omega), zcp_row _ (by omega)]
theorem cp8_84_0 : wCopy8_84 s 8 4 = s 84 4 ∧ wCopy8_84 s 8 5 = s 84 5 ∧ wCopy8_84 s 8 6 = s 84 6 := ⟨rfl, rfl, rfl⟩
theorem cp8_84_1 : ∀ j, j < 6 → wCopy8_84 s (8 + 1) j = s (84 + 1) j := by
  intro j hj
  rcases (show j = 0 ∨ j = 1 ∨ j = 2 ∨ j = 3 ∨ j = 4 ∨ j = 5 by omega) with rfl | rfl | rfl | rfl | rfl | rfl <;> rfl
theorem cp8_84_2 : ∀ d, d < 6 → ∀ j, j < 4 → wCopy8_84 s (8 + 3 + d) j = s (84 + 3 + d) j := by
  intro d hd j hj
  rcases (show d = 0 ∨ d = 1 ∨ d = 2 ∨ d = 3 ∨ d = 4 ∨ d = 5 by omega) with rfl | rfl | rfl | rfl | rfl | rfl <;> rcases (show j = 0 ∨ j = 1 ∨ j = 2 ∨ j = 3 by omega) with rfl | rfl | rfl | rfl <;> rfl
theorem cp8_84_3 : ∀ d, d < 6 → ∀ j, j < 4 → wCopy8_84 s (8 + 10 + d) j = s (84 + 10 + d) j := by
  intro d hd j hj
  rcases (show d = 0 ∨ d = 1 ∨ d = 2 ∨ d = 3 ∨ d = 4 ∨ d = 5 by omega) with rfl | rfl | rfl | rfl | rfl | rfl <;> rcases (show j = 0 ∨ j = 1 ∨ j = 2 ∨ j = 3 by omega) with rfl | rfl | rfl | rfl <;> rfl
theorem cp8_84_4 : ∀ d, d < 8 → ∀ j, j < 6 → wCopy8_84 s (8 + 17 + d) j = s (84 + 17 + d) j := by
  intro d hd j hj
  rcases (show d = 0 ∨ d = 1 ∨ d = 2 ∨ d = 3 ∨ d = 4 ∨ d = 5 ∨ d = 6 ∨ d = 7 by omega) with rfl | rfl | rfl | rfl | rfl | rfl | rfl | rfl <;> rcases (show j = 0 ∨ j = 1 ∨ j = 2 ∨ j = 3 ∨ j = 4 ∨ j = 5 by omega) with rfl | rfl | rfl | rfl | rfl | rfl <;> rfl
set_option maxRecDepth 100000 in
theorem cp8_33_row {k : Nat} (h : k < 8 ∨ 33 ≤ k) : wCopy8_33 s k = s k := by
  rw [wCopy8_33, zu_row _ _ (by omega), zu_row _ _ (by omega), zu_row _ _ (by omega), zcp_row _ (by omega), zcp_row _ (by omega), zcp_row _ (by omega), zcp_row _ (by omega), zcp_row _ (by omega), zcp_row _ (by omega), zcp_row _ (by omega), zcp_row _ (by omega), zcp_row _ (by omega), zcp_row _ (by omega), zcp_row _ (by omega), zcp_row _ (by omega), zcp_row _ (by omega), zcp_row _ (by omega), zcp_row _ (by omega), zcp_row _ (by omega), zcp_row _ (by omega), zcp_row _ (by omega), zcp_row _ (by omega), zcp_row _ (by omega), zcp_row _ (by omega)]
theorem cp8_33_0 : wCopy8_33 s 8 4 = s 33 4 ∧ wCopy8_33 s 8 5 = s 33 5 ∧ wCopy8_33 s 8 6 = s 33 6 := ⟨rfl, rfl, rfl⟩
theorem cp8_33_1 : ∀ j, j < 6 → wCopy8_33 s (8 + 1) j = s (33 + 1) j := by
  intro j hj
  rcases (show j = 0 ∨ j = 1 ∨ j = 2 ∨ j = 3 ∨ j = 4 ∨ j = 5 by omega) with rfl | rfl | rfl | rfl | rfl | rfl <;> rfl
theorem cp8_33_2 : ∀ d, d < 6 → ∀ j, j < 4 → wCopy8_33 s (8 + 3 + d) j = s (33 + 3 + d) j := by
  intro d hd j hj
  rcases (show d = 0 ∨ d = 1 ∨ d = 2 ∨ d = 3 ∨ d = 4 ∨ d = 5 by omega) with rfl | rfl | rfl | rfl | rfl | rfl <;> rcases (show j = 0 ∨ j = 1 ∨ j = 2 ∨ j = 3 by omega) with rfl | rfl | rfl | rfl <;> rfl
theorem cp8_33_3 : ∀ d, d < 6 → ∀ j, j < 4 → wCopy8_33 s (8 + 10 + d) j = s (33 + 10 + d) j := by
  intro d hd j hj
  rcases (show d = 0 ∨ d = 1 ∨ d = 2 ∨ d = 3 ∨ d = 4 ∨ d = 5 by omega) with rfl | rfl | rfl | rfl | rfl | rfl <;> rcases (show j = 0 ∨ j = 1 ∨ j = 2 ∨ j = 3 by omega) with rfl | rfl | rfl | rfl <;> rfl
theorem cp8_33_4 : ∀ d, d < 8 → ∀ j, j < 6 → wCopy8_33 s (8 + 17 + d) j = s (33 + 17 + d) j := by
  intro d hd j hj
  rcases (show d = 0 ∨ d = 1 ∨ d = 2 ∨ d = 3 ∨ d = 4 ∨ d = 5 ∨ d = 6 ∨ d = 7 by omega) with rfl | rfl | rfl | rfl | rfl | rfl | rfl | rfl <;> rcases (show j = 0 ∨ j = 1 ∨ j = 2 ∨ j = 3 ∨ j = 4 ∨ j = 5 by omega) with rfl | rfl | rfl | rfl | rfl | rfl <;> rfl
theorem k_image0 (hJ : jI s t) : kI l B s t mX11_image mX12_image [.int 0] := by
  have hrow : ∀ k, k ≠ 115 → k ≠ 116 → k ≠ 109 → (k < 59 ∨ 84 ≤ k) → (zu (wMv (zu (wCopy59_8 s) 109 0 1) 115 0 114 0 105) 116 0 1) k = s k := fun k h1 h2 h3 h4 => by
    rw [zu_row _ _ h2]
    have e : wMv (zu (wCopy59_8 s) 109 0 1) 115 0 114 0 105 k = (zu (wCopy59_8 s) 109 0 1) k := by
      funext j
      simp only [wMv]
      rw [if_neg (fun z => h1 z.1)]
    rw [e, zu_row _ _ h3, cp59_8_row h4]
  have hc : ∀ k, k ≠ 115 → k ≠ 116 → k ≠ 109 → (zu (wMv (zu (wCopy59_8 s) 109 0 1) 115 0 114 0 105) 116 0 1) k = wCopy59_8 s k := fun k h1 h2 h3 => by
    rw [zu_row _ _ h2]
    have e : wMv (zu (wCopy59_8 s) 109 0 1) 115 0 114 0 105 k = (zu (wCopy59_8 s) 109 0 1) k := by
      funext j
      simp only [wMv]
      rw [if_neg (fun z => h1 z.1)]
    rw [e, zu_row _ _ h3]
  have hq : ∀ j, j < 105 → (zu (wMv (zu (wCopy59_8 s) 109 0 1) 115 0 114 0 105) 116 0 1) 115 (0 + j) = s 114 j := fun j hj => by
    rw [zu_row _ _ (by decide)]
    simp only [wMv]
    rw [if_pos ⟨by trivial, by omega, by omega⟩, zu_row _ _ (by decide), cp59_8_row (by omega)]
    congr 1
    omega
  have hq2 : ∀ j, j < 105 → (zu (wMv (zu (wCopy59_8 s) 109 0 1) 115 0 114 0 105) 116 0 1) 115 (105 + j) = s 115 (105 + j) := fun j hj => by
    rw [zu_row _ _ (by decide)]
    simp only [wMv]
    rw [if_neg (by omega), zu_row _ _ (by decide), cp59_8_row (by omega)]
  have h109 : (zu (wMv (zu (wCopy59_8 s) 109 0 1) 115 0 114 0 105) 116 0 1) 109 = zu s 109 0 1 109 := by
    rw [zu_row _ _ (by decide)]
    have e : wMv (zu (wCopy59_8 s) 109 0 1) 115 0 114 0 105 109 = (zu (wCopy59_8 s) 109 0 1) 109 := by
      funext j
      simp only [wMv]
      rw [if_neg (by omega)]
    rw [e, zu_upd, zu_upd, cp59_8_row (by omega)]
  have h116 : (zu (wMv (zu (wCopy59_8 s) 109 0 1) 115 0 114 0 105) 116 0 1) 116 = zu s 116 0 1 116 := by
    rw [zu_upd, zu_upd]
    have e : wMv (zu (wCopy59_8 s) 109 0 1) 115 0 114 0 105 116 = s 116 := by
      funext j
      simp only [wMv]
      rw [if_neg (by omega), zu_row _ _ (by decide), cp59_8_row (by omega)]
    rw [e]
  have hm := c_X12_image_0 l B (zu (wCopy59_8 s) 109 0 1) t
  refine kI_of (c_X11_image_0 l B s t) hm rfl ?_
  generalize hS2 : (zu (wMv (zu (wCopy59_8 s) 109 0 1) 115 0 114 0 105) 116 0 1) = s2 at *
  obtain ⟨h0, hcn, ⟨n, n1, n2, n3, n4⟩, ⟨i0, i1, i2, i3⟩, ht⟩ := hJ
  refine ⟨?_, ?_, ⟨n, n1, ?_, ?_, ?_⟩, ⟨?_, ?_, ?_, ?_⟩, ht⟩
  · rw [hrow 114 (by decide) (by decide) (by decide) (by omega)]
    exact hE_same (fun k a b => hrow k (by omega) (by omega) (by omega) (by omega)) h0
  · rw [hrow 0 (by decide) (by decide) (by decide) (by omega), hrow 117 (by decide) (by decide) (by decide) (by omega)]; exact hcn
  · rw [hrow 111 (by decide) (by decide) (by decide) (by omega)]; exact n2
  · rw [hrow 113 (by decide) (by decide) (by decide) (by omega)]; exact n3
  · rw [hrow 112 (by decide) (by decide) (by decide) (by omega), hrow 121 (by decide) (by decide) (by decide) (by omega)]; exact n4
  · rw [h109, h116]
    rw [zu_same, zu_same]
  · rw [h109, h116]
    rw [zu_ne _ _ (by omega), zu_ne _ _ (by omega)]; exact i1
  · intro _
    obtain ⟨N, M, p, h⟩ := h0
    have hp := h.2.2.1.1
    refine ⟨N, M, p, hR_cp h ?_ ?_ ?_ ?_ ?_ (fun j hj => ?_)⟩
    · rw [hc 59 (by decide) (by decide) (by decide)]; exact cp59_8_0
    · intro j hj; rw [hc (59 + 1) (by decide) (by decide) (by decide)]; exact cp59_8_1 j hj
    · intro d hd j hj; rw [hc (59 + 3 + d) (by omega) (by omega) (by omega)]; exact cp59_8_2 d hd j hj
    · intro d hd j hj; rw [hc (59 + 10 + d) (by omega) (by omega) (by omega)]; exact cp59_8_3 d hd j hj
    · intro d hd j hj; rw [hc (59 + 17 + d) (by omega) (by omega) (by omega)]; exact cp59_8_4 d hd j hj
    · have e := hq j (by omega); rw [Nat.zero_add] at e; exact e
  · intro z
    rw [h109, zu_ne _ _ (by omega)] at z
    obtain ⟨N, M, p, h⟩ := i3 z
    have hp := h.2.2.1.1
    have hr : ∀ k, 84 ≤ k → k < 109 → s2 k = s k := fun k a b => hrow k (by omega) (by omega) (by omega) (by omega)
    refine ⟨N, M, p, hR_cp h ?_ ?_ ?_ ?_ ?_ (fun j hj => ?_)⟩
    · rw [hr 84 (by decide) (by decide)]; exact ⟨rfl, rfl, rfl⟩
    · intro j hj; rw [hr (84 + 1) (by decide) (by decide)]
    · intro d hd j hj; rw [hr (84 + 3 + d) (by omega) (by omega)]
    · intro d hd j hj; rw [hr (84 + 10 + d) (by omega) (by omega)]
    · intro d hd j hj; rw [hr (84 + 17 + d) (by omega) (by omega)]
    · exact hq2 j (by omega)
theorem k_image1 (hJ : jI s t) : kI l B s t mX11_image mX12_image [.int 1] := by
  have hrow : ∀ k, k ≠ 115 → k ≠ 116 → k ≠ 109 → (k < 84 ∨ 109 ≤ k) → (zu (wMv (zu (wCopy84_8 s) 109 1 1) 115 105 114 0 105) 116 1 1) k = s k := fun k h1 h2 h3 h4 => by
    rw [zu_row _ _ h2]
    have e : wMv (zu (wCopy84_8 s) 109 1 1) 115 105 114 0 105 k = (zu (wCopy84_8 s) 109 1 1) k := by
      funext j
      simp only [wMv]
      rw [if_neg (fun z => h1 z.1)]
    rw [e, zu_row _ _ h3, cp84_8_row h4]
  have hc : ∀ k, k ≠ 115 → k ≠ 116 → k ≠ 109 → (zu (wMv (zu (wCopy84_8 s) 109 1 1) 115 105 114 0 105) 116 1 1) k = wCopy84_8 s k := fun k h1 h2 h3 => by
    rw [zu_row _ _ h2]
    have e : wMv (zu (wCopy84_8 s) 109 1 1) 115 105 114 0 105 k = (zu (wCopy84_8 s) 109 1 1) k := by
      funext j
      simp only [wMv]
      rw [if_neg (fun z => h1 z.1)]
    rw [e, zu_row _ _ h3]
  have hq : ∀ j, j < 105 → (zu (wMv (zu (wCopy84_8 s) 109 1 1) 115 105 114 0 105) 116 1 1) 115 (105 + j) = s 114 j := fun j hj => by
    rw [zu_row _ _ (by decide)]
    simp only [wMv]
    rw [if_pos ⟨by trivial, by omega, by omega⟩, zu_row _ _ (by decide), cp84_8_row (by omega)]
    congr 1
    omega
  have hq2 : ∀ j, j < 105 → (zu (wMv (zu (wCopy84_8 s) 109 1 1) 115 105 114 0 105) 116 1 1) 115 (0 + j) = s 115 (0 + j) := fun j hj => by
    rw [zu_row _ _ (by decide)]
    simp only [wMv]
    rw [if_neg (by omega), zu_row _ _ (by decide), cp84_8_row (by omega)]
  have h109 : (zu (wMv (zu (wCopy84_8 s) 109 1 1) 115 105 114 0 105) 116 1 1) 109 = zu s 109 1 1 109 := by
    rw [zu_row _ _ (by decide)]
    have e : wMv (zu (wCopy84_8 s) 109 1 1) 115 105 114 0 105 109 = (zu (wCopy84_8 s) 109 1 1) 109 := by
      funext j
      simp only [wMv]
      rw [if_neg (by omega)]
    rw [e, zu_upd, zu_upd, cp84_8_row (by omega)]
  have h116 : (zu (wMv (zu (wCopy84_8 s) 109 1 1) 115 105 114 0 105) 116 1 1) 116 = zu s 116 1 1 116 := by
    rw [zu_upd, zu_upd]
    have e : wMv (zu (wCopy84_8 s) 109 1 1) 115 105 114 0 105 116 = s 116 := by
      funext j
      simp only [wMv]
      rw [if_neg (by omega), zu_row _ _ (by decide), cp84_8_row (by omega)]
    rw [e]
  have hm := c_X12_image_1 l B (zu (wCopy84_8 s) 109 1 1) t
  refine kI_of (c_X11_image_1 l B s t) hm rfl ?_
  generalize hS2 : (zu (wMv (zu (wCopy84_8 s) 109 1 1) 115 105 114 0 105) 116 1 1) = s2 at *
  obtain ⟨h0, hcn, ⟨n, n1, n2, n3, n4⟩, ⟨i0, i1, i2, i3⟩, ht⟩ := hJ
  refine ⟨?_, ?_, ⟨n, n1, ?_, ?_, ?_⟩, ⟨?_, ?_, ?_, ?_⟩, ht⟩
  · rw [hrow 114 (by decide) (by decide) (by decide) (by omega)]
    exact hE_same (fun k a b => hrow k (by omega) (by omega) (by omega) (by omega)) h0
  · rw [hrow 0 (by decide) (by decide) (by decide) (by omega), hrow 117 (by decide) (by decide) (by decide) (by omega)]; exact hcn
  · rw [hrow 111 (by decide) (by decide) (by decide) (by omega)]; exact n2
  · rw [hrow 113 (by decide) (by decide) (by decide) (by omega)]; exact n3
  · rw [hrow 112 (by decide) (by decide) (by decide) (by omega), hrow 121 (by decide) (by decide) (by decide) (by omega)]; exact n4
  · rw [h109, h116]
    rw [zu_ne _ _ (by omega), zu_ne _ _ (by omega)]; exact i0
  · rw [h109, h116]
    rw [zu_same, zu_same]
  · intro z
    rw [h109, zu_ne _ _ (by omega)] at z
    obtain ⟨N, M, p, h⟩ := i2 z
    have hp := h.2.2.1.1
    have hr : ∀ k, 59 ≤ k → k < 84 → s2 k = s k := fun k a b => hrow k (by omega) (by omega) (by omega) (by omega)
    refine ⟨N, M, p, hR_cp h ?_ ?_ ?_ ?_ ?_ (fun j hj => ?_)⟩
    · rw [hr 59 (by decide) (by decide)]; exact ⟨rfl, rfl, rfl⟩
    · intro j hj; rw [hr (59 + 1) (by decide) (by decide)]
    · intro d hd j hj; rw [hr (59 + 3 + d) (by omega) (by omega)]
    · intro d hd j hj; rw [hr (59 + 10 + d) (by omega) (by omega)]
    · intro d hd j hj; rw [hr (59 + 17 + d) (by omega) (by omega)]
    · have e := hq2 j (by omega); rw [Nat.zero_add] at e; exact e
  · intro _
    obtain ⟨N, M, p, h⟩ := h0
    have hp := h.2.2.1.1
    refine ⟨N, M, p, hR_cp h ?_ ?_ ?_ ?_ ?_ (fun j hj => ?_)⟩
    · rw [hc 84 (by decide) (by decide) (by decide)]; exact cp84_8_0
    · intro j hj; rw [hc (84 + 1) (by decide) (by decide) (by decide)]; exact cp84_8_1 j hj
    · intro d hd j hj; rw [hc (84 + 3 + d) (by omega) (by omega) (by omega)]; exact cp84_8_2 d hd j hj
    · intro d hd j hj; rw [hc (84 + 10 + d) (by omega) (by omega) (by omega)]; exact cp84_8_3 d hd j hj
    · intro d hd j hj; rw [hc (84 + 17 + d) (by omega) (by omega) (by omega)]; exact cp84_8_4 d hd j hj
    · exact hq j (by omega)
theorem k_image (hJ : jI s t) (w : Int32) : kI l B s t mX11_image mX12_image [.int w] := by
  cases hw : wIn w 1 with
  | false => exact kI_bad hJ (c_X11_image_bad l B s t w hw) (c_X12_image_bad l B _ t w hw)
  | true =>
    obtain ⟨j, hj, rfl⟩ := wIn_in (n := 1) (by decide) hw
    rcases (show j = 0 ∨ j = 1 by omega) with rfl | rfl
    · exact k_image0 hJ
    · exact k_image1 hJ
theorem k_from0 (hJ : jI s t) : kI l B s t mX11_from mX12_from [.int 0] := by
  obtain ⟨i0, i1, i2, i3⟩ := hJ.2.2.2.1
  by_cases g : s 109 0 = 0
  · exact kI_no hJ (c_X11_from_no0 l B s t g) (c_X12_from_no0 l B _ t (show s 116 0 = 0 by rw [← i0]; exact g))
  · have hrow : ∀ k, k ≠ 114 → (wMv (wCopy8_59 s) 114 0 115 0 105) k = wCopy8_59 s k := fun k h1 => by
      funext j
      simp only [wMv]
      rw [if_neg (fun z => h1 z.1)]
    have hm := c_X12_from_0 l B (wCopy8_59 s) t (show ¬ wCopy8_59 s 116 0 = 0 by rw [cp8_59_row (by omega), ← i0]; exact g)
    refine kI_of (c_X11_from_0 l B s t g) hm rfl (J_now hJ (jF.of (fun k hk => by rw [hrow k (by omega), cp8_59_row (by omega)])) ?_)
    obtain ⟨N, M, p, h⟩ := i2 g
    have hp := h.2.2.1.1
    refine ⟨N, M, p, hR_cp h ?_ ?_ ?_ ?_ ?_ (fun j hj => ?_)⟩
    · rw [hrow 8 (by decide)]; exact cp8_59_0
    · intro j hj; rw [hrow (8 + 1) (by decide)]; exact cp8_59_1 j hj
    · intro d hd j hj; rw [hrow (8 + 3 + d) (by omega)]; exact cp8_59_2 d hd j hj
    · intro d hd j hj; rw [hrow (8 + 10 + d) (by omega)]; exact cp8_59_3 d hd j hj
    · intro d hd j hj; rw [hrow (8 + 17 + d) (by omega)]; exact cp8_59_4 d hd j hj
    · simp only [wMv]
      rw [if_pos ⟨by trivial, by omega, by omega⟩, cp8_59_row (by omega)]
      congr 1 <;> omega
theorem k_from1 (hJ : jI s t) : kI l B s t mX11_from mX12_from [.int 1] := by
  obtain ⟨i0, i1, i2, i3⟩ := hJ.2.2.2.1
  by_cases g : s 109 1 = 0
  · exact kI_no hJ (c_X11_from_no1 l B s t g) (c_X12_from_no1 l B _ t (show s 116 1 = 0 by rw [← i1]; exact g))
  · have hrow : ∀ k, k ≠ 114 → (wMv (wCopy8_84 s) 114 0 115 105 105) k = wCopy8_84 s k := fun k h1 => by
      funext j
      simp only [wMv]
      rw [if_neg (fun z => h1 z.1)]
    have hm := c_X12_from_1 l B (wCopy8_84 s) t (show ¬ wCopy8_84 s 116 1 = 0 by rw [cp8_84_row (by omega), ← i1]; exact g)
    refine kI_of (c_X11_from_1 l B s t g) hm rfl (J_now hJ (jF.of (fun k hk => by rw [hrow k (by omega), cp8_84_row (by omega)])) ?_)
    obtain ⟨N, M, p, h⟩ := i3 g
    have hp := h.2.2.1.1
    refine ⟨N, M, p, hR_cp h ?_ ?_ ?_ ?_ ?_ (fun j hj => ?_)⟩
    · rw [hrow 8 (by decide)]; exact cp8_84_0
    · intro j hj; rw [hrow (8 + 1) (by decide)]; exact cp8_84_1 j hj
    · intro d hd j hj; rw [hrow (8 + 3 + d) (by omega)]; exact cp8_84_2 d hd j hj
    · intro d hd j hj; rw [hrow (8 + 10 + d) (by omega)]; exact cp8_84_3 d hd j hj
    · intro d hd j hj; rw [hrow (8 + 17 + d) (by omega)]; exact cp8_84_4 d hd j hj
    · simp only [wMv]
      rw [if_pos ⟨by trivial, by omega, by omega⟩, cp8_84_row (by omega)]
      congr 1 <;> omega
theorem k_from (hJ : jI s t) (w : Int32) : kI l B s t mX11_from mX12_from [.int w] := by
  cases hw : wIn w 1 with
  | false => exact kI_bad hJ (c_X11_from_bad l B s t w hw) (c_X12_from_bad l B _ t w hw)
  | true =>
    obtain ⟨j, hj, rfl⟩ := wIn_in (n := 1) (by decide) hw
    rcases (show j = 0 ∨ j = 1 by omega) with rfl | rfl
    · exact k_from0 hJ
    · exact k_from1 hJ
end KH
