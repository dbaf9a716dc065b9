section KT
variable {l : Launch} {B : zB} {s : zS} {t : zL}
theorem nI_0le {m : Nat} (h1 : 1 ≤ m) (h2 : m < 2 ^ 31) : ¬ nI m ≤ 0 := by
  rw [Int32.le_iff_toInt_le, nI_toInt h2]
  show ¬ (m : Int) ≤ 0
  omega
theorem neg_0le : ∀ q, q ≤ 150 → (-10 : Int32) - nI q ≤ 0 := by decide +kernel
theorem k_read (hJ : jI s t) : kI l B s t mX11_read mX12_read [] := by
  obtain ⟨n, h150, e1, e2, e3⟩ := hJ.2.2.1
  have hrel := fun u hb hn => rd_rel (b := s 112) (n := n) h150 s u hb hn
  by_cases g : (cRF s (s 112) n).1 ≤ 0
  · have hc := c_X11_read_no l B s t (s 112) rfl n e1 h150 g
    generalize hC : cRF s (s 112) n = C at hc hrel g
    have hf : ∀ k, k < 33 ∨ 58 ≤ k → C.2.1 k = s k := (hrel (zu (zu s 121 0 (s 121 0)) 113 12 (nI n)) (by rw [zu_self, zu_row _ _ (by decide)]; exact e3.symm) (zu_same _ _ _ _)).2.2.2.1
    generalize hS1 : cT C.2.1 (s 112) n C.2.2.1 C.2.2.2 = s1 at hc
    have r1 : ∀ k, k ≠ 111 → k < 33 ∨ 58 ≤ k → s1 k = s k := fun k h1 h2 => by rw [← hS1, cT_row _ _ _ _ _ h1]; exact hf k h2
    have hb : s1 121 = s 112 := by rw [r1 121 (by decide) (by omega)]; exact e3.symm
    have hn : s1 113 12 = nI n := by rw [r1 113 (by decide) (by omega)]; exact e2
    obtain ⟨g1, g2, g3, -, g5⟩ := hrel s1 hb hn
    have hm := c_X12_read l B s1 t (s 112) hb n hn h150
    generalize mRd s1 (s 112) n = D at g1 g2 g3 g5 hm
    have hD : D.2.1 = false := by
      cases hd : D.2.1 with
      | false => rfl
      | true =>
        obtain ⟨⟨m, y1, y2, y3⟩, -⟩ := g2 hd
        rw [y3] at g
        exact absurd g (nI_0le y1 (by omega))
    rw [mRs, if_neg (by rw [hD]; decide)] at hm
    have r2 : ∀ k, k ≠ 113 → k ≠ 122 → k ≠ 123 → mT D.2.2.1 (s 112) n D.2.2.2 k = s1 k := fun k h1 h2 h3 => by rw [mT_row _ _ _ _ h1]; exact g5 k h2 h3
    refine kI_of hc hm g1 (J_free hJ ⟨⟨fun k hk => ?_, ?_, ?_⟩, fun k h1 h2 => ?_, ?_⟩)
    · rw [r2 k (by omega) (by omega) (by omega), r1 k (by omega) (by omega)]
    · rw [r2 111 (by decide) (by decide) (by decide), ← hS1, cT_1]; exact e1.symm
    · rw [mT, mTf_o _ _ _ _ _ (by decide) (by decide) (by decide) (by decide), g5 113 (by decide) (by decide), hn]; exact e2.symm
    · rw [r2 k (by omega) (by omega) (by omega), r1 k (by omega) (by omega)]
    · rw [r2 114 (by decide) (by decide) (by decide), r1 114 (by decide) (by omega)]
  · have hc := c_X11_read_ok l B s t (s 112) rfl n e1 h150 g
    generalize hC : cRF s (s 112) n = C at hc hrel g
    have hf : ∀ k, k < 33 ∨ 58 ≤ k → C.2.1 k = s k := (hrel (zu (zu s 121 0 (s 121 0)) 113 12 (nI n)) (by rw [zu_self, zu_row _ _ (by decide)]; exact e3.symm) (zu_same _ _ _ _)).2.2.2.1
    generalize hS0 : cT C.2.1 (s 112) n C.2.2.1 C.2.2.2 = s0 at hc
    have r0 : ∀ k, k ≠ 111 → s0 k = C.2.1 k := fun k h1 => by rw [← hS0, cT_row _ _ _ _ _ h1]
    have r1 : ∀ k, k ≠ 111 → 58 ≤ k ∨ k < 8 → wCopy8_33 s0 k = s k := fun k h1 h2 => by rw [cp8_33_row (by omega), r0 k h1]; exact hf k (by omega)
    have hb : wCopy8_33 s0 121 = s 112 := by rw [r1 121 (by decide) (by omega)]; exact e3.symm
    have hn : wCopy8_33 s0 113 12 = nI n := by rw [r1 113 (by decide) (by omega)]; exact e2
    obtain ⟨g1, g2, g3, -, g5⟩ := hrel (wCopy8_33 s0) hb hn
    have hm := c_X12_read l B (wCopy8_33 s0) t (s 112) hb n hn h150
    generalize mRd (wCopy8_33 s0) (s 112) n = D at g1 g2 g3 g5 hm
    have hD : D.2.1 = true := by
      cases hd : D.2.1 with
      | true => rfl
      | false =>
        obtain ⟨q, y1, y2⟩ := g3 hd
        exact absurd (by rw [y2]; exact neg_0le q (by omega)) g
    rw [mRs, if_pos hD] at hm
    obtain ⟨-, N, hR0⟩ := g2 hD
    have r2 : ∀ k, k ≠ 113 → k ≠ 114 → k ≠ 122 → k ≠ 123 → wMv (mT D.2.2.1 (s 112) n D.2.2.2) 114 0 122 0 57 k = wCopy8_33 s0 k := fun k h1 h0 h2 h3 => by
      have e : wMv (mT D.2.2.1 (s 112) n D.2.2.2) 114 0 122 0 57 k = mT D.2.2.1 (s 112) n D.2.2.2 k := by
        funext j
        simp only [wMv]
        rw [if_neg (fun z => h0 z.1)]
      rw [e, mT_row _ _ _ _ h1]
      exact g5 k h2 h3
    refine kI_of hc hm g1 (J_now hJ ⟨fun k hk => ?_, ?_, ?_⟩ ⟨N, 0, 0, hR_cp hR0 ?_ ?_ ?_ ?_ ?_ (fun j hj => ?_)⟩)
    · rw [r2 k (by omega) (by omega) (by omega) (by omega), r1 k (by omega) (by omega)]
    · rw [r2 111 (by decide) (by decide) (by decide) (by decide), cp8_33_row (by omega), ← hS0, cT_1]; exact e1.symm
    · have e : wMv (mT D.2.2.1 (s 112) n D.2.2.2) 114 0 122 0 57 113 12 = mT D.2.2.1 (s 112) n D.2.2.2 113 12 := by
        simp only [wMv]
        rw [if_neg (by omega)]
      rw [e, mT, mTf_o _ _ _ _ _ (by decide) (by decide) (by decide) (by decide), g5 113 (by decide) (by decide), hn]; exact e2.symm
    · rw [r2 8 (by decide) (by decide) (by decide) (by decide), ← r0 33 (by decide)]; exact cp8_33_0
    · intro j hj; rw [r2 (8 + 1) (by decide) (by decide) (by decide) (by decide), ← r0 (33 + 1) (by decide)]; exact cp8_33_1 j hj
    · intro d hd j hj; rw [r2 (8 + 3 + d) (by omega) (by omega) (by omega) (by omega), ← r0 (33 + 3 + d) (by omega)]; exact cp8_33_2 d hd j hj
    · intro d hd j hj; rw [r2 (8 + 10 + d) (by omega) (by omega) (by omega) (by omega), ← r0 (33 + 10 + d) (by omega)]; exact cp8_33_3 d hd j hj
    · intro d hd j hj; rw [r2 (8 + 17 + d) (by omega) (by omega) (by omega) (by omega), ← r0 (33 + 17 + d) (by omega)]; exact cp8_33_4 d hd j hj
    · simp only [wMv]
      rw [if_pos ⟨by trivial, by omega, by omega⟩, mT_row _ _ _ _ (by decide), Nat.sub_zero, Nat.zero_add]
theorem jI_0 : jI z0 zt1 := by
  refine ⟨⟨0, 0, 0, ⟨by decide, rfl, rfl⟩, ⟨by decide, rfl, rfl⟩, ⟨by decide, rfl, rfl⟩, ⟨rfl, rfl, rfl, rfl, rfl, rfl, r8_0, r8_0, r8_0, r8_0⟩, fun i hi => absurd hi (Nat.not_lt_zero i), fun i hi => absurd hi (Nat.not_lt_zero i), fun i hi => absurd hi (Nat.not_lt_zero i)⟩, ⟨rfl, rfl, rfl⟩, ⟨0, by decide, rfl, rfl, rfl⟩, ⟨rfl, rfl, fun z => absurd rfl z, fun z => absurd rfl z⟩, rfl, rfl⟩
end KT
