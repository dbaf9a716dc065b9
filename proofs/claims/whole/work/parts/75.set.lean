section KE
variable {l : Launch} {B : zB} {s : zS} {t : zL}
theorem wAddN_row (s : zS) {n : Nat} (a b c d : Int32) {k : Nat} (h : k ≠ 18 + n) (h2 : k ≠ 8) : wAddN s n a b c d k = s k := by
  rw [wAddN, zu_row _ _ h2, zu_row _ _ h, zu_row _ _ h, zu_row _ _ h, zu_row _ _ h]
theorem mAddN_o (s : zS) {n : Nat} (a b c d : Int32) {x : Nat} (h : x < 33 + 4 * n ∨ 37 + 4 * n ≤ x) (h0 : x ≠ 7) : mAddN s n a b c d 114 x = s 114 x := by
  rw [mAddN, zu_ne _ _ (by omega), zu_ne _ _ (by omega), zu_ne _ _ (by omega), zu_ne _ _ (by omega), zu_ne _ _ (by omega)]
theorem mAddN_row (s : zS) {n : Nat} (a b c d : Int32) {k : Nat} (h : k ≠ 114) : mAddN s n a b c d k = s k := by
  rw [mAddN, zu_row _ _ h, zu_row _ _ h, zu_row _ _ h, zu_row _ _ h, zu_row _ _ h]
theorem k_note (hJ : jI s t) (x b e f : Int32) : kI l B s t mX11_note mX12_note [.int x, .int b, .int e, .int f] := by
  obtain ⟨N, M, p, h⟩ := hJ.1
  rcases j_dep h x with ⟨d, hd, rfl, g⟩ | ⟨hx, g⟩
  · cases hb : (wIn b 255 && wIn e 99 && wIn f 1) with
    | false => exact kI_bad hJ (c_X11_note_badw l B s t N (j_N h) (j_6 h) d hd _ rfl b e f hb) (c_X12_note_bad l B _ t _ b e f (by
        rw [Bool.and_assoc, Bool.and_assoc, ← Bool.and_assoc (wIn b 255), hb, Bool.and_false]))
    | true =>
      simp only [Bool.and_eq_true] at hb
      obtain ⟨⟨g1, g2⟩, g3⟩ := hb
      have hM6 := j_M6 h
      by_cases hM : M = 6
      · subst hM
        exact kI_full hJ (c_X11_note_full l B s t N (j_N h) (j_6 h) d hd _ rfl b e f g1 g2 g3 (j_M h)) (c_X12_note_full l B _ t _ b e f g g1 g2 g3 (show s 114 7 = 6 from j_M2 h))
      · have hM5 : M < 6 := by omega
        have hrow : ∀ k, k ≠ 114 → mAddN (wAddN s M (nI d) b e f) M (nI d) b e f k = wAddN s M (nI d) b e f k := fun k hk => mAddN_row _ _ _ _ _ hk
        have hq : ∀ x, x ≠ 7 → (x < 33 + 4 * M ∨ 37 + 4 * M ≤ x) → mAddN (wAddN s M (nI d) b e f) M (nI d) b e f 114 x = s 114 x := fun x h0 hx => by
          rw [mAddN_o _ _ _ _ _ hx h0, wAddN_row _ _ _ _ _ (by omega) (by omega)]
        have e114 : wAddN s M (nI d) b e f 114 = s 114 := wAddN_row _ _ _ _ _ (by omega) (by omega)
        refine kI_of (c_X11_note_ok l B s t N (j_N h) (j_6 h) d hd _ rfl b e f g1 g2 g3 M hM5 (j_M h)) (c_X12_note_ok l B _ t _ b e f (by rw [e114]; exact g) g1 g2 g3 M hM5 (by rw [e114]; exact j_M2 h)) rfl (J_now hJ (jF.of (fun k hk => by rw [hrow k (by omega), wAddN_row _ _ _ _ _ (by omega) (by omega)])) ?_)
        obtain ⟨hA, hB, hC, hS, hD, hNt, hP⟩ := h
        have hN6 := hA.1
        have hp8 := hC.1
        refine ⟨N, M + 1, p, ⟨hA.1, ?_, ?_⟩, ⟨by omega, ?_, ?_⟩, ⟨hC.1, ?_, ?_⟩, ?_, fun i hi => ?_, fun i hi => ?_, fun i hi => ?_⟩
        · rw [hrow 8 (by decide), wAddN, zu_ne _ _ (by omega), zu_ne _ _ (by omega), zu_ne _ _ (by omega), zu_ne _ _ (by omega), zu_ne _ _ (by omega)]; exact hA.2.1
        · rw [hq 0 (by decide) (by omega)]; exact hA.2.2
        · rw [hrow 8 (by decide), wAddN, zu_same]
        · rw [mAddN, zu_same]
        · rw [hrow 8 (by decide), wAddN, zu_ne _ _ (by omega), zu_ne _ _ (by omega), zu_ne _ _ (by omega), zu_ne _ _ (by omega), zu_ne _ _ (by omega)]; exact hC.2.1
        · rw [hq 8 (by decide) (by omega)]; exact hC.2.2
        · rw [hrow (8 + 1) (by decide), wAddN_row _ _ _ _ _ (by omega) (by omega)]
          exact sR_q hS (fun j h1 h2 => hq _ (by omega) (by omega))
        · rw [hrow (8 + 3 + i) (by omega), wAddN_row _ _ _ _ _ (by omega) (by omega)]
          exact dR_q (hD i hi) (fun j hj => hq _ (by omega) (by omega))
        · by_cases ei : i = M
          · subst ei
            rw [hrow (8 + 10 + i) (by omega)]
            have v0 : wAddN s i (nI d) b e f (8 + 10 + i) 0 = nI d := by rw [wAddN, zu_ne _ _ (by omega), zu_ne _ _ (by omega), zu_ne _ _ (by omega), zu_ne _ _ (by omega)]; exact zu_same _ _ _ _
            have v1 : wAddN s i (nI d) b e f (8 + 10 + i) 1 = b := by rw [wAddN, zu_ne _ _ (by omega), zu_ne _ _ (by omega), zu_ne _ _ (by omega)]; exact zu_same _ _ _ _
            have v2 : wAddN s i (nI d) b e f (8 + 10 + i) 2 = e := by rw [wAddN, zu_ne _ _ (by omega), zu_ne _ _ (by omega)]; exact zu_same _ _ _ _
            have v3 : wAddN s i (nI d) b e f (8 + 10 + i) 3 = f := by rw [wAddN, zu_ne _ _ (by omega)]; exact zu_same _ _ _ _
            refine ⟨⟨?_, ?_, ?_, ?_⟩, ?_⟩
            · rw [v0, mAddN, zu_ne _ _ (by omega), zu_ne _ _ (by omega), zu_ne _ _ (by omega), zu_ne _ _ (by omega), zu_same]
            · rw [v1, mAddN, zu_ne _ _ (by omega), zu_ne _ _ (by omega), zu_ne _ _ (by omega), zu_same]
            · rw [v2, mAddN, zu_ne _ _ (by omega), zu_ne _ _ (by omega), zu_same]
            · rw [v3, mAddN, zu_ne _ _ (by omega), zu_same]
            · rw [v1]; exact wIn_r8 g1
          · rw [hrow (8 + 10 + i) (by omega), wAddN_row _ _ _ _ _ (by omega) (by omega)]
            exact nR_q (hNt i (by omega)) (fun j hj => hq _ (by omega) (by omega))
        · rw [hrow (8 + 17 + i) (by omega), wAddN_row _ _ _ _ _ (by omega) (by omega)]
          exact sR_q (hP i hi) (fun j h1 h2 => hq _ (by omega) (by omega))
  · exact kI_bad hJ (c_X11_note_bad l B s t x hx b e f) (c_X12_note_bad l B _ t x b e f (by show (wIn x (s 114 0 - 1) && wIn b 255 && wIn e 99 && wIn f 1) = false; rw [g]; rfl))
/-- another row q, and the same cells but for the house's own -/
theorem hR_up {s2 : zS} {h : Nat} {q q2 : Nat → Int32} {N M p M2 p2 : Nat} (hr : hR s h q N M p) (hM : M2 ≤ M) (hp : p2 ≤ p) (h4 : s2 h 4 = s h 4) (h5 : s2 h 5 = nI M2) (h6 : s2 h 6 = nI p2) (q0 : q2 0 = q 0) (q7 : q2 7 = nI M2) (q8 : q2 8 = nI p2) (hS : sR (s2 (h + 1)) q2 0) (hk : ∀ k, h + 1 < k → k < h + 25 → s2 k = s k) (hq : ∀ j, 9 ≤ j → j < 105 → q2 j = q j) : hR s2 h q2 N M2 p2 := by
  obtain ⟨hA, hB, hC, -, hD, hNt, hP⟩ := hr
  have a1 := hA.1
  have a2 := hB.1
  have a3 := hC.1
  refine ⟨⟨hA.1, h4.trans hA.2.1, q0.trans hA.2.2⟩, ⟨by omega, h5, q7⟩, ⟨by omega, h6, q8⟩, hS, fun i hi => ?_, fun i hi => ?_, fun i hi => ?_⟩
  · rw [hk _ (by omega) (by omega)]
    exact dR_q (hD i hi) (fun j hj => hq _ (by omega) (by omega))
  · rw [hk _ (by omega) (by omega)]
    exact nR_q (hNt i (by omega)) (fun j hj => hq _ (by omega) (by omega))
  · rw [hk _ (by omega) (by omega)]
    exact sR_q (hP i (by omega)) (fun j h1 h2 => hq _ (by omega) (by omega))
theorem k_forget (hJ : jI s t) : kI l B s t mX11_forget mX12_forget [] := by
  obtain ⟨N, M, p, h⟩ := hJ.1
  refine kI_of (c_X11_forget l B s t) (c_X12_forget l B _ t) ?_ (J_now hJ (jF.of (fun k hk => by rw [zu_row _ _ (by omega), zu_row _ _ (by omega)])) ⟨N, 0, p, ?_⟩)
  · exact (j_M h).trans (j_M2 h).symm
  · refine hR_up h (Nat.zero_le _) (Nat.le_refl _) ?_ ?_ ?_ ?_ ?_ ?_ ?_ ?_ ?_
    · rw [zu_row _ _ (by decide), zu_ne _ _ (by omega)]
    · rw [zu_row _ _ (by decide), zu_same]; rfl
    · rw [zu_row _ _ (by decide), zu_ne _ _ (by omega)]; exact h.2.2.1.2.1
    · rw [zu_ne _ _ (by omega), zu_row _ _ (by decide)]
    · rw [zu_same]; rfl
    · rw [zu_ne _ _ (by omega), zu_row _ _ (by decide)]; exact h.2.2.1.2.2
    · rw [zu_row _ _ (by decide), zu_row _ _ (by decide)]
      exact sR_q h.2.2.2.1 (fun j h1 h2 => by rw [zu_ne _ _ (by omega), zu_row _ _ (by decide)])
    · intro k h1 h2
      rw [zu_row _ _ (by omega), zu_row _ _ (by omega)]
    · intro j h1 h2
      rw [zu_ne _ _ (by omega), zu_row _ _ (by decide)]
/-! the text -/
theorem J_text {s2 : zS} (hJ : jI s t) (hrow : ∀ k, k ≠ 111 → k ≠ 112 → k ≠ 113 → k ≠ 121 → s2 k = s k) (ht : ∃ n, n ≤ 150 ∧ s2 111 1 = nI n ∧ s2 113 12 = nI n ∧ s2 112 = s2 121) : jI s2 t := by
  obtain ⟨h0, hc, -, ⟨i0, i1, i2, i3⟩, hl⟩ := hJ
  have f : ∀ k, k ≠ 111 ∧ k ≠ 112 ∧ k ≠ 113 ∧ k ≠ 121 → s2 k = s k := fun k hk => hrow k hk.1 hk.2.1 hk.2.2.1 hk.2.2.2
  refine ⟨?_, ?_, ht, ⟨?_, ?_, ?_, ?_⟩, hl⟩
  · rw [f 114 (by decide)]; exact hE_same (fun k a b => f k (by omega)) h0
  · rw [f 0 (by decide), f 117 (by decide)]; exact hc
  · rw [f 109 (by decide), f 116 (by decide)]; exact i0
  · rw [f 109 (by decide), f 116 (by decide)]; exact i1
  · rw [f 109 (by decide), f 115 (by decide)]
    exact fun z => hE_same (fun k a b => f k (by omega)) (i2 z)
  · rw [f 109 (by decide), f 115 (by decide)]
    exact fun z => hE_same (fun k a b => f k (by omega)) (i3 z)
theorem byt_all : ∀ j, j < 128 → vp_nar .byte (nI j).toInt8.toInt32 = nI j := by decide +kernel
theorem k_type (hJ : jI s t) (c : Int32) : kI l B s t mX11_type mX12_type [.int c] := by
  obtain ⟨n, hn, e1, e2, e3⟩ := hJ.2.2.1
  cases hc : wIn c 127 with
  | false => exact kI_bad hJ (c_X11_type_bad l B s t c hc) (c_X12_type_bad l B _ t c hc)
  | true =>
    by_cases h150 : n = 150
    · subst h150
      exact kI_full hJ (c_X11_type_full l B s t c hc e1) (c_X12_type_full l B _ t c hc e2)
    · have hn2 : n < 150 := by omega
      obtain ⟨j, hj, rfl⟩ := wIn_in (n := 127) (by decide) hc
      refine kI_of (c_X11_type_ok l B s t _ hc n hn2 e1) (c_X12_type_ok l B _ t _ hc n hn2 (by rw [zu_row _ _ (by decide), zu_row _ _ (by decide)]; exact e2)) rfl (J_text hJ (fun k h1 h2 h3 h4 => by rw [zu_row _ _ h3, zu_row _ _ h4, zu_row _ _ h1, zu_row _ _ h2]) ⟨n + 1, by omega, ?_, ?_, ?_⟩)
      · rw [zu_row _ _ (by decide), zu_row _ _ (by decide), zu_same]
      · rw [zu_same]
      · rw [byt_all j (by omega), zu_row _ _ (by decide), zu_row _ _ (by decide), zu_row _ _ (by decide), zu_row (k2 := 121) _ _ (by decide), zu_upd, zu_upd, zu_row _ _ (by decide), zu_row _ _ (by decide), e3]
theorem k_clear (hJ : jI s t) : kI l B s t mX11_clear mX12_clear [] := by
  obtain ⟨n, hn, e1, e2, e3⟩ := hJ.2.2.1
  refine kI_of (c_X11_clear l B s t) (c_X12_clear l B _ t) ?_ (J_text hJ (fun k h1 h2 h3 h4 => by rw [zu_row _ _ h3, zu_row _ _ h1]) ⟨0, by decide, ?_, ?_, ?_⟩)
  · exact e1.trans e2.symm
  · rw [zu_row _ _ (by decide), zu_same]; rfl
  · rw [zu_same]; rfl
  · rw [zu_row _ _ (by decide), zu_row _ _ (by decide), zu_row _ _ (by decide), zu_row _ _ (by decide)]; exact e3
end KE
