section KD
variable {l : Launch} {B : zB} {s : zS} {t : zL}
theorem zcp_row (s : zS) {o q n k : Nat} (h : k ≠ o) : zcp s o q n k = s k := by funext j; simp [zcp, h]
theorem zcp_hit (s : zS) {o q n j : Nat} (h : j < n) : zcp s o q n o j = s q j := by simp [zcp, h]
theorem mDf_congr {s2 : zS} (h : s2 114 = s 114) (N : Nat) (x : Int64) : ∀ n, mDf s2 N x n = mDf s N x n := by
  have e1 : mK s2 = mK s := by funext d; simp only [mK, h]
  have e2 : mL s2 = mL s := by funext d; simp only [mL, h]
  have e3 : mH s2 = mH s := by funext d; simp only [mH, h]
  have e4 : mS s2 = mS s := by simp only [mS, h]
  have e5 : ∀ i, mDs s2 i = mDs s i := by intro i; cases i <;> simp only [mDs, e4]
  have e6 : ∀ i, mDp s2 i = mDp s i := by intro i; cases i <;> simp only [mDp, h]
  have hw : ∀ i b, mDw s2 N i b = mDw s N i b := by intro i b; simp only [mDw, e1, e2, e3, e5, h]
  have hb : ∀ i f, mDb s2 x i f = mDb s x i f := by intro i f; simp only [mDb, e6]
  intro n
  induction n with
  | zero => simp only [mDf, h]
  | succ n ih => rw [mDf, mDf, ih, hb, hw, e6]
theorem mDb_eq {w a b : Int32} (hw : r8 w) : w &&& (255 &&& ((a ||| b) ^^^ (-1))) = (w &&& (a ^^^ (-1))) &&& (b ^^^ (-1)) := by
  rw [← free_eq, ← Int32.and_assoc, ← Int32.and_assoc, hw]
theorem j_D {N M p : Nat} (h : hR s 8 (s 114) N M p) {a0 : Nat} (ha : a0 < 2 ^ 31) : ∀ n, (wD N (zcp s 110 9 6) (lN a0) n).1 110 1 = mDp s n ∧ (wD N (zcp s 110 9 6) (lN a0) n).1 110 2 = mDf s N (lN a0) n ∧ ((wD N (zcp s 110 9 6) (lN a0) n).1 110 3 ||| (wD N (zcp s 110 9 6) (lN a0) n).1 110 4) = mDs s n ∧ (wD N (zcp s 110 9 6) (lN a0) n).1 110 0 = s 114 6 + nI n ∧ (wD N (zcp s 110 9 6) (lN a0) n).2 = mDx (lN a0) n := by
  intro n
  induction n with
  | zero =>
    refine ⟨?_, ?_, ?_, ?_, rfl⟩
    · exact (zcp_hit s (o := 110) (n := 6) (by decide)).trans (j_e1 h)
    · exact (zcp_hit s (o := 110) (n := 6) (by decide)).trans (j_e2 h)
    · show zcp s 110 9 6 110 3 ||| zcp s 110 9 6 110 4 = mS s
      rw [zcp_hit s (by decide), zcp_hit s (by decide), mS, j_e3 h, j_e4 h]
    · show zcp s 110 9 6 110 0 = s 114 6 + nI 0
      rw [zcp_hit s (by decide), j_e0 h]
      exact (Int32.add_zero _).symm
  | succ n ih =>
    obtain ⟨i1, i2, i3, i4, i5⟩ := ih
    rw [wD]
    dsimp only
    have rows : ∀ k, k ≠ 110 → (wD N (zcp s 110 9 6) (lN a0) n).1 k = s k := fun k hk => (wD_row hk n).trans (zcp_row s hk)
    generalize hσ : (wD N (zcp s 110 9 6) (lN a0) n).1 = σ at i1 i2 i3 i4 rows ⊢
    have ex : wDx (wD N (zcp s 110 9 6) (lN a0) n).2 = mDx (lN a0) (n + 1) := by rw [i5]; rfl
    rw [ex]
    obtain ⟨k, hk, ek⟩ := mDx_N ha (n + 1)
    have hb : wDb σ (mDx (lN a0) (n + 1)) = mDb s (lN a0) n (mDf s N (lN a0) n) := by
      rw [wDb, mDb, i1, i2]
      exact mDb_eq (by rw [ek]; exact wDl_N hk)
    have hw : ∀ b, wDw N σ b = mDw s N n b := by
      intro b
      rw [wDw, mDw, i3, i4]
      refine wWho_congr N (fun i hi => ?_)
      have hD := h.2.2.2.2.1 i hi
      have h6 := j_6 h
      have hr : σ (11 + i) = s (11 + i) := rows _ (by omega)
      rw [hr]
      exact ⟨hD.1.1, hD.1.2.1, hD.1.2.2.1⟩
    rw [wDs, hb, hw, mDf]
    by_cases hz : mDw s N n (mDb s (lN a0) n (mDf s N (lN a0) n)) = 0
    · rw [if_pos hz, if_pos hz, hz, wMove, if_pos rfl]
      refine ⟨?_, ?_, ?_, ?_, rfl⟩
      · simp [wClose, zu, mDp]
      · simp [wClose, zu, i1, i2]
      · simp [wClose, zu, mDs]
      · simp [wClose, zu, i4]
        rw [Int32.add_assoc]
        exact congrArg _ (nI_add n 1)
    · rw [if_neg hz, if_neg hz, wMove, if_neg hz]
      refine ⟨?_, ?_, ?_, ?_, rfl⟩
      · simp [wClose, zu, mDp]
      · simp [wClose, zu, i2]
      · simp [wClose, zu, mDs]
      · simp [wClose, zu, i4]
        rw [Int32.add_assoc]
        exact congrArg _ (nI_add n 1)
theorem k_diets (hJ : jI s t) (a n : Int32) : kI l B s t mX11_diets mX12_diets [.int a, .int n] := by
  obtain ⟨N, M, p, h⟩ := hJ.1
  cases hb : (wIn a 999999 && wIn n 30) with
  | false => exact kI_bad hJ (c_X11_diets_bad l B s t a n hb) (c_X12_diets_bad l B _ t a n hb)
  | true =>
    rw [Bool.and_eq_true] at hb
    obtain ⟨ha, hn⟩ := hb
    obtain ⟨i, hi, rfl⟩ := wIn_in (n := 999999) (by decide) ha
    obtain ⟨j, hj, rfl⟩ := wIn_in (n := 30) (by decide) hn
    have hc := c_X11_diets_ok l B s t _ ha j hj N (j_N h) (j_6 h) (j_K h) (j_r1 h) (j_r2 h)
    rw [nI_l (show i < 2 ^ 31 by omega)] at hc
    have rows : ∀ k, k ≠ 110 → (wD N (zcp s 110 9 6) (lN i) j).1 k = s k := fun k hk => (wD_row hk j).trans (zcp_row s hk)
    have hq : jQ s (wD N (zcp s 110 9 6) (lN i) j).1 := ⟨jF.of (fun k hk => rows k (by omega)), fun k h1 h2 => rows k (by omega), rows 114 (by decide)⟩
    have h1 : hR (wD N (zcp s 110 9 6) (lN i) j).1 8 ((wD N (zcp s 110 9 6) (lN i) j).1 114) N M p := by
      rw [rows 114 (by decide)]
      exact hR_same (fun k h1 h2 => rows k (by omega)) h
    refine kI_of hc (c_X12_diets_ok l B _ t N (j_mOk h1) (by rw [← j_e1 h1]; exact j_r1 h1) (by rw [← j_e2 h1]; exact j_r2 h1) i (by omega) j hj) ?_ (J_free hJ (((hq.tr jQ.hand).tr (jQ.zu (by omega))).tr (jQ.zu (by omega))))
    rw [(j_D h (by omega) j).2.1, mDf_congr (rows 114 (by decide))]
/-! a house, a deputy, a note, the text -/
theorem wStart8_row (s : zS) (a : Int32) {k : Nat} (h : k ≠ 9) (h2 : k ≠ 8) : wStart8 s a k = s k := by
  rw [wStart8, zu_row _ _ h2, zu_row _ _ h2, zu_row _ _ h2, zu_row _ _ h, zu_row _ _ h, zu_row _ _ h, zu_row _ _ h, zu_row _ _ h, zu_row _ _ h]
theorem wBeg_row (s : zS) (o : Nat) (d : Int32) {k : Nat} (h : k ≠ o) : wBeg s o d k = s k := by
  funext j
  simp [wBeg, wZero, zu, h]
theorem r8_0 : r8 0 := by unfold r8; decide
theorem k_house (hJ : jI s t) (a : Int32) : kI l B s t mX11_house mX12_house [.int a] := by
  obtain ⟨N, M, p, h⟩ := hJ.1
  cases ha : wIn a 99 with
  | false => exact kI_bad hJ (c_X11_house_bad l B s t a ha) (c_X12_house_bad l B _ t a ha)
  | true =>
    refine kI_of (c_X11_house_ok l B s t a ha) (c_X12_house_ok l B _ t a ha) ?_ (J_now hJ (jF.of (fun k hk => by rw [wBeg_row _ _ _ (by omega), wStart8_row _ _ (by omega) (by omega)])) ?_)
    · rw [wStart8_row _ _ (by decide) (by decide)]; exact j_eN h
    · have r8e : wBeg (wStart8 s a) 114 a 8 = wStart8 s a 8 := wBeg_row _ _ _ (by decide)
      have r9e : wBeg (wStart8 s a) 114 a 9 = wStart8 s a 9 := wBeg_row _ _ _ (by decide)
      refine ⟨0, 0, 0, ⟨by decide, ?_, ?_⟩, ⟨by decide, ?_, ?_⟩, ⟨by decide, ?_, ?_⟩, ?_, fun d hd => absurd hd (Nat.not_lt_zero d), fun d hd => absurd hd (Nat.not_lt_zero d), fun d hd => absurd hd (Nat.not_lt_zero d)⟩
      · rw [r8e]; simp [wStart8, zu]; rfl
      · simp [wBeg, wZero, zu]; rfl
      · rw [r8e]; simp [wStart8, zu]; rfl
      · simp [wBeg, wZero, zu]; rfl
      · rw [r8e]; simp [wStart8, zu]; rfl
      · simp [wBeg, wZero, zu]; rfl
      · show sR (wBeg (wStart8 s a) 114 a 9) _ 0
        rw [r9e]
        refine ⟨?_, ?_, ?_, ?_, ?_, ?_, ?_, ?_, ?_, ?_⟩ <;> simp [wStart8, wBeg, wZero, zu, r8_0]
theorem wAddD8_row (s : zS) {n : Nat} (a b c d : Int32) {k : Nat} (h : k ≠ 11 + n) (h2 : k ≠ 8) : wAddD8 s n a b c d k = s k := by
  rw [wAddD8, zu_row _ _ h2, zu_row _ _ h2, zu_row _ _ h, zu_row _ _ h, zu_row _ _ h, zu_row _ _ h]
theorem wLay_o (s : zS) {n : Nat} (a b c d : Int32) {x : Nat} (h : x < 9 + 4 * n ∨ 13 + 4 * n ≤ x) (h0 : x ≠ 0) : wLay114 s n a b c d 114 x = s 114 x := by
  rw [wLay114, zu_ne _ _ (by omega), zu_ne _ _ (by omega), zu_ne _ _ (by omega), zu_ne _ _ (by omega), zu_ne _ _ (by omega)]
theorem wLay_row (s : zS) {n : Nat} (a b c d : Int32) {k : Nat} (h : k ≠ 114) : wLay114 s n a b c d k = s k := by
  rw [wLay114, zu_row _ _ h, zu_row _ _ h, zu_row _ _ h, zu_row _ _ h, zu_row _ _ h]
theorem sR_q {r q q2 : Nat → Int32} {o o2 : Nat} (h : sR r q o) (e : ∀ j, 1 ≤ j → j ≤ 6 → q2 (o2 + j) = q (o + j)) : sR r q2 o2 := by
  obtain ⟨h0, h1, h2, h3, h4, h5, hr⟩ := h
  exact ⟨by rw [e 6 (by decide) (by decide)]; exact h0, by rw [e 1 (by decide) (by decide)]; exact h1, by rw [e 2 (by decide) (by decide)]; exact h2, by rw [e 3 (by decide) (by decide)]; exact h3, by rw [e 4 (by decide) (by decide)]; exact h4, by rw [e 5 (by decide) (by decide)]; exact h5, hr⟩
theorem dR_q {r q q2 : Nat → Int32} {o : Nat} (h : dR r q o) (e : ∀ j, j < 4 → q2 (o + j) = q (o + j)) : dR r q2 o := by
  obtain ⟨⟨h0, h1, h2, h3⟩, hr⟩ := h
  exact ⟨⟨by rw [e 0 (by decide)]; exact h0, by rw [e 1 (by decide)]; exact h1, by rw [e 2 (by decide)]; exact h2, by rw [e 3 (by decide)]; exact h3⟩, hr⟩
theorem nR_q {r q q2 : Nat → Int32} {o : Nat} (h : nR r q o) (e : ∀ j, j < 4 → q2 (o + j) = q (o + j)) : nR r q2 o := by
  obtain ⟨⟨h0, h1, h2, h3⟩, hr⟩ := h
  exact ⟨⟨(h0.trans (e 0 (by decide)).symm), by rw [e 1 (by decide)]; exact h1, by rw [e 2 (by decide)]; exact h2, by rw [e 3 (by decide)]; exact h3⟩, hr⟩
theorem k_deputy (hJ : jI s t) (a b c d : Int32) : kI l B s t mX11_deputy mX12_deputy [.int a, .int b, .int c, .int d] := by
  obtain ⟨N, M, p, h⟩ := hJ.1
  cases hb : (wIn a 5 && wIn b 255 && wIn c 255 && wIn d 40) with
  | false => exact kI_bad hJ (c_X11_deputy_bad l B s t a b c d hb) (c_X12_deputy_bad l B _ t a b c d hb)
  | true =>
    simp only [Bool.and_eq_true] at hb
    obtain ⟨⟨⟨g1, g2⟩, g3⟩, g4⟩ := hb
    have h6 := j_6 h
    by_cases hN : N = 6
    · subst hN
      exact kI_full hJ (c_X11_deputy_full l B s t a b c d g1 g2 g3 g4 (j_N h)) (c_X12_deputy_full l B _ t a b c d g1 g2 g3 g4 h.1.2.2)
    · have hN6 : N < 6 := by omega
      have hrow : ∀ k, k ≠ 114 → zu (wLay114 (wAddD8 s N a b c d) N a b c d) 114 8 0 k = wAddD8 s N a b c d k := fun k hk => by rw [zu_row _ _ hk, wLay_row _ _ _ _ _ hk]
      have hq : ∀ x, x ≠ 0 → x ≠ 8 → (x < 9 + 4 * N ∨ 13 + 4 * N ≤ x) → zu (wLay114 (wAddD8 s N a b c d) N a b c d) 114 8 0 114 x = s 114 x := fun x h0 h8 hx => by
        rw [zu_ne _ _ (by omega), wLay_o _ _ _ _ _ hx h0, wAddD8_row _ _ _ _ _ (by omega) (by omega)]
      refine kI_of (c_X11_deputy_ok l B s t a b c d g1 g2 g3 g4 N hN6 (j_N h)) (c_X12_deputy_ok l B _ t a b c d g1 g2 g3 g4 N hN6 (by rw [wAddD8_row _ _ _ _ _ (by omega) (by omega)]; exact h.1.2.2)) rfl (J_now hJ (jF.of (fun k hk => by rw [hrow k (by omega), wAddD8_row _ _ _ _ _ (by omega) (by omega)])) ?_)
      obtain ⟨hA, hB, hC, hS, hD, hNt, hP⟩ := h
      have hM6 := hB.1
      refine ⟨N + 1, M, 0, ⟨by omega, ?_, ?_⟩, ⟨hB.1, ?_, ?_⟩, ⟨by decide, ?_, ?_⟩, ?_, fun i hi => ?_, fun i hi => ?_, fun i hi => absurd hi (Nat.not_lt_zero i)⟩
      · rw [hrow 8 (by decide), wAddD8, zu_ne _ _ (by omega), zu_same]
      · rw [zu_ne _ _ (by omega), wLay114, zu_same]
      · rw [hrow 8 (by decide), wAddD8, zu_ne _ _ (by omega), zu_ne _ _ (by omega), zu_ne _ _ (by omega), zu_ne _ _ (by omega), zu_ne _ _ (by omega), zu_ne _ _ (by omega)]; exact hB.2.1
      · rw [hq 7 (by decide) (by decide) (by omega)]; exact hB.2.2
      · rw [hrow 8 (by decide), wAddD8, zu_same]; rfl
      · rw [zu_same]; rfl
      · rw [hrow (8 + 1) (by decide), wAddD8_row _ _ _ _ _ (by omega) (by omega)]
        exact sR_q hS (fun j h1 h2 => hq _ (by omega) (by omega) (by omega))
      · by_cases e : i = N
        · subst e
          rw [hrow (8 + 3 + i) (by omega)]
          have v0 : wAddD8 s i a b c d (8 + 3 + i) 0 = a := by rw [wAddD8, zu_ne _ _ (by omega), zu_ne _ _ (by omega), zu_ne _ _ (by omega), zu_ne _ _ (by omega), zu_ne _ _ (by omega)]; exact zu_same _ _ _ _
          have v1 : wAddD8 s i a b c d (8 + 3 + i) 1 = b := by rw [wAddD8, zu_ne _ _ (by omega), zu_ne _ _ (by omega), zu_ne _ _ (by omega), zu_ne _ _ (by omega)]; exact zu_same _ _ _ _
          have v2 : wAddD8 s i a b c d (8 + 3 + i) 2 = c := by rw [wAddD8, zu_ne _ _ (by omega), zu_ne _ _ (by omega), zu_ne _ _ (by omega)]; exact zu_same _ _ _ _
          have v3 : wAddD8 s i a b c d (8 + 3 + i) 3 = d := by rw [wAddD8, zu_ne _ _ (by omega), zu_ne _ _ (by omega)]; exact zu_same _ _ _ _
          refine ⟨⟨?_, ?_, ?_, ?_⟩, ?_, ?_⟩
          · rw [v0, zu_ne _ _ (by omega), wLay114, zu_ne _ _ (by omega), zu_ne _ _ (by omega), zu_ne _ _ (by omega), zu_ne _ _ (by omega), zu_same]
          · rw [v1, zu_ne _ _ (by omega), wLay114, zu_ne _ _ (by omega), zu_ne _ _ (by omega), zu_ne _ _ (by omega), zu_same]
          · rw [v2, zu_ne _ _ (by omega), wLay114, zu_ne _ _ (by omega), zu_ne _ _ (by omega), zu_same]
          · rw [v3, zu_ne _ _ (by omega), wLay114, zu_ne _ _ (by omega), zu_same]
          · obtain ⟨j, hj, e⟩ := wIn_in (n := 5) (by decide) g1
            exact ⟨j, by omega, v0.trans e⟩
          · obtain ⟨j, hj, e⟩ := wIn_in (n := 40) (by decide) g4
            exact ⟨j, by omega, v3.trans e⟩
        · rw [hrow (8 + 3 + i) (by omega), wAddD8_row _ _ _ _ _ (by omega) (by omega)]
          exact dR_q (hD i (by omega)) (fun j hj => hq _ (by omega) (by omega) (by omega))
      · rw [hrow (8 + 10 + i) (by omega), wAddD8_row _ _ _ _ _ (by omega) (by omega)]
        exact nR_q (hNt i hi) (fun j hj => hq _ (by omega) (by omega) (by omega))
end KD
