section KS
variable {b : Nat → Int32} {n : Nat}
theorem wAddD33_ro (s : zS) {N : Nat} (x y z w : Int32) {k : Nat} (h : k ≠ 36 + N) (h2 : k ≠ 33) : wAddD33 s N x y z w k = s k := by
  rw [wAddD33, zu_row _ _ h2, zu_row _ _ h2, zu_row _ _ h, zu_row _ _ h, zu_row _ _ h, zu_row _ _ h]
theorem wLay122_o (s : zS) {N : Nat} (x y z w : Int32) {j : Nat} (h : j < 9 + 4 * N ∨ 13 + 4 * N ≤ j) (h0 : j ≠ 0) : wLay122 s N x y z w 122 j = s 122 j := by
  rw [wLay122, zu_ne _ _ (by omega), zu_ne _ _ (by omega), zu_ne _ _ (by omega), zu_ne _ _ (by omega), zu_ne _ _ (by omega)]
theorem hR_addD33 {σ u : zS} {N : Nat} (h : hR σ 33 (u 122) N 0 0) (hN : N < 6) {k w : Int32} (hk : ∃ c, c < 6 ∧ k = nI c) (hw : ∃ c, c < 41 ∧ w = nI c) : hR (wAddD33 σ N k 0 0 w) 33 (wLay122 u N k 0 0 w 122) (N + 1) 0 0 := by
  obtain ⟨hA, hB, hC, hS, hD, -, -⟩ := h
  have v0 : wAddD33 σ N k 0 0 w (33 + 3 + N) 0 = k := by rw [wAddD33, zu_ne _ _ (by omega), zu_ne _ _ (by omega), zu_ne _ _ (by omega), zu_ne _ _ (by omega), zu_ne _ _ (by omega)]; exact zu_same _ _ _ _
  have v1 : wAddD33 σ N k 0 0 w (33 + 3 + N) 1 = 0 := by rw [wAddD33, zu_ne _ _ (by omega), zu_ne _ _ (by omega), zu_ne _ _ (by omega), zu_ne _ _ (by omega)]; exact zu_same _ _ _ _
  have v2 : wAddD33 σ N k 0 0 w (33 + 3 + N) 2 = 0 := by rw [wAddD33, zu_ne _ _ (by omega), zu_ne _ _ (by omega), zu_ne _ _ (by omega)]; exact zu_same _ _ _ _
  have v3 : wAddD33 σ N k 0 0 w (33 + 3 + N) 3 = w := by rw [wAddD33, zu_ne _ _ (by omega), zu_ne _ _ (by omega)]; exact zu_same _ _ _ _
  refine ⟨⟨by omega, ?_, ?_⟩, ⟨by decide, ?_, ?_⟩, ⟨by decide, ?_, ?_⟩, ?_, fun i hi => ?_, fun i hi => absurd hi (Nat.not_lt_zero i), fun i hi => absurd hi (Nat.not_lt_zero i)⟩
  · rw [wAddD33, zu_ne _ _ (by omega), zu_same]
  · rw [wLay122, zu_same]
  · rw [wAddD33, zu_ne _ _ (by omega), zu_ne _ _ (by omega), zu_ne _ _ (by omega), zu_ne _ _ (by omega), zu_ne _ _ (by omega), zu_ne _ _ (by omega)]; exact hB.2.1
  · rw [wLay122_o _ _ _ _ _ (by omega) (by decide)]; exact hB.2.2
  · rw [wAddD33, zu_same]; rfl
  · rw [wLay122_o _ _ _ _ _ (by omega) (by decide)]; exact hC.2.2
  · rw [wAddD33_ro _ _ _ _ _ (by omega) (by omega)]
    exact sR_q hS (fun j h1 h2 => wLay122_o _ _ _ _ _ (by omega) (by omega))
  · by_cases e : i = N
    · subst e
      refine ⟨⟨?_, ?_, ?_, ?_⟩, by rw [v0]; exact hk, by rw [v3]; exact hw⟩
      · rw [v0, wLay122, zu_ne _ _ (by omega), zu_ne _ _ (by omega), zu_ne _ _ (by omega), zu_ne _ _ (by omega), zu_same]
      · rw [v1, wLay122, zu_ne _ _ (by omega), zu_ne _ _ (by omega), zu_ne _ _ (by omega), zu_same]
      · rw [v2, wLay122, zu_ne _ _ (by omega), zu_ne _ _ (by omega), zu_same]
      · rw [v3, wLay122, zu_ne _ _ (by omega), zu_same]
    · rw [wAddD33_ro _ _ _ _ _ (by omega) (by omega)]
      exact dR_q (hD i (by omega)) (fun j hj => wLay122_o _ _ _ _ _ (by omega) (by omega))
theorem dep_rel {σ u : zS} {N q : Nat} {v : Int32} (h : hR σ 33 (u 122) N 0 0) : itR b n σ u (cDep σ b n q v N) (mDp2 u b n q N) := by
  have a1 := h.1.1
  unfold cDep mDp2
  by_cases hN : N = 6
  · subst hN
    rw [if_neg (by rw [h.1.2.1]; decide), if_pos (show u 122 0 = 6 from h.1.2.2)]
    exact itR_no
  · have hN6 : N < 6 := by omega
    rw [if_pos (by rw [h.1.2.1]; exact nI_lt hN6 (by decide)), if_neg (show ¬ u 122 0 = 6 from fun z => hN ((nI_eq (b := 6) (by omega) (by decide)).mp (h.1.2.2.symm.trans z)))]
    have hv : vI b n (tN b n q) (tV b n (tN b n q) v) := vI_tV
    cases hm : (mNm u b n (tN b n q) 0 5).1 with
    | false =>
      obtain ⟨e1, e2⟩ := num_n hv hm
      rw [e1, if_neg (show ¬ (0 : Int32) ≤ -1 by decide), if_neg (by decide)]
      exact itR_no
    | true =>
      obtain ⟨e1, e2, ⟨m1, hm1, em1⟩, e3, e4⟩ := num_y hv hm
      obtain ⟨j1, hj1, ej1⟩ := wIn_in (n := 5) (by decide) e3
      rw [e1, if_pos (show (0 : Int32) ≤ tV b n (tN b n q) v by rw [e2, em1]; exact Int32.not_lt.mp (nI_pos (by omega))), if_pos rfl]
      dsimp only
      have hv2 : vI b n (tN b n (tN b n q)) (tV b n (tN b n (tN b n q)) (tV b n (tN b n q) v)) := vI_tV
      cases hm2 : (mNm (zu u 123 0 (mV b n (tN b n q))) b n (tN b n (tN b n q)) 1 40).1 with
      | false =>
        obtain ⟨f1, f2⟩ := num_n hv2 hm2
        rw [f1, if_pos (show (-1 : Int32) < 0 by decide), if_neg (by decide)]
        exact ⟨fun z => Bool.noConfusion (show false = true from z.1), fun _ => ⟨rfl, rfl⟩, fun _ _ => rfl, fun k h1 h2 => zu_row _ _ h2⟩
      | true =>
        obtain ⟨f1, f2, ⟨m2, hm2', em2⟩, f3, f4⟩ := num_y hv2 hm2
        obtain ⟨j2, hj2, ej2⟩ := wIn_in (n := 40) (by decide) f3
        rw [f1, if_neg (show ¬ tV b n (tN b n (tN b n q)) (tV b n (tN b n q) v) < 0 by rw [f2, em2]; exact nI_pos (by omega)), if_pos rfl]
        dsimp only
        by_cases hk : tK b n (tN b n (tN b n (tN b n q))) = 3
        · rw [mk_y hk, if_neg (show ¬ true = false by decide)]
          refine ⟨fun _ => ⟨rfl, rfl, vI_tV, N + 1, ?_⟩, fun z => absurd ⟨rfl, hk⟩ z, fun k hk => wAddD33_ro _ _ _ _ _ (by omega) (by omega), fun k h1 h2 => ?_⟩
          · dsimp only
            rw [f2, e2]
            exact hR_addD33 (u := zu (zu u 123 0 (mV b n (tN b n q))) 123 1 (mV b n (tN b n (tN b n q)))) (by rw [zu_row _ _ (by decide), zu_row _ _ (by decide)]; exact h) hN6 ⟨j1, by omega, ej1⟩ ⟨j2, by omega, ej2⟩
          · dsimp only
            rw [wLay122_row _ _ _ _ _ _ h1, zu_row _ _ h2, zu_row _ _ h2]
        · rw [mk_n hk, if_pos rfl]
          refine ⟨fun z => absurd z.2 hk, fun _ => ⟨rfl, rfl⟩, fun _ _ => rfl, fun k h1 h2 => ?_⟩
          dsimp only
          rw [wLay122_row _ _ _ _ _ _ h1, zu_row _ _ h2, zu_row _ _ h2]
theorem tIs_x {q : Nat} (h : tIs b n q 0 = true) : tIs b n q 1 = false ∧ tIs b n q 2 = false ∧ tIs b n q 3 = false ∧ tIs b n q 4 = false := by
  unfold tIs at *
  simp only [Bool.and_eq_true, decide_eq_true_eq] at h
  have e : tE b n q - q = 5 := h.2.1
  refine ⟨?_, ?_, ?_, ?_⟩
  · rw [e, show decide (5 = zsL.getD 1 0) = false from rfl, Bool.false_and, Bool.and_false]
  · rw [e, show decide (5 = zsL.getD 2 0) = false from rfl, Bool.false_and, Bool.and_false]
  · rw [e, show decide (5 = zsL.getD 3 0) = false from rfl, Bool.false_and, Bool.and_false]
  · rw [e, show decide (5 = zsL.getD 4 0) = false from rfl, Bool.false_and, Bool.and_false]
theorem it_rel {σ u : zS} {N q : Nat} {v : Int32} (h150 : n ≤ 150) (hq : q ≤ n) (h : hR σ 33 (u 122) N 0 0) : itR b n σ u (cIt0 σ b n q v) (mIt u b n q) := by
  have a1 := h.1.1
  unfold cIt0 mIt
  by_cases h0 : tIs b n q 0 = true
  · obtain ⟨x1, x2, x3, x4⟩ := tIs_x h0
    rw [if_pos h0, if_neg (show ¬ tIs b n q 1 = true by rw [x1]; decide), if_neg (show ¬ tIs b n q 2 = true by rw [x2]; decide), if_neg (show ¬ tIs b n q 3 = true by rw [x3]; decide), if_neg (show ¬ tIs b n q 4 = true by rw [x4]; decide)]
    exact itR_no
  · rw [if_neg h0]
    by_cases h1 : tIs b n q 1 = true
    · rw [if_pos h1, if_pos h1, h.1.2.1, h.1.2.2, nI_clamp (show N < 2 ^ 31 by omega)]
      exact dep_rel h
    · rw [if_neg h1, if_neg h1]
      by_cases h2 : tIs b n q 2 = true
      · rw [if_pos h2, if_pos h2]; exact lea_rel h150 hq h 1 (Or.inl rfl)
      · rw [if_neg h2, if_neg h2]
        by_cases h3 : tIs b n q 3 = true
        · rw [if_pos h3, if_pos h3]; exact lea_rel h150 hq h 2 (Or.inr rfl)
        · rw [if_neg h3, if_neg h3]
          by_cases h4 : tIs b n q 4 = true
          · rw [if_pos h4, if_pos h4]; exact for_rel h150 hq h
          · rw [if_neg h4, if_neg h4]; exact itR_no
/-- what a reading of the class is against one of the model -/
def rdR (n i : Nat) (σ u : zS) (C : Int32 × zS × Nat × Int32) (D : Int32 × Bool × zS × Nat) : Prop := C.1 = D.1 ∧ (D.2.1 = true → (∃ m, 1 ≤ m ∧ m ≤ i ∧ C.1 = nI m) ∧ ∃ N, hR C.2.1 33 (D.2.2.1 122) N 0 0) ∧ (D.2.1 = false → ∃ q, q ≤ n ∧ C.1 = -10 - nI q) ∧ (∀ k, k < 33 ∨ 58 ≤ k → C.2.1 k = σ k) ∧ (∀ k, k ≠ 122 → k ≠ 123 → D.2.2.1 k = u k)
theorem lp_rel (h150 : n ≤ 150) : ∀ (f1 f2 i : Nat) (σ u : zS) (q : Nat) (v : Int32), n - q ≤ f1 → n - q ≤ f2 → 1 ≤ i → mI u b n q → vI b n q v → (∃ N, hR σ 33 (u 122) N 0 0) → rdR n (i + f1) σ u (cLp b n f1 i σ q v) (mLp b n f2 i u q) := by
  intro f1
  induction f1 with
  | zero =>
    intro f2 i σ u q v h1 h2 hi hI hv h
    have e : mLp b n f2 i u q = (nI i, true, u, q) := by
      cases f2 with
      | zero => rfl
      | succ f2 => rw [mLp, if_pos (tK_n (by omega))]
    rw [e, cLp]
    exact ⟨rfl, fun _ => ⟨⟨i, hi, by omega, rfl⟩, h⟩, fun z => Bool.noConfusion (show true = false from z), fun _ _ => rfl, fun _ _ _ => rfl⟩
  | succ f1 ih =>
    intro f2 i σ u q v h1 h2 hi hI hv h
    by_cases hk : tK b n q = 0
    · have e : mLp b n f2 i u q = (nI i, true, u, q) := by
        cases f2 with
        | zero => rfl
        | succ f2 => rw [mLp, if_pos hk]
      rw [e, cLp, if_pos hk]
      exact ⟨rfl, fun _ => ⟨⟨i, hi, by omega, rfl⟩, h⟩, fun z => Bool.noConfusion (show true = false from z), fun _ _ => rfl, fun _ _ _ => rfl⟩
    · have hqn : q < n := Classical.byContradiction fun z => hk (tK_n (by omega))
      obtain ⟨f2, rfl⟩ : ∃ g, f2 = g + 1 := ⟨f2 - 1, by omega⟩
      obtain ⟨N, h⟩ := h
      obtain ⟨r1, r2, r3, r4⟩ := it_rel (b := b) (n := n) (q := q) (v := v) h150 (by omega) h
      obtain ⟨m1, m2⟩ := mIt_I hI
      rw [cLp, if_neg hk, mLp, if_neg hk]
      by_cases ok : (mIt u b n q).1 = true ∧ tK b n (mIt u b n q).2.2 = 3
      · obtain ⟨c1, c2, c3, c4⟩ := r1 ok
        have hq2 : (mIt u b n q).2.2 < n := Classical.byContradiction fun z => by
          have := ok.2
          rw [tK_n (by omega)] at this
          exact absurd this (by decide)
        have hq4 := tN_gt (b := b) hq2
        rw [if_neg (by rw [c1]; decide), if_pos ok]
        have hrec := ih f2 (i + 1) (cIt0 σ b n q v).2.1 (mIt u b n q).2.1 (cIt0 σ b n q v).2.2.1 (cIt0 σ b n q v).2.2.2 (by rw [c2]; omega) (by rw [c2]; omega) (by omega) (by rw [c2]; exact mI_q m1 (tN_le m1.2.2.1)) c3 c4
        rw [c2] at hrec ⊢
        obtain ⟨g1, g2, g3, g4, g5⟩ := hrec
        refine ⟨g1, fun z => ?_, g3, fun k hk => (g4 k hk).trans (r3 k hk), fun k h1 h2 => (g5 k h1 h2).trans (r4 k h1 h2)⟩
        obtain ⟨⟨m, y1, y2, y3⟩, y4⟩ := g2 z
        exact ⟨⟨m, y1, by omega, y3⟩, y4⟩
      · obtain ⟨c1, c2⟩ := r2 ok
        rw [if_pos c1, if_neg ok]
        refine ⟨by rw [c2], fun z => Bool.noConfusion (show false = true from z), fun _ => ⟨(mIt u b n q).2.2, m1.2.2.1, by rw [c2]⟩, r3, r4⟩
theorem mHou_le {u : zS} {q : Nat} (hq : q ≤ n) : (mHou u b n q).2.2 ≤ n := by
  unfold mHou
  split
  · split
    · exact tN_le (tN_le hq)
    · exact tN_le hq
  · exact hq
theorem day_rel {s u : zS} {q : Nat} {v : Int32} : ((mHou u b n q).1 = true → (cIt1 (wStart33 s 0) b n q v).1 = true ∧ (cIt1 (wStart33 s 0) b n q v).2.2.1 = tN b n (mHou u b n q).2.2 ∧ vI b n (cIt1 (wStart33 s 0) b n q v).2.2.1 (cIt1 (wStart33 s 0) b n q v).2.2.2 ∧ ∃ N, hR (cIt1 (wStart33 s 0) b n q v).2.1 33 ((mHou u b n q).2.1 122) N 0 0) ∧ ((mHou u b n q).1 = false → (cIt1 (wStart33 s 0) b n q v).1 = false ∧ (cIt1 (wStart33 s 0) b n q v).2.2.1 = (mHou u b n q).2.2) ∧ (∀ k, k < 33 ∨ 58 ≤ k → (cIt1 (wStart33 s 0) b n q v).2.1 k = s k) ∧ (∀ k, k ≠ 122 → k ≠ 123 → (mHou u b n q).2.1 k = u k) := by
  have w33 : ∀ k, k < 33 ∨ 58 ≤ k → wStart33 s 0 k = s k := fun k hk => wStart33_row _ _ (by omega) (by omega)
  unfold cIt1 mHou
  cases h0 : tIs b n q 0 with
  | false =>
    rw [if_neg (by decide), if_neg (by decide)]
    exact ⟨fun z => Bool.noConfusion (show false = true from z), fun _ => ⟨rfl, rfl⟩, w33, fun _ _ _ => rfl⟩
  | true =>
    rw [if_pos rfl, if_pos rfl]
    unfold cDay
    have hv : vI b n (tN b n q) (tV b n (tN b n q) v) := vI_tV
    cases hm : (mNm u b n (tN b n q) 0 99).1 with
    | false =>
      obtain ⟨e1, e2⟩ := num_n hv hm
      rw [e1, if_pos (show (-1 : Int32) < 0 by decide), if_neg (by decide)]
      exact ⟨fun z => Bool.noConfusion (show false = true from z), fun _ => ⟨rfl, rfl⟩, fun k hk => (zu_row _ _ (by omega)).trans (w33 k hk), fun _ _ _ => rfl⟩
    | true =>
      obtain ⟨e1, e2, ⟨m, hm1, em⟩, e3, e4⟩ := num_y hv hm
      rw [e1, if_neg (show ¬ tV b n (tN b n q) v < 0 by rw [e2, em]; exact nI_pos (by omega)), if_pos rfl]
      dsimp only
      have hbeg : ∀ k, k ≠ 122 → k ≠ 123 → wBeg (zu u 123 0 (mV b n (tN b n q))) 122 (mV b n (tN b n q)) k = u k := fun k h1 h2 => by rw [wBeg_row _ _ _ h1, zu_row _ _ h2]
      have hcl : ∀ k, k < 33 ∨ 58 ≤ k → zu (wStart33 s 0) 34 0 (tV b n (tN b n q) v) k = s k := fun k hk => (zu_row _ _ (by omega)).trans (w33 k hk)
      by_cases hk : tK b n (tN b n (tN b n q)) = 3
      · rw [mk_y hk, decide_eq_true hk]
        refine ⟨fun _ => ⟨rfl, rfl, vI_tV, 0, ?_⟩, fun z => Bool.noConfusion (show true = false from z), hcl, hbeg⟩
        rw [e2]
        refine ⟨⟨by decide, ?_, ?_⟩, ⟨by decide, ?_, ?_⟩, ⟨by decide, ?_, ?_⟩, ?_, fun i hi => absurd hi (Nat.not_lt_zero i), fun i hi => absurd hi (Nat.not_lt_zero i), fun i hi => absurd hi (Nat.not_lt_zero i)⟩
        · simp [wStart33, zu]; rfl
        · simp [wBeg, wZero, zu]; rfl
        · simp [wStart33, zu]; rfl
        · simp [wBeg, wZero, zu]; rfl
        · simp [wStart33, zu]; rfl
        · simp [wBeg, wZero, zu]; rfl
        · refine ⟨?_, ?_, ?_, ?_, ?_, ?_, ?_, ?_, ?_, ?_⟩ <;> simp [wStart33, wBeg, wZero, zu, r8_0]
      · rw [mk_n hk, decide_eq_false hk]
        exact ⟨fun z => Bool.noConfusion (show false = true from z), fun _ => ⟨rfl, rfl⟩, hcl, hbeg⟩
theorem rd_rel (h150 : n ≤ 150) (s u : zS) (hb : u 121 = b) (hn : u 113 12 = nI n) : rdR n 151 s u (cRF s b n) (mRd u b n) := by
  have hq0 : tA b n 0 ≤ n := tA_le (Nat.zero_le _)
  obtain ⟨d1, d2, d3, d4⟩ := day_rel (b := b) (n := n) (s := s) (u := u) (q := tA b n 0) (v := tV b n (tA b n 0) (s 111 5))
  unfold cRF mRd
  cases hm : (mHou u b n (tA b n 0)).1 with
  | false =>
    obtain ⟨c1, c2⟩ := d2 hm
    rw [if_pos c1, if_neg (by decide)]
    exact ⟨by rw [c2], fun z => Bool.noConfusion (show false = true from z), fun _ => ⟨_, mHou_le hq0, by rw [c2]⟩, d3, d4⟩
  | true =>
    obtain ⟨c1, c2, c3, c4⟩ := d1 hm
    have hI := mHou_I hb hn hq0 hm
    rw [if_neg (by rw [c1]; decide), if_pos rfl]
    have hrec := lp_rel h150 150 n 1 (cIt1 (wStart33 s 0) b n (tA b n 0) (tV b n (tA b n 0) (s 111 5))).2.1 (mHou u b n (tA b n 0)).2.1 (cIt1 (wStart33 s 0) b n (tA b n 0) (tV b n (tA b n 0) (s 111 5))).2.2.1 (cIt1 (wStart33 s 0) b n (tA b n 0) (tV b n (tA b n 0) (s 111 5))).2.2.2 (by omega) (by omega) (by decide) (by rw [c2]; exact mI_q hI (tN_le hI.2.2.1)) c3 c4
    rw [c2] at hrec ⊢
    obtain ⟨g1, g2, g3, g4, g5⟩ := hrec
    exact ⟨g1, g2, g3, fun k hk => (g4 k hk).trans (d3 k hk), fun k h1 h2 => (g5 k h1 h2).trans (d4 k h1 h2)⟩
end KS
