section KR
variable {b : Nat → Int32} {n : Nat}
theorem tRun_in (lo hi : Int32) : ∀ (f i k : Nat), i ≤ k → k < tRun b lo hi f i → ¬ b k < lo ∧ ¬ hi < b k := by
  intro f
  induction f with
  | zero => intro i k h1 h2; rw [tRun] at h2; omega
  | succ f ih =>
    intro i k h1 h2
    rw [tRun] at h2
    split at h2
    · next g =>
      by_cases e : k = i
      · subst e; exact g
      · exact ih (i + 1) k (by omega) h2
    · omega
theorem tEnd_in {lo hi : Int32} {i k : Nat} (h1 : i ≤ k) (h2 : k < tEnd b n lo hi i) : ¬ b k < lo ∧ ¬ hi < b k := tRun_in lo hi _ i k h1 h2
theorem fig_N {x : Int32} (h : ¬ x < 48 ∧ ¬ 57 < x) : ∃ m, m < 10 ∧ x = nI (48 + m) := by
  obtain ⟨h1, h2⟩ := h
  rw [Int32.lt_iff_toInt_lt] at h1 h2
  have e1 : (48 : Int32).toInt = 48 := by decide
  have e2 : (57 : Int32).toInt = 57 := by decide
  rw [e1] at h1
  rw [e2] at h2
  have h0 : ¬ x < 0 := by
    rw [Int32.lt_iff_toInt_lt]
    show ¬ x.toInt < 0
    omega
  obtain ⟨j, hj, e⟩ := nI_of h0
  subst e
  rw [nI_toInt hj] at h1 h2
  exact ⟨j - 48, by omega, congrArg nI (by omega)⟩
theorem tK_2 {q : Nat} (h : tK b n q = 2) : q < n ∧ ¬ q < tEnd b n 97 122 q ∧ q < tEnd b n 48 57 q ∧ tEnd b n 48 57 q - q ≤ 2 := by
  unfold tK at h
  split at h
  · exact absurd h (by decide)
  · next g1 =>
    split at h
    · exact absurd h (by decide)
    · next g2 =>
      split at h
      · next g3 =>
        split at h
        · next g4 => exact ⟨by omega, g2, g3, g4⟩
        · exact absurd h (by decide)
      · split at h
        · exact absurd h (by decide)
        · exact absurd h (by decide)
theorem num_1 : ∀ m, m < 10 → (10 : Int32) * 0 + nI (48 + m) - 48 = nI m := by decide +kernel
theorem num_2 : ∀ m, m < 10 → ∀ k, k < 10 → (10 : Int32) * nI m + nI (48 + k) - 48 = nI (10 * m + k) := by decide +kernel
theorem mV_N {q : Nat} (h : tK b n q = 2) : (∃ m, m < 100 ∧ mV b n q = nI m) ∧ ∀ v, tV b n q v = mV b n q := by
  obtain ⟨h1, h2, h3, h4⟩ := tK_2 h
  have e1 : mV b n q = tNum b q (tEnd b n 48 57 q - q) := by
    rw [mV, if_neg (by omega), if_neg h2, if_pos h3]
    congr 1
    omega
  refine ⟨?_, fun v => ?_⟩
  · rw [e1]
    obtain ⟨m, hm, em⟩ := fig_N (tEnd_in (Nat.le_refl q) h3)
    rcases (show tEnd b n 48 57 q - q = 1 ∨ tEnd b n 48 57 q - q = 2 by omega) with e | e
    · rw [e]
      refine ⟨m, by omega, ?_⟩
      show (10 : Int32) * 0 + b (q + 0) - 48 = nI m
      rw [Nat.add_zero, em]
      exact num_1 m hm
    · rw [e]
      obtain ⟨k, hk, ek⟩ := fig_N (tEnd_in (b := b) (n := n) (i := q) (k := q + 1) (by omega) (by omega))
      refine ⟨10 * m + k, by omega, ?_⟩
      show (10 : Int32) * ((10 : Int32) * 0 + b (q + 0) - 48) + b (q + 1) - 48 = nI (10 * m + k)
      rw [Nat.add_zero, em, ek, num_1 m hm]
      exact num_2 m hm k hk
  · rw [e1, tV, if_neg (by omega), if_neg h2, if_pos h3]
/-- the class's value is the model's wherever a number stands -/
def vI (b : Nat → Int32) (n q : Nat) (v : Int32) : Prop := tK b n q = 2 → v = mV b n q
theorem vI_tV {q : Nat} {v : Int32} : vI b n q (tV b n q v) := fun h => (mV_N h).2 v
theorem num_y {s : zS} {q k : Nat} {v up : Int32} (hv : vI b n q v) (h : (mNm s b n q k up).1 = true) : cNum b n q v up = (v, tN b n q, tV b n (tN b n q) v) ∧ v = mV b n q ∧ (∃ m, m < 100 ∧ mV b n q = nI m) ∧ wIn (mV b n q) up = true ∧ mNm s b n q k up = (true, zu s 123 k (mV b n q), tN b n q) := by
  obtain ⟨g, e⟩ := mNm_t h
  have ev := hv g.1
  refine ⟨?_, ev, (mV_N g.1).1, g.2, e⟩
  have hle : v ≤ up := by
    rw [ev]
    exact Int32.not_lt.mp (of_decide_eq_true g.2).2
  rw [cNum, if_pos ⟨g.1, hle⟩]
theorem num_n {s : zS} {q k : Nat} {v up : Int32} (hv : vI b n q v) (h : (mNm s b n q k up).1 = false) : cNum b n q v up = (-1, q, v) ∧ mNm s b n q k up = (false, s, q) := by
  obtain ⟨g, e⟩ := mNm_f h
  refine ⟨?_, e⟩
  rw [cNum, if_neg]
  intro z
  apply g
  refine ⟨z.1, ?_⟩
  obtain ⟨m, hm, em⟩ := (mV_N z.1).1
  have ev := hv z.1
  refine decide_eq_true ⟨?_, ?_⟩
  · rw [em]; exact nI_pos (by omega)
  · rw [← ev]; exact Int32.not_lt.mpr z.2
theorem tK_n {q : Nat} (h : n ≤ q) : tK b n q = 0 := by rw [tK, if_pos h]
theorem wIn7_all : ∀ m, m < 100 → (wIn (nI m) 7 = true ↔ ¬ (8 : Int32) ≤ nI m) ∧ (wIn (nI m) 7 = true → m < 8) := by decide +kernel
theorem laws_rel : ∀ (f1 f2 q : Nat) (v a : Int32) (s : zS), q ≤ n → n - q ≤ f1 → n - q ≤ f2 → vI b n q v → r8 a → (tLaws b n f1 q v a).2.1 = (mLw b n f2 q a s).2.2.2 ∧ vI b n (tLaws b n f1 q v a).2.1 (tLaws b n f1 q v a).2.2 ∧ r8 (tLaws b n f1 q v a).1 ∧ ((mLw b n f2 q a s).1 = true → (tLaws b n f1 q v a).1 = (mLw b n f2 q a s).2.1) ∧ ((mLw b n f2 q a s).1 = false → tK b n (mLw b n f2 q a s).2.2.2 = 2) := by
  intro f1
  induction f1 with
  | zero =>
    intro f2 q v a s hq h1 h2 hv hr
    have hk : ¬ tK b n q = 2 := by rw [tK_n (by omega)]; decide
    have e : mLw b n f2 q a s = (true, a, s, q) := by
      cases f2 with
      | zero => rfl
      | succ f2 => rw [mLw, if_neg hk]
    rw [e, tLaws]
    exact ⟨rfl, hv, hr, fun _ => rfl, fun z => Bool.noConfusion (show true = false from z)⟩
  | succ f1 ih =>
    intro f2 q v a s hq h1 h2 hv hr
    by_cases hk : tK b n q = 2
    · obtain ⟨hqn, -⟩ := tK_2 hk
      obtain ⟨m, hm, em⟩ := (mV_N hk).1
      have ev := hv hk
      obtain ⟨f2, rfl⟩ : ∃ g, f2 = g + 1 := ⟨f2 - 1, by omega⟩
      by_cases h8 : wIn (mV b n q) 7 = true
      · have h9 : ¬ (8 : Int32) ≤ v := by rw [ev, em]; rw [em] at h8; exact (wIn7_all m hm).1.mp h8
        have hm8 : m < 8 := by rw [em] at h8; exact (wIn7_all m hm).2 h8
        have eb : wBit v = (1 : Int32) <<< (mV b n q &&& 31) := by rw [ev, em, wBit_nI (by omega)]
        have hgt := tN_gt (b := b) hqn
        rw [tLaws, if_pos ⟨hk, h9⟩, mLw, if_pos hk, if_pos h8, ← eb]
        refine ih f2 _ _ _ _ (tN_le hq) (by omega) (by omega) vI_tV (r8_or hr ?_)
        rw [ev, em]
        exact wBit_r hm8
      · have h9 : ¬ (tK b n q = 2 ∧ ¬ (8 : Int32) ≤ v) := by
          intro z
          apply h8
          rw [em]
          refine (wIn7_all m hm).1.mpr ?_
          rw [← em, ← ev]
          exact z.2
        rw [tLaws, if_neg h9, mLw, if_pos hk, if_neg h8]
        exact ⟨rfl, hv, hr, fun z => Bool.noConfusion (show false = true from z), fun _ => hk⟩
    · have e : mLw b n f2 q a s = (true, a, s, q) := by
        cases f2 with
        | zero => rfl
        | succ f2 => rw [mLw, if_neg hk]
      rw [e, tLaws, if_neg (fun z => hk z.1)]
      exact ⟨rfl, hv, hr, fun _ => rfl, fun z => Bool.noConfusion (show true = false from z)⟩
theorem mk_y {q : Nat} {v : Int32} (h : tK b n q = 3) : cMk b n q v = (true, tN b n q, tV b n (tN b n q) v) := by rw [cMk, if_pos h]
theorem mk_n {q : Nat} {v : Int32} (h : ¬ tK b n q = 3) : cMk b n q v = (false, q, v) := by rw [cMk, if_neg h]
/-- what an item of the class is against one of the model -/
def itR (b : Nat → Int32) (n : Nat) (σ u : zS) (C : cR) (D : Bool × zS × Nat) : Prop := (D.1 = true ∧ tK b n D.2.2 = 3 → C.1 = true ∧ C.2.2.1 = tN b n D.2.2 ∧ vI b n C.2.2.1 C.2.2.2 ∧ ∃ N, hR C.2.1 33 (D.2.1 122) N 0 0) ∧ (¬ (D.1 = true ∧ tK b n D.2.2 = 3) → C.1 = false ∧ C.2.2.1 = D.2.2) ∧ (∀ k, k < 33 ∨ 58 ≤ k → C.2.1 k = σ k) ∧ (∀ k, k ≠ 122 → k ≠ 123 → D.2.1 k = u k)
theorem itR_no {σ u : zS} {q : Nat} {v : Int32} : itR b n σ u (false, σ, q, v) (false, u, q) := ⟨fun z => Bool.noConfusion (show false = true from z.1), fun _ => ⟨rfl, rfl⟩, fun _ _ => rfl, fun _ _ _ => rfl⟩
theorem hR_33q {σ : zS} {q q2 : Nat → Int32} {N : Nat} (h : hR σ 33 q N 0 0) (e : ∀ j, j < 57 → q2 j = q j) : hR σ 33 q2 N 0 0 := by
  obtain ⟨hA, hB, hC, hS, hD, hNt, hP⟩ := h
  have a1 := hA.1
  refine ⟨by rw [e 0 (by decide)]; exact hA, by rw [e 7 (by decide)]; exact hB, by rw [e 8 (by decide)]; exact hC, sR_q hS (fun j h1 h2 => e _ (by omega)), fun i hi => dR_q (hD i hi) (fun j hj => e _ (by omega)), fun i hi => absurd hi (Nat.not_lt_zero i), fun i hi => absurd hi (Nat.not_lt_zero i)⟩
theorem for_rel {σ u : zS} {N q : Nat} {v : Int32} (h150 : n ≤ 150) (hq : q ≤ n) (h : hR σ 33 (u 122) N 0 0) : itR b n σ u (cFor σ b n q v) (mFo u b n q) := by
  obtain ⟨l1, l2, l3, l4, l5⟩ := laws_rel (b := b) (n := n) 150 (n - tN b n q) (tN b n q) (tV b n (tN b n q) v) 0 u (tN_le hq) (by omega) (Nat.le_refl _) vI_tV r8_0
  have hrow : ∀ k, k ≠ 123 → (mLw b n (n - tN b n q) (tN b n q) 0 u).2.2.1 k = u k := fun k hk => mLw_row b n hk _ _ _ _
  unfold cFor mFo
  generalize tLaws b n 150 (tN b n q) (tV b n (tN b n q) v) 0 = T at l1 l2 l3 l4 l5 ⊢
  generalize mLw b n (n - tN b n q) (tN b n q) 0 u = W at l1 l2 l3 l4 l5 hrow ⊢
  refine ⟨fun z => ?_, fun z => ?_, fun k hk => zu_row _ _ (by omega), fun k h1 h2 => ?_⟩
  · obtain ⟨z1, z2⟩ := z
    dsimp only at z1 z2 ⊢
    rw [mk_y (by rw [l1]; exact z2), if_pos z1]
    refine ⟨rfl, by rw [l1], vI_tV, N, ?_⟩
    refine hR_sit h (fun k h1 h2 h3 => zu_row _ _ (by omega)) (fun j hj => by rw [zu_ne _ _ (by omega), hrow 122 (by decide)]) ?_
    obtain ⟨h0, h1, h2, h3, h4, h5, r1, r2, r3, r4⟩ := h.2.2.2.1
    refine ⟨?_, ?_, ?_, ?_, ?_, ?_, ?_, ?_, ?_, ?_⟩
    · rw [zu_ne _ _ (by omega), zu_ne _ _ (by omega), hrow 122 (by decide)]; exact h0
    · rw [zu_ne _ _ (by omega), zu_ne _ _ (by omega), hrow 122 (by decide)]; exact h1
    · show zu _ 34 2 _ 34 2 = zu _ 122 2 _ 122 2
      rw [zu_same, zu_same, l4 z1]
    · rw [zu_ne _ _ (by omega), zu_ne _ _ (by omega), hrow 122 (by decide)]; exact h3
    · rw [zu_ne _ _ (by omega), zu_ne _ _ (by omega), hrow 122 (by decide)]; exact h4
    · rw [zu_ne _ _ (by omega), zu_ne _ _ (by omega), hrow 122 (by decide)]; exact h5
    · rw [zu_ne _ _ (by omega)]; exact r1
    · show r8 (zu _ 34 2 _ 34 2)
      rw [zu_same]; exact l3
    · rw [zu_ne _ _ (by omega)]; exact r3
    · rw [zu_ne _ _ (by omega)]; exact r4
  · dsimp only at z ⊢
    have h3 : ¬ tK b n T.2.1 = 3 := by
      rw [l1]
      intro y
      cases hW : W.1 with
      | true => exact z ⟨hW, y⟩
      | false => rw [l5 hW] at y; exact absurd y (by decide)
    rw [mk_n h3]
    exact ⟨rfl, l1⟩
  · dsimp only
    split
    · rw [zu_row _ _ h1, hrow k h2]
    · exact hrow k h2
theorem lea_rel {σ u : zS} {N q : Nat} {v : Int32} (h150 : n ≤ 150) (hq : q ≤ n) (h : hR σ 33 (u 122) N 0 0) (w : Nat) (hw : w = 1 ∨ w = 2) : itR b n σ u (cLea σ b n q v w) (mMi u b n q w) := by
  obtain ⟨hA, hB, hC, hS, hD, -, -⟩ := h
  have a1 := hA.1
  have eN : σ 33 4 = u 122 0 := hA.2.1.trans hA.2.2.symm
  have hv : vI b n (tN b n q) (tV b n (tN b n q) v) := vI_tV
  unfold cLea mMi
  rw [eN]
  cases hm : (mNm u b n (tN b n q) 0 (u 122 0 - 1)).1 with
  | false =>
    obtain ⟨e1, e2⟩ := num_n hv hm
    rw [e1, if_pos (Or.inl (show (-1 : Int32) < 0 by decide)), if_neg (by decide)]
    exact itR_no
  | true =>
    obtain ⟨e1, e2, -, e3, e4⟩ := num_y hv hm
    obtain ⟨d, hd, ed⟩ := wIn_dep (N := N) (by rw [← hA.2.2]; exact e3) a1
    rw [e1]
    dsimp only
    rw [e2, ed, nI_clamp (show d < 2 ^ 31 by omega), if_neg (by
      rw [hA.2.2]
      intro z
      rcases z with z | z
      · exact nI_pos (by omega) z
      · exact nI_ge hd (by omega) z), if_pos rfl]
    obtain ⟨l1, l2, l3, l4, l5⟩ := laws_rel (b := b) (n := n) 150 (n - tN b n (tN b n q)) (tN b n (tN b n q)) (tV b n (tN b n (tN b n q)) (nI d)) 0 (zu u 123 0 (nI d)) (tN_le (tN_le hq)) (by omega) (Nat.le_refl _) vI_tV r8_0
    have hrow : ∀ k, k ≠ 123 → (mLw b n (n - tN b n (tN b n q)) (tN b n (tN b n q)) 0 (zu u 123 0 (nI d))).2.2.1 k = u k := fun k hk => (mLw_row b n hk _ _ _ _).trans (zu_row _ _ hk)
    generalize tLaws b n 150 (tN b n (tN b n q)) (tV b n (tN b n (tN b n q)) (nI d)) 0 = T at l1 l2 l3 l4 l5 ⊢
    generalize mLw b n (n - tN b n (tN b n q)) (tN b n (tN b n q)) 0 (zu u 123 0 (nI d)) = W at l1 l2 l3 l4 l5 hrow ⊢
    refine ⟨fun z => ?_, fun z => ?_, fun k hk => zu_row _ _ (by omega), fun k h1 h2 => ?_⟩
    · obtain ⟨z1, z2⟩ := z
      dsimp only at z1 z2 ⊢
      rw [mk_y (by rw [l1]; exact z2), if_pos z1]
      refine ⟨rfl, by rw [l1], vI_tV, N, ⟨a1, ?_, ?_⟩, ⟨by decide, ?_, ?_⟩, ⟨by decide, ?_, ?_⟩, ?_, fun i hi => ?_, fun i hi => absurd hi (Nat.not_lt_zero i), fun i hi => absurd hi (Nat.not_lt_zero i)⟩
      · rw [zu_row _ _ (by omega)]; exact hA.2.1
      · rw [zu_ne _ _ (by omega), hrow 122 (by decide)]; exact hA.2.2
      · rw [zu_row _ _ (by omega)]; exact hB.2.1
      · rw [zu_ne _ _ (by omega), hrow 122 (by decide)]; exact hB.2.2
      · rw [zu_row _ _ (by omega)]; exact hC.2.1
      · rw [zu_ne _ _ (by omega), hrow 122 (by decide)]; exact hC.2.2
      · rw [zu_row _ _ (by omega)]
        exact sR_q hS (fun j h1 h2 => by rw [zu_ne _ _ (by omega), hrow 122 (by decide)])
      · by_cases ei : i = d
        · subst ei
          obtain ⟨⟨h0, h1, h2, h3⟩, hk, hp⟩ := hD i hi
          have o1 : ∀ j, j ≠ w → zu σ (36 + i) w T.1 (33 + 3 + i) j = σ (33 + 3 + i) j := fun j hj => zu_ne _ _ (by omega)
          have o2 : ∀ j, j < 4 → j ≠ w → zu W.2.2.1 122 (9 + 4 * i + w) W.2.1 122 (9 + 4 * i + j) = u 122 (9 + 4 * i + j) := fun j h4 hj => by rw [zu_ne _ _ (by omega), hrow 122 (by decide)]
          have o3 : zu σ (36 + i) w T.1 (33 + 3 + i) w = zu W.2.2.1 122 (9 + 4 * i + w) W.2.1 122 (9 + 4 * i + w) := by rw [zu_same, ← l4 z1]; exact (zu_same _ _ _ _).symm
          rcases hw with rfl | rfl
          · refine ⟨⟨?_, o3, ?_, ?_⟩, by rw [o1 0 (by decide)]; exact hk, by rw [o1 3 (by decide)]; exact hp⟩
            · rw [o1 0 (by decide), o2 0 (by decide) (by decide)]; exact h0
            · rw [o1 2 (by decide), o2 2 (by decide) (by decide)]; exact h2
            · rw [o1 3 (by decide), o2 3 (by decide) (by decide)]; exact h3
          · refine ⟨⟨?_, ?_, o3, ?_⟩, by rw [o1 0 (by decide)]; exact hk, by rw [o1 3 (by decide)]; exact hp⟩
            · rw [o1 0 (by decide), o2 0 (by decide) (by decide)]; exact h0
            · rw [o1 1 (by decide), o2 1 (by decide) (by decide)]; exact h1
            · rw [o1 3 (by decide), o2 3 (by decide) (by decide)]; exact h3
        · rw [zu_row _ _ (by omega)]
          exact dR_q (hD i hi) (fun j hj => by rw [zu_ne _ _ (by omega), hrow 122 (by decide)])
    · dsimp only at z ⊢
      have h3 : ¬ tK b n T.2.1 = 3 := by
        rw [l1]
        intro y
        cases hW : W.1 with
        | true => exact z ⟨hW, y⟩
        | false => rw [l5 hW] at y; exact absurd y (by decide)
      rw [mk_n h3]
      exact ⟨rfl, l1⟩
    · dsimp only
      split
      · rw [zu_row _ _ h1, hrow k h2]
      · exact hrow k h2
end KR
