section KB
variable {l : Launch} {B : zB} {s : zS} {t : zL}
theorem wFind_skip {ok : Nat → Bool} : ∀ (m f j : Nat), (∀ i, j ≤ i → i < j + m → ok i = false) → wFind ok (m + f) j = wFind ok f (j + m) := by
  intro m
  induction m with
  | zero => intro f j _; rw [Nat.zero_add, Nat.add_zero]
  | succ m ih =>
    intro f j h
    rw [show m + 1 + f = (m + f) + 1 by omega, wFind, if_neg (by rw [h j (by omega) (by omega)]; decide), ih f (j + 1) (fun i h1 h2 => h i (by omega) (by omega))]
    congr 1
    omega
def lowN (n : Nat) : Nat := n - (n &&& (n - 1))
theorem low_all : ∀ n, n < 256 → 1 ≤ n → (nI n &&& (-nI n) = nI (lowN n)) ∧ lowN n ≤ n ∧ (lowN n = 1 ∨ lowN n = 2 ∨ lowN n = 4 ∨ lowN n = 8 ∨ lowN n = 16 ∨ lowN n = 32 ∨ lowN n = 64 ∨ lowN n = 128) := by decide +kernel
theorem lo_1 : ∀ j, j < 1 → nI j &&& 1 = 0 := by decide +kernel
theorem lo_2 : ∀ j, j < 2 → nI j &&& 2 = 0 := by decide +kernel
theorem lo_4 : ∀ j, j < 4 → nI j &&& 4 = 0 := by decide +kernel
theorem lo_8 : ∀ j, j < 8 → nI j &&& 8 = 0 := by decide +kernel
theorem lo_16 : ∀ j, j < 16 → nI j &&& 16 = 0 := by decide +kernel
theorem lo_32 : ∀ j, j < 32 → nI j &&& 32 = 0 := by decide +kernel
theorem lo_64 : ∀ j, j < 64 → nI j &&& 64 = 0 := by decide +kernel
theorem lo_128 : ∀ j, j < 128 → nI j &&& 128 = 0 := by decide +kernel
theorem low_j {n j : Nat} (h : n < 256) (h1 : 1 ≤ n) (hj : j < lowN n) : nI j &&& nI (lowN n) = 0 := by
  rcases (low_all n h h1).2.2 with e | e | e | e | e | e | e | e <;> rw [e] at hj ⊢
  · exact lo_1 j hj
  · exact lo_2 j hj
  · exact lo_4 j hj
  · exact lo_8 j hj
  · exact lo_16 j hj
  · exact lo_32 j hj
  · exact lo_64 j hj
  · exact lo_128 j hj
theorem k_tied (hJ : jI s t) (b : Int32) : kI l B s t mX11_tied mX12_tied [.int b] := by
  obtain ⟨N, M, p, h⟩ := hJ.1
  by_cases hb : wIn b 255 = true ∧ 2 ≤ wPop b
  · obtain ⟨g1, g2⟩ := hb
    obtain ⟨n, hn, rfl⟩ := wIn_in (n := 255) (by decide) g1
    have h1 : 1 ≤ n := by
      apply Classical.byContradiction
      intro z
      obtain rfl : n = 0 := by omega
      exact absurd g2 (by decide)
    obtain ⟨e1, e2, e3⟩ := low_all n (by omega) h1
    have e4 : 1 ≤ lowN n := by omega
    refine kI_q hJ (c_X11_tied_ok l B s t _ g1 g2 (lowN n) e1 n (by omega) rfl e2 N (j_N h) (j_6 h) (j_K h)) (c_X12_tied_ok l B s t N (j_mOk h) _ g1 g2 n (by omega) h1 rfl) ?_ jQ.hand
    simp only [j_who h]
    rw [show n - 1 = (lowN n - 1) + (n - lowN n) by omega, wFind_skip, show 1 + (lowN n - 1) = lowN n by omega]
    intro i hi1 hi2
    have e5 : nI i &&& (nI n &&& (-nI n)) = 0 := by rw [e1]; exact low_j (by omega) h1 (by omega)
    simp [e5]
  · have hb2 : wIn b 255 = true → ¬ 2 ≤ wPop b := fun g1 g2 => hb ⟨g1, g2⟩
    exact kI_bad hJ (c_X11_tied_bad l B s t b hb2) (c_X12_tied_bad l B _ t b hb2)
/-! bits -/
theorem and_or (x y m : Int32) : (x ||| y) &&& m = (x &&& m) ||| (y &&& m) := by
  apply Int32.toBitVec_inj.mp
  simp only [Int32.toBitVec_and, Int32.toBitVec_or]
  exact BitVec.and_or_distrib_right
theorem or_0 {x y : Int32} : x ||| y = 0 ↔ x = 0 ∧ y = 0 := by
  rw [← Int32.toBitVec_inj, ← Int32.toBitVec_inj, ← Int32.toBitVec_inj, Int32.toBitVec_or]
  exact BitVec.or_eq_zero_iff
theorem bit_ne : ∀ n, n < 8 → ∀ i, i < 8 → ¬ n = i → wBit (nI n) &&& (wBit (nI i) ^^^ (-1)) = wBit (nI n) ∧ wBit (nI i) &&& wBit (nI n) = 0 := by decide +kernel
theorem bit_eq : ∀ n, n < 8 → wBit (nI n) &&& (wBit (nI n) ^^^ (-1)) = 0 ∧ ¬ wBit (nI n) &&& wBit (nI n) = 0 := by decide +kernel
theorem wWho_sil {K L H : Nat → Int32} {sl d bu : Int32} {i : Nat} (hi : i < 8) : ∀ n, n ≤ 8 → wWho K L H sl d bu n &&& (wBit (nI i) ^^^ (-1)) = wWho K L H (sl ||| wBit (nI i)) d bu n := by
  intro n
  induction n with
  | zero => intro _; rw [wWho, wWho, Int32.zero_and]
  | succ n ih =>
    intro hn
    have ih := ih (by omega)
    rw [wWho, wWho, and_or sl]
    by_cases e : n = i
    · subst e
      rw [if_neg (show ¬ (((sl &&& wBit (nI n)) ||| (wBit (nI n) &&& wBit (nI n)) = 0) ∧ wStop (K n) (L n) (H n) bu d = true) from fun z => (bit_eq n (by omega)).2 (or_0.mp z.1).2), ← ih]
      split
      · rw [and_or, (bit_eq n (by omega)).1, Int32.or_zero]
      · rfl
    · obtain ⟨b1, b2⟩ := bit_ne n (by omega) i hi e
      rw [b2, Int32.or_zero, ← ih]
      split
      · rw [and_or, b1]
      · rfl
theorem wGone_congr {f g : Nat → Int32} : ∀ n, (∀ i, i < n → f i = g i) → wGone f n = wGone g n := by
  intro n
  induction n with
  | zero => intro _; rfl
  | succ n ih => intro h; rw [wGone, wGone, ih (fun i hi => h i (by omega)), h n (by omega)]
theorem j_gone {N M p : Nat} (h : hR s 8 (s 114) N M p) : wGone (fun i => wPop (wBest (fun b => decide (wWho (fun d => s (11 + d) 0) (fun d => s (11 + d) 1) (fun d => s (11 + d) 2) (s 9 3 ||| s 9 4) (s 9 0) b N &&& ((wBit (nI i)) ^^^ (-1)) = 0) || decide (wSum (fun d => s (11 + d) 0) (fun d => s (11 + d) 3) (wWho (fun d => s (11 + d) 0) (fun d => s (11 + d) 1) (fun d => s (11 + d) 2) (s 9 3 ||| s 9 4) (s 9 0) b N &&& ((wBit (nI i)) ^^^ (-1))) N ≤ (-1))) (255 &&& ((s 9 1 ||| s 9 2) ^^^ (-1))) 255)) N = wGone (mGf s N) N := by
  have h6 := j_6 h
  refine wGone_congr N (fun i hi => ?_)
  rw [mGf, j_e1 h, j_e2 h]
  refine congrArg wPop ?_
  refine wBest_congr (fun b => ?_) _
  rw [j_who h, j_sum h, ok_none h, mW, wWho_sil (by omega) N (by omega)]
theorem k_gone (hJ : jI s t) (w : Int32) : kI l B s t mX11_gone mX12_gone [.int w] := by
  obtain ⟨N, M, p, h⟩ := hJ.1
  cases hw : wIn w 1 with
  | false => exact kI_bad hJ (c_X11_gone_bad l B s t w hw) (c_X12_gone_bad l B _ t w hw)
  | true =>
    obtain ⟨j, hj, rfl⟩ := wIn_in (n := 1) (by decide) hw
    rcases (show j = 0 ∨ j = 1 by omega) with rfl | rfl
    · exact kI_q hJ (c_X11_gone_0 l B s t N (j_N h) (j_6 h) (j_K h)) (c_X12_gone_0 l B s t N (j_mOk h)) (by rw [j_gone h]) (jQ.hand.tr (jQ.zu (by omega)))
    · exact kI_q hJ (c_X11_gone_1 l B s t N (j_N h) (j_6 h) (j_K h)) (c_X12_gone_1 l B s t N (j_mOk h)) (by rw [j_gone h]) (jQ.hand.tr (jQ.zu (by omega)))
theorem wAll_congr {f g : Nat → Bool} : ∀ n, (∀ i, i < n → f i = g i) → wAll f n = wAll g n := by
  intro n
  induction n with
  | zero => intro _; rfl
  | succ n ih => intro h; rw [wAll, wAll, ih (fun i hi => h i (by omega)), h n (by omega)]
theorem wCol_congr {f g : Nat → Bool} : ∀ n, (∀ i, i < n → f i = g i) → wCol f n = wCol g n := by
  intro n
  induction n with
  | zero => intro _; rfl
  | succ n ih => intro h; rw [wCol, wCol, ih (fun i hi => h i (by omega)), h n (by omega)]
theorem wAdd_congr {f g : Nat → Int32} : ∀ n, (∀ i, i < n → f i = g i) → wAdd f n = wAdd g n := by
  intro n
  induction n with
  | zero => intro _; rfl
  | succ n ih => intro h; rw [wAdd, wAdd, ih (fun i hi => h i (by omega)), h n (by omega)]
theorem j_fit {N M p : Nat} (h : hR s 8 (s 114) N M p) (dep k lo ha : Int32) : wFit s dep k lo ha M = mFit (s 114) dep k lo ha M := by
  refine wAll_congr M (fun n hn => ?_)
  obtain ⟨⟨e0, e1, e2, e3⟩, -⟩ := h.2.2.2.2.2.1 n hn
  rw [wNote, mNote]
  show (decide (¬ s (8 + 10 + n) 0 = dep) || (wStop k lo ha (s (8 + 10 + n) 1) (s (8 + 10 + n) 2) == decide (s (8 + 10 + n) 3 = 1))) = _
  rw [e0, e1, e2, e3]
theorem j_M {N M p : Nat} (h : hR s 8 (s 114) N M p) : s 8 5 = nI M := h.2.1.2.1
theorem j_M2 {N M p : Nat} (h : hR s 8 (s 114) N M p) : s 114 7 = nI M := h.2.1.2.2
theorem j_M6 {N M p : Nat} (h : hR s 8 (s 114) N M p) : M ≤ 6 := h.2.1.1
theorem j_nB {N M p : Nat} (h : hR s 8 (s 114) N M p) : ∀ n, n < M → r8 (s (18 + n) 1) := fun n hn => (h.2.2.2.2.2.1 n hn).2
theorem j_nB2 {N M p : Nat} (h : hR s 8 (s 114) N M p) : ∀ n, n < M → r8 (s 114 (33 + 4 * n + 1)) := fun n hn => by
  have := (h.2.2.2.2.2.1 n hn).2
  rw [(h.2.2.2.2.2.1 n hn).1.2.1] at this
  exact this
theorem j_may {N M p d : Nat} (h : hR s 8 (s 114) N M p) (hd : d < N) : wCol (fun c => wFit s (nI d) (nI c) (s (11 + d) 1) (s (11 + d) 2) M) 6 = wCol (fun c => mFit (s 114) (nI d) (nI c) (mL s d) (mH s d) M) 6 := by
  have hD := h.2.2.2.2.1 d hd
  refine wCol_congr 6 (fun c hc => ?_)
  rw [j_fit h]
  show mFit (s 114) (nI d) (nI c) (s (8 + 3 + d) 1) (s (8 + 3 + d) 2) M = _
  rw [hD.1.2.1, hD.1.2.2.1]
  rfl
theorem k_is (hJ : jI s t) (x : Int32) : kI l B s t mX11_is mX12_is [.int x] := by
  obtain ⟨N, M, p, h⟩ := hJ.1
  rcases j_dep h x with ⟨d, hd, rfl, g⟩ | ⟨hx, g⟩
  · exact kI_q hJ (c_X11_is_ok l B s t N (j_N h) (j_6 h) d hd _ rfl M (j_M h) (j_M6 h) (j_nB h)) (c_X12_is_ok l B s t N (j_mOk h) d hd M (j_M2 h) (j_M6 h) (j_nB2 h) g) (j_may h hd) (jQ.hand.tr (jQ.zu (by omega)))
  · exact kI_bad hJ (c_X11_is_bad l B s t x hx) (c_X12_is_bad l B _ t x g)
theorem k_holds (hJ : jI s t) (x w : Int32) : kI l B s t mX11_holds mX12_holds [.int x, .int w] := by
  obtain ⟨N, M, p, h⟩ := hJ.1
  rcases j_dep h x with ⟨d, hd, rfl, g⟩ | ⟨hx, g⟩
  · have hD := h.2.2.2.2.1 d hd
    cases hw : wIn w 7 with
    | true =>
      refine kI_q hJ (c_X11_holds_ok l B s t N (j_N h) (j_6 h) d hd _ rfl (j_K h d hd) M (j_M h) (j_M6 h) (j_nB h) w hw) (c_X12_holds_ok l B s t N (j_mOk h) d hd M (j_M2 h) (j_M6 h) (j_nB2 h) w g hw) ?_ ((jQ.hand.tr (jQ.zu (by omega))).tr (jQ.zu (by omega)))
      have e : wBit w = (1 : Int32) <<< (w &&& 31) := by
        rw [wBit, if_neg (of_decide_eq_true hw).1]
      have a0 : s (11 + d) 0 = mK s d := hD.1.1
      have a1 : s (11 + d) 1 = mL s d := hD.1.2.1
      have a2 : s (11 + d) 2 = mH s d := hD.1.2.2.1
      simp only [j_fit h, a0, a1, a2, e, Int32.or_zero, Int32.zero_or]
    | false => exact kI_bad hJ (c_X11_holds_badw l B s t N (j_N h) (j_6 h) d hd _ rfl w hw) (c_X12_holds_bad l B _ t _ w (by rw [hw, Bool.and_false]))
  · exact kI_bad hJ (c_X11_holds_bad l B s t x hx w) (c_X12_holds_bad l B _ t x w (by show (wIn x (s 114 0 - 1) && wIn w 7) = false; rw [g]; rfl))
theorem col_s : ∀ n, n < 6 → ∀ a, a < 64 → a < 2 ^ n → nI a ||| wBit (nI n) = nI (a + 2 ^ n) ∧ a + 2 ^ n < 2 ^ (n + 1) ∧ (∀ k, k < n → (a + 2 ^ n).testBit k = a.testBit k) ∧ (a + 2 ^ n).testBit n = true ∧ a.testBit n = false := by decide +kernel
theorem wCol_N (f : Nat → Bool) : ∀ n, n ≤ 6 → ∃ a, a < 2 ^ n ∧ wCol f n = nI a ∧ ∀ k, k < n → f k = a.testBit k := by
  intro n
  induction n with
  | zero => intro _; exact ⟨0, by decide, rfl, fun k hk => absurd hk (Nat.not_lt_zero k)⟩
  | succ n ih =>
    intro hn
    obtain ⟨a, h1, h2, h3⟩ := ih (by omega)
    have h64 : a < 64 := Nat.lt_of_lt_of_le h1 (show 2 ^ n ≤ 2 ^ 6 from Nat.pow_le_pow_right (by decide) (by omega))
    obtain ⟨c1, c2, c3, c4, c5⟩ := col_s n (by omega) a h64 h1
    cases hf : f n with
    | true =>
      refine ⟨a + 2 ^ n, c2, by rw [wCol, if_pos hf, h2, c1], fun k hk => ?_⟩
      by_cases e : k = n
      · subst e; rw [hf, c4]
      · rw [c3 k (by omega)]; exact h3 k (by omega)
    | false =>
      refine ⟨a, Nat.lt_of_lt_of_le h1 (Nat.pow_le_pow_right (by decide) (by omega)), by rw [wCol, if_neg (by rw [hf]; decide), h2], fun k hk => ?_⟩
      by_cases e : k = n
      · subst e; rw [hf, c5]
      · exact h3 k (by omega)
theorem try_all : ∀ a, a < 64 → ∀ b, b < 64 → wMax (wPop (nI a &&& nI b)) (wPop (nI a) - wPop (nI a &&& nI b)) = mGr (nI a) (wAdd (fun k => zi (wHas (nI a) (nI k) && b.testBit k)) 6) ∧ ¬ 1000000 ≤ wMax (wPop (nI a &&& nI b)) (wPop (nI a) - wPop (nI a &&& nI b)) ∧ ¬ wPop (nI a) + 1 ≤ wMax (wPop (nI a &&& nI b)) (wPop (nI a) - wPop (nI a &&& nI b)) := by decide +kernel
theorem wTry_l {g g2 : Nat → Int32} {l0 l1 : Int32} (h : ∀ n, g n = g2 n) (h0 : ∀ n, ¬ l0 ≤ g n) (h1 : ∀ n, ¬ l1 ≤ g n) : ∀ n, wTry g l0 (n + 1) = wTry g2 l1 (n + 1) := by
  intro n
  induction n with
  | zero =>
    rw [wTry, wTry, wTry, wTry]
    dsimp only
    rw [if_neg (h0 _), ← h, if_neg (h1 _)]
  | succ n ih => rw [wTry, ih, h, ← wTry]
theorem j_try {N M p d : Nat} (h : hR s 8 (s 114) N M p) (hd : d < N) (w : Int32) (f : Nat → Bool) (hw : w = wCol f 6) : (wTry (fun n => wMax (wPop (w &&& wCol (fun c => wStop (nI c) (s (11 + d) 1) (s (11 + d) 2) (nI n) (s 9 0)) 6)) (wPop w - wPop (w &&& wCol (fun c => wStop (nI c) (s (11 + d) 1) (s (11 + d) 2) (nI n) (s 9 0)) 6))) (wPop w + 1) 255) = wTry (mTg s d w) 1000000 255 := by
  have hD := h.2.2.2.2.1 d hd
  have a1 : s (11 + d) 1 = mL s d := hD.1.2.1
  have a2 : s (11 + d) 2 = mH s d := hD.1.2.2.1
  obtain ⟨a, ha, ea, -⟩ := wCol_N f 6 (by decide)
  rw [ea] at hw
  subst hw
  have key : ∀ n, ∃ b, b < 64 ∧ wCol (fun c => wStop (nI c) (s (11 + d) 1) (s (11 + d) 2) (nI n) (s 9 0)) 6 = nI b ∧ ∀ k, k < 6 → wStop (nI k) (mL s d) (mH s d) (nI n) (s 114 6) = b.testBit k := by
    intro n
    obtain ⟨b, hb, eb, hk⟩ := wCol_N (fun c => wStop (nI c) (s (11 + d) 1) (s (11 + d) 2) (nI n) (s 9 0)) 6 (by decide)
    refine ⟨b, hb, eb, fun k h6 => ?_⟩
    rw [← hk k h6, a1, a2, j_e0 h]
  refine wTry_l (fun n => ?_) (fun n => ?_) (fun n => ?_) 254
  · obtain ⟨b, hb, eb, hk⟩ := key n
    rw [eb, (try_all a ha b hb).1, mTg]
    congr 1
    refine wAdd_congr 6 (fun k h6 => ?_)
    rw [mYes, hk k h6]
  · obtain ⟨b, hb, eb, hk⟩ := key n
    rw [eb]
    exact (try_all a ha b hb).2.2
  · obtain ⟨b, hb, eb, hk⟩ := key n
    rw [eb]
    exact (try_all a ha b hb).2.1
theorem k_tryNext (hJ : jI s t) (x : Int32) : kI l B s t mX11_tryNext mX12_tryNext [.int x] := by
  obtain ⟨N, M, p, h⟩ := hJ.1
  rcases j_dep h x with ⟨d, hd, rfl, g⟩ | ⟨hx, g⟩
  · have hm := j_may h hd
    by_cases g2 : wCol (fun c => wFit s (nI d) (nI c) (s (11 + d) 1) (s (11 + d) 2) M) 6 = 0
    · exact kI_q hJ (c_X11_tryNext_none l B s t N (j_N h) (j_6 h) d hd _ rfl M (j_M h) (j_M6 h) (j_nB h) g2) (c_X12_tryNext_none l B s t N (j_mOk h) d hd M (j_M2 h) (j_M6 h) (j_nB2 h) g (hm ▸ g2)) rfl (jQ.hand.tr (jQ.zu (by omega)))
    · refine kI_q hJ (c_X11_tryNext_ok l B s t N (j_N h) (j_6 h) d hd _ rfl M (j_M h) (j_M6 h) (j_nB h) g2) (c_X12_tryNext_ok l B s t N (j_mOk h) d hd M (j_M2 h) (j_M6 h) (j_nB2 h) g (hm ▸ g2)) ?_ (jQ.hand.tr (jQ.zu (by omega)))
      rw [j_try h hd _ _ rfl, hm]
  · exact kI_bad hJ (c_X11_tryNext_bad l B s t x hx) (c_X12_tryNext_bad l B _ t x g)
end KB
