section KA
variable {l : Launch} {B : zB} {s : zS} {t : zL}
theorem wIn_toI {x b : Int32} {n : Nat} (hb : b.toInt = n) (h : wIn x b = false) : x.toInt < 0 ∨ (n : Int) < x.toInt := by
  rcases wIn_out h with z | z
  · exact Or.inl (Int32.lt_iff_toInt_lt.mp z)
  · exact Or.inr (by rw [← hb]; exact Int32.lt_iff_toInt_lt.mp z)
theorem k_of (hJ : jI s t) (x w : Int32) : kI l B s t mX11_of mX12_of [.int x, .int w] := by
  obtain ⟨N, M, p, h⟩ := hJ.1
  rcases j_dep h x with ⟨d, hd, rfl, g⟩ | ⟨hx, g⟩
  · have hD := h.2.2.2.2.1 d hd
    cases hw : wIn w 6 with
    | true =>
      obtain ⟨j, hj, rfl⟩ := wIn_in (n := 6) (by decide) hw
      rcases (show j = 0 ∨ j = 1 ∨ j = 2 ∨ j = 3 ∨ j = 4 ∨ j = 5 ∨ j = 6 by omega) with rfl | rfl | rfl | rfl | rfl | rfl | rfl
      · exact kI_q hJ (c_X11_of_0 l B s t N (j_N h) (j_6 h) d hd _ rfl (j_K h d hd)) (c_X12_of_0 l B s t N (j_mOk h) d hd g) hD.1.1 jQ.hand
      · exact kI_q hJ (c_X11_of_1 l B s t N (j_N h) (j_6 h) d hd _ rfl (j_K h d hd)) (c_X12_of_1 l B s t N (j_mOk h) d hd g) hD.1.2.1 jQ.hand
      · exact kI_q hJ (c_X11_of_2 l B s t N (j_N h) (j_6 h) d hd _ rfl (j_K h d hd)) (c_X12_of_2 l B s t N (j_mOk h) d hd g) hD.1.2.2.1 jQ.hand
      · exact kI_q hJ (c_X11_of_3 l B s t N (j_N h) (j_6 h) d hd _ rfl (j_K h d hd)) (c_X12_of_3 l B s t N (j_mOk h) d hd g) hD.1.2.2.2 jQ.hand
      · refine kI_q hJ (c_X11_of_4 l B s t N (j_N h) (j_6 h) d hd _ rfl (j_K h d hd)) (c_X12_of_4 l B s t N (j_mOk h) d hd g) ?_ jQ.hand
        show wCost (s (8 + 3 + d) 0) (s (8 + 3 + d) 3) = _
        rw [hD.1.1, hD.1.2.2.2]
        rfl
      · exact kI_q hJ (c_X11_of_5 l B s t N (j_N h) (j_6 h) d hd _ rfl (j_K h d hd)) (c_X12_of_5 l B s t N (j_mOk h) d hd g) (by rw [j_e3 h]) jQ.hand
      · exact kI_q hJ (c_X11_of_6 l B s t N (j_N h) (j_6 h) d hd _ rfl (j_K h d hd)) (c_X12_of_6 l B s t N (j_mOk h) d hd g) (by rw [j_e4 h]) jQ.hand
    | false => exact kI_bad hJ (c_X11_of_badw l B s t N (j_N h) (j_6 h) d hd _ rfl w (wIn_toI (n := 6) (by decide) hw)) (c_X12_of_bad l B _ t _ w (by rw [hw, Bool.and_false]))
  · exact kI_bad hJ (c_X11_of_bad l B s t x hx w) (c_X12_of_bad l B _ t x w (by show (wIn x (s 114 0 - 1) && wIn w 6) = false; rw [g]; rfl))
theorem k_joy (hJ : jI s t) (x w : Int32) : kI l B s t mX11_joy mX12_joy [.int x, .int w] := by
  obtain ⟨N, M, p, h⟩ := hJ.1
  rcases j_dep h x with ⟨d, hd, rfl, g⟩ | ⟨hx, g⟩
  · have hD := h.2.2.2.2.1 d hd
    cases hw : wIn w 255 with
    | true =>
      refine kI_q hJ (c_X11_joy_ok l B s t N (j_N h) (j_6 h) d hd _ rfl (j_K h d hd) w hw) (c_X12_joy_ok l B s t N (j_mOk h) d hd g w hw) ?_ jQ.hand
      show wJoy (s (8 + 3 + d) 0) (wPop (s (8 + 3 + d) 1 &&& w)) (wPop (s (8 + 3 + d) 2 &&& w)) = _
      rw [hD.1.1, hD.1.2.1, hD.1.2.2.1]
      rfl
    | false => exact kI_bad hJ (c_X11_joy_badb l B s t N (j_N h) (j_6 h) d hd _ rfl w hw) (c_X12_joy_bad l B _ t _ w (by rw [hw, Bool.and_false]))
  · exact kI_bad hJ (c_X11_joy_bad l B s t x hx w) (c_X12_joy_bad l B _ t x w (by show (wIn x (s 114 0 - 1) && wIn w 255) = false; rw [g]; rfl))
theorem k_acts (hJ : jI s t) (w : Int32) : kI l B s t mX11_acts mX12_acts [.int w] := by
  obtain ⟨N, M, p, h⟩ := hJ.1
  by_cases h0 : w = 0
  · subst h0; exact kI_q hJ (c_X11_acts_0 l B s t) (c_X12_acts_0 l B s t) (j_e1 h) jQ.rf
  · by_cases h1 : w = 1
    · subst h1; exact kI_q hJ (c_X11_acts_1 l B s t) (c_X12_acts_1 l B s t) (j_e2 h) jQ.rf
    · exact kI_bad hJ (c_X11_acts_bad l B s t w h0 h1) (c_X12_acts_bad l B _ t w h0 h1)
theorem k_stops (hJ : jI s t) (w : Int32) : kI l B s t mX11_stops mX12_stops [.int w] := by
  obtain ⟨N, M, p, h⟩ := hJ.1
  cases hw : wIn w 255 with
  | true => exact kI_q hJ (c_X11_stops_ok l B s t w hw N (j_N h) (j_6 h) (j_K h)) (c_X12_stops_ok l B s t N (j_mOk h) w hw) (j_who h w) jQ.hand
  | false => exact kI_bad hJ (c_X11_stops_bad l B s t w hw) (c_X12_stops_bad l B _ t w hw)
theorem k_alone (hJ : jI s t) : kI l B s t mX11_alone mX12_alone [] := by
  obtain ⟨N, M, p, h⟩ := hJ.1
  exact kI_q hJ (c_X11_alone l B s t N (j_N h) (j_6 h) (j_K h)) (c_X12_alone l B s t N (j_mOk h)) (by simp only [j_who h]) jQ.hand
theorem k_league (hJ : jI s t) : kI l B s t mX11_league mX12_league [] := by
  obtain ⟨N, M, p, h⟩ := hJ.1
  exact kI_q hJ (c_X11_league l B s t N (j_N h) (j_6 h) (j_K h)) (c_X12_league l B s t N (j_mOk h)) (by simp only [j_glad h, j_N h]) jQ.hand
theorem k_part (hJ : jI s t) (w : Int32) : kL l B s t mX11_part mX12_part [.int w] := by
  by_cases h0 : w = 0
  · subst h0; exact kL_of (c_X11_part_0 l B s t) (c_X12_part_0 l B s t) hJ.2.2.2.2.1 hJ
  · by_cases h1 : w = 1
    · subst h1; exact kL_of (c_X11_part_1 l B s t) (c_X12_part_1 l B s t) hJ.2.2.2.2.2 hJ
    · have hw : wIn w 1 = false := by
        cases hw : wIn w 1 with
        | false => rfl
        | true =>
          obtain ⟨j, hj, rfl⟩ := wIn_in (n := 1) (by decide) hw
          rcases (show j = 0 ∨ j = 1 by omega) with rfl | rfl
          · exact absurd rfl h0
          · exact absurd rfl h1
      exact kL_of (c_X11_part_bad l B s t w hw) (c_X12_part_bad l B _ t w h0 h1) rfl (J_bad hJ)
theorem k_status (hJ : jI s t) (w : Int32) : kI l B s t mX11_status mX12_status [.int w] := by
  have hc := hJ.2.1
  cases hw : wIn w 2 with
  | true =>
    obtain ⟨j, hj, rfl⟩ := wIn_in (n := 2) (by decide) hw
    rcases (show j = 0 ∨ j = 1 ∨ j = 2 by omega) with rfl | rfl | rfl
    · exact kI_q hJ (c_X11_status_0 l B s t) (c_X12_status_0 l B s t) hc.1 jQ.rf
    · exact kI_q hJ (c_X11_status_1 l B s t) (c_X12_status_1 l B s t) hc.2.1 jQ.rf
    · exact kI_q hJ (c_X11_status_2 l B s t) (c_X12_status_2 l B s t) hc.2.2 jQ.rf
  | false => exact kI_bad hJ (c_X11_status_bad l B s t w (wIn_toI (n := 2) (by decide) hw)) (c_X12_status_bad l B _ t w hw)
theorem j_how {N M p : Nat} (hJ : jI s t) (h : hR s 8 (s 114) N M p) : ∀ w, w < 8 → wHow s w = mHow s w := by
  intro w hw
  obtain ⟨n, -, e1, e2, -⟩ := hJ.2.2.1
  rcases (show w = 0 ∨ w = 1 ∨ w = 2 ∨ w = 3 ∨ w = 4 ∨ w = 5 ∨ w = 6 ∨ w = 7 by omega) with rfl | rfl | rfl | rfl | rfl | rfl | rfl | rfl
  · exact j_eN h
  · exact j_e0 h
  · show wPop (s 9 2) = wPop (s 114 2); rw [j_e2 h]
  · show wPop (s 9 1) = wPop (s 114 1); rw [j_e1 h]
  · exact j_e5 h
  · exact h.2.1.2.1.trans h.2.1.2.2.symm
  · exact h.2.2.1.2.1.trans h.2.2.1.2.2.symm
  · exact e1.trans e2.symm
theorem k_count (hJ : jI s t) (w : Int32) : kI l B s t mX11_count mX12_count [.int w] := by
  obtain ⟨N, M, p, h⟩ := hJ.1
  cases hw : wIn w 7 with
  | true =>
    obtain ⟨j, hj, rfl⟩ := wIn_in (n := 7) (by decide) hw
    exact kI_q hJ (c_X11_count_ok l B s t (j_r1 h) (j_r2 h) j (by omega)) (c_X12_count_ok l B s t (by rw [← j_e1 h]; exact j_r1 h) (by rw [← j_e2 h]; exact j_r2 h) j (by omega)) (j_how hJ h j (by omega)) jQ.rf
  | false => exact kI_bad hJ (c_X11_count_bad l B s t w hw) (c_X12_count_bad l B _ t w hw)
theorem and_all (x : Int32) : x &&& (0 ^^^ (-1)) = x := by
  apply Int32.toBitVec_inj.mp
  rw [Int32.toBitVec_and]
  show x.toBitVec &&& BitVec.allOnes 32 = x.toBitVec
  exact BitVec.and_allOnes
theorem wBest_congr {ok ok2 : Int32 → Bool} {f : Int32} (h : ∀ b, ok b = ok2 b) : ∀ n, wBest ok f n = wBest ok2 f n := by
  intro n
  induction n with
  | zero => rfl
  | succ n ih => rw [wBest, wBest, ih, h]
theorem half_all : ∀ c, c < 41 → (nI c + 1) / 2 = nI ((c + 1) / 2) := by decide +kernel
theorem wCost_N (k : Int32) {c : Nat} (hc : c < 41) : ∃ m, m ≤ 80 ∧ wCost k (nI c) = nI m := by
  unfold wCost
  split
  · exact ⟨(c + 1) / 2, by omega, half_all c hc⟩
  · split
    · exact ⟨2 * c, by omega, nM (a := 2) rfl rfl rfl⟩
    · exact ⟨c, by omega, rfl⟩
theorem wSum_N {K P : Nat → Int32} (w : Int32) : ∀ n, (∀ i, i < n → ∃ c, c < 41 ∧ P i = nI c) → ∃ m, m ≤ 80 * n ∧ wSum K P w n = nI m := by
  intro n
  induction n with
  | zero => intro _; exact ⟨0, by omega, rfl⟩
  | succ n ih =>
    intro h
    obtain ⟨m, h1, h2⟩ := ih (fun i hi => h i (by omega))
    rw [wSum]
    split
    · exact ⟨m, by omega, h2⟩
    · obtain ⟨c, hc, e⟩ := h n (by omega)
      obtain ⟨m2, h3, h4⟩ := wCost_N (K n) hc
      exact ⟨m + m2, by omega, by rw [h2, e, h4]; exact nA rfl rfl rfl⟩
theorem wSum_0 {K P : Nat → Int32} : ∀ n, wSum K P 0 n = 0 := by
  intro n
  induction n with
  | zero => rfl
  | succ n ih => rw [wSum, if_pos (by rw [Int32.zero_and]), ih]
theorem j_P {N M p : Nat} (h : hR s 8 (s 114) N M p) : ∀ i, i < N → ∃ c, c < 41 ∧ mP s i = nI c := by
  intro i hi
  obtain ⟨c, h1, h2⟩ := (h.2.2.2.2.1 i hi).2.2
  exact ⟨c, h1, by rw [← h2]; exact (h.2.2.2.2.1 i hi).1.2.2.2.symm⟩
theorem nI_m1 {m : Nat} (h : m < 2 ^ 31) : ¬ nI m ≤ -1 := by
  rw [Int32.le_iff_toInt_le, nI_toInt h]
  show ¬ (m : Int) ≤ -1
  omega
/-- nobody may be bought -/
theorem ok_none {N M p : Nat} (h : hR s 8 (s 114) N M p) (w : Int32) : (decide (w = 0) || decide (wSum (mK s) (mP s) w N ≤ -1)) = decide (w = 0) := by
  obtain ⟨m, h1, h2⟩ := wSum_N (K := mK s) w N (j_P h)
  have := j_6 h
  rw [h2, decide_eq_false (nI_m1 (by omega)), Bool.or_false]
theorem k_most (hJ : jI s t) : kI l B s t mX11_most mX12_most [] := by
  obtain ⟨N, M, p, h⟩ := hJ.1
  refine kI_q hJ (c_X11_most l B s t N (j_N h) (j_6 h) (j_K h)) (c_X12_most l B s t N (j_mOk h)) ?_ jQ.hand
  rw [j_e1 h, j_e2 h]
  refine wBest_congr (fun b => ?_) _
  rw [j_who h, and_all, j_sum h, ok_none h]
theorem ok_some {N M p : Nat} (w : Int32) {j : Nat} (hj : j < 2 ^ 31) : (decide (w = 0) || decide (wSum (mK s) (mP s) w N ≤ nI j)) = decide (wSum (mK s) (mP s) w N ≤ nI j) := by
  by_cases h0 : w = 0
  · subst h0
    rw [wSum_0]
    have : (0 : Int32) ≤ nI j := Int32.not_lt.mp (nI_pos hj)
    simp [this]
  · simp [h0]
theorem j_best {N M p : Nat} (h : hR s 8 (s 114) N M p) {j : Nat} (hj : j < 2 ^ 31) : wBest (fun b => decide (wWho (fun d => s (11 + d) 0) (fun d => s (11 + d) 1) (fun d => s (11 + d) 2) (s 9 3 ||| s 9 4) (s 9 0) b N &&& (0 ^^^ (-1)) = 0) || decide (wSum (fun d => s (11 + d) 0) (fun d => s (11 + d) 3) (wWho (fun d => s (11 + d) 0) (fun d => s (11 + d) 1) (fun d => s (11 + d) 2) (s 9 3 ||| s 9 4) (s 9 0) b N &&& (0 ^^^ (-1))) N ≤ nI j)) (255 &&& ((s 9 1 ||| s 9 2) ^^^ (-1))) 255 = wBest (fun b => decide (wSum (mK s) (mP s) (mW s N b) N ≤ nI j)) (255 &&& ((s 114 1 ||| s 114 2) ^^^ (-1))) 255 := by
  rw [j_e1 h, j_e2 h]
  refine wBest_congr (fun b => ?_) _
  rw [j_who h, and_all, j_sum h]
  exact ok_some (M := M) (p := p) _ hj
theorem k_money (hJ : jI s t) (a w : Int32) : kI l B s t mX11_money mX12_money [.int a, .int w] := by
  obtain ⟨N, M, p, h⟩ := hJ.1
  cases hb : (wIn a 200 && wIn w 2) with
  | false => exact kI_bad hJ (c_X11_money_bad l B s t a w hb) (c_X12_money_bad l B _ t a w hb)
  | true =>
    rw [Bool.and_eq_true] at hb
    obtain ⟨ha, hw⟩ := hb
    obtain ⟨i, hi, rfl⟩ := wIn_in (n := 200) (by decide) ha
    obtain ⟨j, hj, rfl⟩ := wIn_in (n := 2) (by decide) hw
    have hB := j_best h (j := i) (by omega)
    rcases (show j = 0 ∨ j = 1 ∨ j = 2 by omega) with rfl | rfl | rfl
    · exact kI_q hJ (c_X11_money_0 l B s t _ ha N (j_N h) (j_6 h) (j_K h)) (c_X12_money_0 l B s t N (j_mOk h) _ ha) hB jQ.hand
    · exact kI_q hJ (c_X11_money_1 l B s t _ ha N (j_N h) (j_6 h) (j_K h)) (c_X12_money_1 l B s t N (j_mOk h) _ ha) (by rw [hB, j_who h, j_sum h]) jQ.hand
    · exact kI_q hJ (c_X11_money_2 l B s t _ ha N (j_N h) (j_6 h) (j_K h)) (c_X12_money_2 l B s t N (j_mOk h) _ ha) (by rw [hB, j_who h]) jQ.hand
end KA
