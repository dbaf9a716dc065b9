section KF
variable {l : Launch} {B : zB} {s : zS} {t : zL}
theorem sR_r {r r2 q : Nat → Int32} {o : Nat} (h : sR r q o) (e : ∀ j, j < 6 → r2 j = r j) : sR r2 q o := by
  unfold sR
  rw [e 0 (by decide), e 1 (by decide), e 2 (by decide), e 3 (by decide), e 4 (by decide), e 5 (by decide)]
  exact h
theorem rem8_i : ∀ i, i < 7 → ∀ j, j < 6 → wRem8 s (25 + i) j = s (26 + i) j := by
  intro i hi j hj
  rcases (show i = 0 ∨ i = 1 ∨ i = 2 ∨ i = 3 ∨ i = 4 ∨ i = 5 ∨ i = 6 by omega) with rfl | rfl | rfl | rfl | rfl | rfl | rfl <;> simp [wRem8, zcp, zu, hj]
theorem rem8_7 : ∀ j, j < 6 → wRem8 s 32 j = s 9 j := by
  intro j hj
  simp [wRem8, zcp, zu, hj]
theorem rem8_6 : wRem8 s 8 6 = 8 := by rw [wRem8, zu_same]
theorem keep8_8 {s' : zS} : wKeep s' 8 114 8 = 8 := by rw [wKeep, if_pos rfl, wKeep1, zu_same]; rfl
theorem keep8_m {s' : zS} {x : Nat} (h1 : 57 ≤ x) (h2 : x < 99) : wKeep s' 8 114 x = s' 114 (x + 6) := by
  rw [wKeep, if_pos rfl, wKeep1, zu_ne _ _ (by omega)]
  simp only [wCpp]
  rw [if_neg (by omega), zu_ne _ _ (by omega)]
  simp only [wSh]
  rw [if_pos ⟨by trivial, by omega, by omega⟩]
theorem keep8_h {s' : zS} {x : Nat} (h1 : 99 ≤ x) (h2 : x < 105) : wKeep s' 8 114 x = s' 114 (x - 98) := by
  rw [wKeep, if_pos rfl, wKeep1, zu_ne _ _ (by omega)]
  simp only [wCpp]
  rw [if_pos ⟨by trivial, by omega, by omega⟩, zu_ne _ _ (by omega)]
  simp only [wSh]
  rw [if_neg (by omega)]
  congr 1
  omega
theorem keep_8 {s' : zS} {p : Nat} (hp : p ≠ 8) : wKeep s' p 114 8 = nI (p + 1) := by rw [wKeep, if_neg hp, wKeep1, zu_same]
theorem keep_o {s' : zS} {p x : Nat} (hp : p ≠ 8) (h8 : x ≠ 8) (h : x < 57 + 6 * p ∨ 63 + 6 * p ≤ x) : wKeep s' p 114 x = s' 114 x := by
  rw [wKeep, if_neg hp, wKeep1, zu_ne _ _ (by omega)]
  simp only [wCpp]
  rw [if_neg (by omega)]
theorem keep_h {s' : zS} {p x : Nat} (hp : p ≠ 8) (h1 : 57 + 6 * p ≤ x) (h2 : x < 63 + 6 * p) : wKeep s' p 114 x = s' 114 (1 + (x - (57 + 6 * p))) := by
  rw [wKeep, if_neg hp, wKeep1, zu_ne _ _ (by omega)]
  simp only [wCpp]
  rw [if_pos ⟨by trivial, by omega, by omega⟩]
/-- how many are kept behind a call that keeps one more -/
def pNx (p : Nat) : Nat := if p = 8 then 8 else p + 1
theorem hR_rmb {q : Nat → Int32} {N M p : Nat} (h : hR s 8 q N M p) {s' : zS} (hq : s' 114 = q) : hR (wRmb s p) 8 (wKeep s' p 114) N M (pNx p) := by
  obtain ⟨hA, hB, hC, hS, hD, hNt, hP⟩ := h
  have a1 := hA.1
  have a2 := hB.1
  have a3 := hC.1
  have hlo : ∀ x, x < 57 → x ≠ 8 → wKeep s' p 114 x = q x := fun x h1 h2 => by rw [wKeep_lo s' h1 h2, hq]
  have hrow : ∀ k, k ≠ 8 → (k < 25 ∨ 33 ≤ k) → wRmb s p k = s k := fun k h1 h2 => wRmb_row a3 h1 h2
  have base : ∀ P : Nat, P ≤ 8 → wRmb s p 8 6 = nI P → wKeep s' p 114 8 = nI P → (∀ i, i < P → sR (wRmb s p (8 + 17 + i)) (wKeep s' p 114) (56 + 6 * i)) → hR (wRmb s p) 8 (wKeep s' p 114) N M P := by
    intro P hP8 e1 e2 e3
    refine ⟨⟨a1, ?_, ?_⟩, ⟨a2, ?_, ?_⟩, ⟨hP8, e1, e2⟩, ?_, fun i hi => ?_, fun i hi => ?_, e3⟩
    · rw [wRmb_8 a3 (by decide)]; exact hA.2.1
    · rw [hlo 0 (by decide) (by decide)]; exact hA.2.2
    · rw [wRmb_8 a3 (by decide)]; exact hB.2.1
    · rw [hlo 7 (by decide) (by decide)]; exact hB.2.2
    · rw [hrow (8 + 1) (by decide) (by decide)]
      exact sR_q hS (fun j h1 h2 => hlo _ (by omega) (by omega))
    · rw [hrow (8 + 3 + i) (by omega) (by omega)]
      exact dR_q (hD i hi) (fun j hj => hlo _ (by omega) (by omega))
    · rw [hrow (8 + 10 + i) (by omega) (by omega)]
      exact nR_q (hNt i hi) (fun j hj => hlo _ (by omega) (by omega))
  by_cases hp : p = 8
  · subst hp
    have er : wRmb s 8 = wRem8 s := by rw [wRmb, if_pos rfl]
    refine base 8 (Nat.le_refl _) (by rw [er, rem8_6]; rfl) (by rw [keep8_8]; rfl) (fun i hi => ?_)
    rw [er]
    by_cases h7 : i = 7
    · subst h7
      refine sR_r (r := s 9) ?_ (fun j hj => rem8_7 j hj)
      exact sR_q hS (fun j h1 h2 => by rw [keep8_h (by omega) (by omega), hq]; congr 1; omega)
    · refine sR_r (r := s (8 + 17 + (i + 1))) ?_ (fun j hj => ?_)
      · exact sR_q (hP (i + 1) (by omega)) (fun j h1 h2 => by rw [keep8_m (by omega) (by omega), hq]; congr 1; omega)
      · rw [rem8_i i (by omega) j hj]
        congr 1
        omega
  · have er : wRmb s p = wRem s p := by rw [wRmb, if_neg hp]
    have en : pNx p = p + 1 := by rw [pNx, if_neg hp]
    rw [en]
    refine base (p + 1) (by omega) (by rw [er, wRem, zu_same]) (keep_8 hp) (fun i hi => ?_)
    rw [er, wRem, zu_row _ _ (by omega)]
    by_cases hi2 : i = p
    · subst hi2
      refine sR_r (r := s 9) ?_ (fun j hj => zcp_hit s (o := 8 + 17 + i) hj)
      exact sR_q hS (fun j h1 h2 => by rw [keep_h hp (by omega) (by omega), hq]; congr 1; omega)
    · rw [zcp_row s (by omega)]
      exact sR_q (hP i (by omega)) (fun j h1 h2 => by rw [keep_o hp (by omega) (by omega), hq])
/-- only the sitting has changed -/
theorem hR_sit {s2 : zS} {h : Nat} {q q2 : Nat → Int32} {N M p : Nat} (hr : hR s h q N M p) (hk : ∀ k, k ≠ h + 1 → h ≤ k → k < h + 25 → s2 k = s k) (hq : ∀ j, j = 0 ∨ 7 ≤ j → q2 j = q j) (hS : sR (s2 (h + 1)) q2 0) : hR s2 h q2 N M p := by
  obtain ⟨hA, hB, hC, -, hD, hNt, hP⟩ := hr
  have a1 := hA.1
  have a2 := hB.1
  have a3 := hC.1
  refine ⟨?_, ?_, ?_, hS, fun i hi => ?_, fun i hi => ?_, fun i hi => ?_⟩
  · rw [hk h (by omega) (by omega) (by omega), hq 0 (by omega)]; exact hA
  · rw [hk h (by omega) (by omega) (by omega), hq 7 (by omega)]; exact hB
  · rw [hk h (by omega) (by omega) (by omega), hq 8 (by omega)]; exact hC
  · rw [hk _ (by omega) (by omega) (by omega)]
    exact dR_q (hD i hi) (fun j hj => hq _ (by omega))
  · rw [hk _ (by omega) (by omega) (by omega)]
    exact nR_q (hNt i hi) (fun j hj => hq _ (by omega))
  · rw [hk _ (by omega) (by omega) (by omega)]
    exact sR_q (hP i hi) (fun j h1 h2 => hq _ (by omega))
theorem mOk_c {s2 : zS} {N : Nat} (e : s2 114 = s 114) (h : mOk s N) : mOk s2 N := by
  unfold mOk at *
  rw [e]
  exact h
theorem mW_c {s2 : zS} {N : Nat} (e : s2 114 = s 114) (b : Int32) : mW s2 N b = mW s N b := by
  have e1 : mK s2 = mK s := by funext d; simp only [mK, e]
  have e2 : mL s2 = mL s := by funext d; simp only [mL, e]
  have e3 : mH s2 = mH s := by funext d; simp only [mH, e]
  simp only [mW, mS, e1, e2, e3, e]
theorem wGoEnd_row (s : zS) (c : Int32) {k : Nat} (h : k ≠ 114) : wGoEnd s c k = s k := by
  rw [wGoEnd, zu_row _ _ h, zu_row _ _ h, zu_row _ _ h, zu_row _ _ h, zu_row _ _ h]
theorem mMove_row (s : zS) (w b : Int32) {k : Nat} (h : k ≠ 114) : mMove s w b k = s k := by
  unfold mMove
  split
  · exact zu_row _ _ h
  · exact wGoEnd_row _ _ h
theorem jF.rmb {p : Nat} (hp : p ≤ 8) : jF s (wRmb s p) := jF.of (fun k hk => wRmb_row hp (by omega) (by omega))
theorem jF.keep {p : Nat} : jF s (wKeep s p) := jF.of (fun k hk => wKeep_row s (by omega))
theorem jF.zu9 {j : Nat} {v : Int32} : jF s (zu s 9 j v) := jF.of (fun k hk => zu_row _ _ (by omega))
theorem jF.zu114 {j : Nat} {v : Int32} : jF s (zu s 114 j v) := jF.of (fun k hk => zu_row _ _ (by omega))
/-- the sitting ends -/
theorem sR_end {u k : zS} {c : Int32} (h : sR (u 9) (k 114) 0) (hc : u 9 1 = c) : sR (wClose u 9 9) (wGoEnd k c 114) 0 := by
  obtain ⟨h0, h1, h2, h3, h4, h5, r1, r2, r3, r4⟩ := h
  have h0 : u 9 0 = k 114 6 := h0
  have h2 : u 9 2 = k 114 2 := h2
  have h5 : u 9 5 = k 114 5 := h5
  refine ⟨?_, ?_, ?_, ?_, ?_, ?_, ?_, ?_, ?_, ?_⟩
  · simp [wClose, wGoEnd, zu, h0]
  · simp [wClose, wGoEnd, zu]
  · simp [wClose, wGoEnd, zu, h2, hc]
  · simp [wClose, wGoEnd, zu]
  · simp [wClose, wGoEnd, zu]
  · simp [wClose, wGoEnd, zu, h5]
  · simp [wClose, zu, r8_0]
  · simp only [wClose, zu]
    simp
    exact r8_or r2 r1
  · simp [wClose, zu, r8_0]
  · simp [wClose, zu, r8_0]
theorem k_end (hJ : jI s t) : kI l B s t mX11_end mX12_end [] := by
  obtain ⟨N, M, p, h⟩ := hJ.1
  have hp := h.2.2.1.1
  have e114 : wClose (wRmb s p) 9 114 = s 114 := by rw [wClose_row (by decide), wRmb_row hp (by decide) (by decide)]
  have hk := hR_rmb h (s' := wClose (wRmb s p) 9) e114
  have hs := sR_end (u := wRmb s p) (k := wKeep (wClose (wRmb s p) 9) p) hk.2.2.2.1 hk.2.2.2.1.2.1
  have hq : ∀ j, j = 0 ∨ 7 ≤ j → wGoEnd (wKeep (wClose (wRmb s p) 9) p) (wKeep (wClose (wRmb s p) 9) p 114 1) 114 j = wKeep (wClose (wRmb s p) 9) p 114 j := fun j hj => by
    rw [wGoEnd, zu_ne _ _ (by omega), zu_ne _ _ (by omega), zu_ne _ _ (by omega), zu_ne _ _ (by omega), zu_ne _ _ (by omega)]
  have hrow : ∀ k, k ≠ 114 → wGoEnd (wKeep (wClose (wRmb s p) 9) p) (wKeep (wClose (wRmb s p) 9) p 114 1) k = wClose (wRmb s p) 9 k := fun k hk => by rw [wGoEnd_row _ _ hk, wKeep_row _ hk]
  refine kI_of (c_X11_end l B s t p hp h.2.2.1.2.1) (c_X12_end l B _ t p hp (by rw [e114]; exact h.2.2.1.2.2)) hs.2.2.1 (J_now hJ (jF.of (fun k hk => by rw [hrow k (by omega), wClose_row (by omega), wRmb_row hp (by omega) (by omega)])) ⟨N, M, pNx p, ?_⟩)
  refine hR_sit hk (fun k h1 h2 h3 => by rw [hrow k (by omega), wClose_row h1]) hq ?_
  rw [hrow (8 + 1) (by decide)]
  exact hs
theorem k_moves (hJ : jI s t) (b : Int32) : kI l B s t mX11_moves mX12_moves [.int b] := by
  obtain ⟨N, M, p, h⟩ := hJ.1
  by_cases hb : wIn b 255 = false ∨ b = 0
  · exact kI_bad hJ (c_X11_moves_bad l B s t b hb) (c_X12_moves_bad l B _ t b hb)
  · have g1 : wIn b 255 = true := by
      cases hw : wIn b 255 with
      | true => rfl
      | false => exact absurd (Or.inl hw) hb
    have g2 : ¬ b = 0 := fun z => hb (Or.inr z)
    by_cases g3 : b &&& ((255 &&& ((s 9 1 ||| s 9 2) ^^^ (-1))) ^^^ (-1)) = 0
    · have hp := h.2.2.1.1
      have h6 := j_6 h
      have hc := c_X11_moves_ok l B s t b g1 g2 g3 p hp h.2.2.1.2.1 N (j_N h) (j_6 h) (j_K h)
      have ew : wWho (fun d => (wRmb s p) (11 + d) 0) (fun d => (wRmb s p) (11 + d) 1) (fun d => (wRmb s p) (11 + d) 2) ((wRmb s p) 9 3 ||| (wRmb s p) 9 4) ((wRmb s p) 9 0) b N = mW s N b := by
        rw [← j_who h, wRmb_row (k := 9) hp (by decide) (by decide)]
        exact wWho_congr N (fun i hi => by rw [wRmb_row (k := 11 + i) hp (by omega) (by omega)]; exact ⟨rfl, rfl, rfl⟩)
      rw [ew] at hc
      generalize hw : mW s N b = w at hc
      have e114 : wMove (wRmb s p) 9 w b 114 = s 114 := by rw [wMove_row (by decide), wRmb_row hp (by decide) (by decide)]
      have hm := c_X12_moves_ok l B (wMove (wRmb s p) 9 w b) t b g1 g2 (by rw [e114, ← j_e1 h, ← j_e2 h]; exact g3) N (mOk_c e114 (j_mOk h)) p hp (by rw [e114]; exact h.2.2.1.2.2)
      rw [mW_c e114, hw] at hm
      have hk := hR_rmb h (s' := wHand (wMove (wRmb s p) 9 w b) N) (by rw [wHand_114]; exact e114)
      generalize hK : wKeep (wHand (wMove (wRmb s p) 9 w b) N) p = K at hm hk
      have hF : jF s K := by
        rw [← hK]
        exact (((jF.rmb hp).tr (jF.of (fun k hk => wMove_row (by omega)))).tr jQ.hand.1).tr jF.keep
      have hrow : ∀ k, 8 ≤ k → k < 33 → mMove K w b k = wMove (wRmb s p) 9 w b k := fun k h1 h2 => by
        rw [mMove_row _ _ _ (by omega), ← hK, wKeep_row _ (by omega), wHand_row _ (by omega) (by omega) (by omega) (by omega)]
      refine kI_of hc hm rfl (J_now hJ (hF.tr (jF.of (fun k hk => mMove_row _ _ _ (by omega)))) ⟨N, M, pNx p, ?_⟩)
      refine hR_sit hk (fun k h1 h2 h3 => by rw [hrow k h2 (by omega), wMove_row h1]) ?_ ?_
      · intro j hj
        unfold mMove
        split
        · rw [zu_ne _ _ (by omega)]
        · rw [wGoEnd, zu_ne _ _ (by omega), zu_ne _ _ (by omega), zu_ne _ _ (by omega), zu_ne _ _ (by omega), zu_ne _ _ (by omega)]
      · rw [hrow (8 + 1) (by decide) (by decide)]
        have hS : sR (wRmb s p 9) (K 114) 0 := hk.2.2.2.1
        by_cases hz : w = 0
        · rw [wMove, if_pos hz, mMove, if_pos hz]
          obtain ⟨h0, h1, h2, h3, h4, h5, r1, r2, r3, r4⟩ := hS
          have h1 : wRmb s p 9 1 = K 114 1 := h1
          refine ⟨?_, ?_, ?_, ?_, ?_, ?_, ?_, ?_, ?_, ?_⟩
          · rw [zu_ne _ _ (by omega), zu_ne _ _ (by omega)]; exact h0
          · show zu _ 9 1 _ 9 1 = zu _ 114 1 _ 114 1
            rw [zu_same, zu_same, h1]
          · rw [zu_ne _ _ (by omega), zu_ne _ _ (by omega)]; exact h2
          · rw [zu_ne _ _ (by omega), zu_ne _ _ (by omega)]; exact h3
          · rw [zu_ne _ _ (by omega), zu_ne _ _ (by omega)]; exact h4
          · rw [zu_ne _ _ (by omega), zu_ne _ _ (by omega)]; exact h5
          · show r8 (zu _ 9 1 _ 9 1)
            rw [zu_same]; exact r8_or r1 (wIn_r8 g1)
          · rw [zu_ne _ _ (by omega)]; exact r2
          · rw [zu_ne _ _ (by omega)]; exact r3
          · rw [zu_ne _ _ (by omega)]; exact r4
        · rw [wMove, if_neg hz, mMove, if_neg hz]
          have hS2 : sR (zu (wRmb s p) 9 1 0 9) (zu K 114 1 0 114) 0 := by
            obtain ⟨h0, h1, h2, h3, h4, h5, r1, r2, r3, r4⟩ := hS
            refine ⟨?_, ?_, ?_, ?_, ?_, ?_, ?_, ?_, ?_, ?_⟩
            · rw [zu_ne _ _ (by omega), zu_ne _ _ (by omega)]; exact h0
            · show zu _ 9 1 _ 9 1 = zu _ 114 1 _ 114 1
              rw [zu_same, zu_same]
            · rw [zu_ne _ _ (by omega), zu_ne _ _ (by omega)]; exact h2
            · rw [zu_ne _ _ (by omega), zu_ne _ _ (by omega)]; exact h3
            · rw [zu_ne _ _ (by omega), zu_ne _ _ (by omega)]; exact h4
            · rw [zu_ne _ _ (by omega), zu_ne _ _ (by omega)]; exact h5
            · show r8 (zu _ 9 1 _ 9 1)
              rw [zu_same]; exact r8_0
            · rw [zu_ne _ _ (by omega)]; exact r2
            · rw [zu_ne _ _ (by omega)]; exact r3
            · rw [zu_ne _ _ (by omega)]; exact r4
          have hE := sR_end (u := zu (wRmb s p) 9 1 0) (k := zu K 114 1 0) (c := 0) hS2 (zu_same _ _ _ _)
          have e : wGoEnd (zu K 114 1 0) 0 = wGoEnd K 0 := by
            funext a c
            simp only [wGoEnd, zu]
            by_cases ha : a = 114
            · by_cases hc : c = 1
              · simp [ha, hc]
              · simp [ha, hc]
            · simp [ha]
          rw [e] at hE
          exact hE
    · exact kI_no hJ (c_X11_moves_no l B s t b g1 g2 g3) (c_X12_moves_no l B _ t b g1 g2 (by show ¬ b &&& ((255 &&& ((s 114 1 ||| s 114 2) ^^^ (-1))) ^^^ (-1)) = 0; rw [← j_e1 h, ← j_e2 h]; exact g3))
end KF
