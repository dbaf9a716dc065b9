/-! WHAT TIES THE CLASS TO THE MODEL: the house h of the class against a row q of the model, and the whole -/
def sR (r q : Nat → Int32) (o : Nat) : Prop := r 0 = q (o + 6) ∧ r 1 = q (o + 1) ∧ r 2 = q (o + 2) ∧ r 3 = q (o + 3) ∧ r 4 = q (o + 4) ∧ r 5 = q (o + 5) ∧ r8 (r 1) ∧ r8 (r 2) ∧ r8 (r 3) ∧ r8 (r 4)
def dR (r q : Nat → Int32) (o : Nat) : Prop := (r 0 = q (o + 0) ∧ r 1 = q (o + 1) ∧ r 2 = q (o + 2) ∧ r 3 = q (o + 3)) ∧ (∃ c, c < 6 ∧ r 0 = nI c) ∧ ∃ c, c < 41 ∧ r 3 = nI c
def nR (r q : Nat → Int32) (o : Nat) : Prop := (r 0 = q o ∧ r 1 = q (o + 1) ∧ r 2 = q (o + 2) ∧ r 3 = q (o + 3)) ∧ r8 (r 1)
def hR (s : zS) (h : Nat) (q : Nat → Int32) (N M p : Nat) : Prop := (N ≤ 6 ∧ s h 4 = nI N ∧ q 0 = nI N) ∧ (M ≤ 6 ∧ s h 5 = nI M ∧ q 7 = nI M) ∧ (p ≤ 8 ∧ s h 6 = nI p ∧ q 8 = nI p) ∧ sR (s (h + 1)) q 0 ∧ (∀ d, d < N → dR (s (h + 3 + d)) q (9 + 4 * d)) ∧ (∀ n, n < M → nR (s (h + 10 + n)) q (33 + 4 * n)) ∧ ∀ i, i < p → sR (s (h + 17 + i)) q (56 + 6 * i)
def hE (s : zS) (h : Nat) (q : Nat → Int32) : Prop := ∃ N M p, hR s h q N M p
def jI (s : zS) (t : zL) : Prop := hE s 8 (s 114) ∧ (s 0 9 = s 117 0 ∧ s 0 10 = s 117 1 ∧ s 0 11 = s 117 2) ∧ (∃ n, n ≤ 150 ∧ s 111 1 = nI n ∧ s 113 12 = nI n ∧ s 112 = s 121) ∧ (s 109 0 = s 116 0 ∧ s 109 1 = s 116 1 ∧ (¬ s 109 0 = 0 → hE s 59 (s 115)) ∧ (¬ s 109 1 = 0 → hE s 84 (fun j => s 115 (105 + j)))) ∧ (t 0 7 = t 113 4 ∧ t 0 8 = t 113 5)
theorem hR_same {s s2 : zS} {h : Nat} {q : Nat → Int32} {N M p : Nat} (h1 : ∀ k, h ≤ k → k < h + 25 → s2 k = s k) (hr : hR s h q N M p) : hR s2 h q N M p := by
  obtain ⟨a, b, c, d, e, f, g⟩ := hr
  have a6 := a.1
  have b6 := b.1
  have c8 := c.1
  refine ⟨?_, ?_, ?_, ?_, fun d hd => ?_, fun n hn => ?_, fun i hi => ?_⟩
  · rw [h1 h (by omega) (by omega)]; exact a
  · rw [h1 h (by omega) (by omega)]; exact b
  · rw [h1 h (by omega) (by omega)]; exact c
  · rw [h1 (h + 1) (by omega) (by omega)]; exact d
  · rw [h1 (h + 3 + d) (by omega) (by omega)]; exact e d hd
  · rw [h1 (h + 10 + n) (by omega) (by omega)]; exact f n hn
  · rw [h1 (h + 17 + i) (by omega) (by omega)]; exact g i hi
theorem hE_same {s s2 : zS} {h : Nat} {q : Nat → Int32} (h1 : ∀ k, h ≤ k → k < h + 25 → s2 k = s k) (hr : hE s h q) : hE s2 h q := by
  obtain ⟨N, M, p, e⟩ := hr
  exact ⟨N, M, p, hR_same h1 e⟩
/-- what a call of the house alone leaves as it is -/
def jF (s s2 : zS) : Prop := (∀ k, (k = 0 ∨ (59 ≤ k ∧ k ≤ 109) ∨ k = 112 ∨ (115 ≤ k ∧ k ≤ 117) ∨ k = 121) → s2 k = s k) ∧ s2 111 1 = s 111 1 ∧ s2 113 12 = s 113 12
theorem jF.rf {s : zS} : jF s s := ⟨fun _ _ => rfl, rfl, rfl⟩
theorem jF.tr {s s2 s3 : zS} (h1 : jF s s2) (h2 : jF s2 s3) : jF s s3 := ⟨fun k hk => (h2.1 k hk).trans (h1.1 k hk), h2.2.1.trans h1.2.1, h2.2.2.trans h1.2.2⟩
theorem jF.of {s s2 : zS} (h : ∀ k, (k = 0 ∨ (59 ≤ k ∧ k ≤ 109) ∨ (111 ≤ k ∧ k ≤ 113) ∨ (115 ≤ k ∧ k ≤ 117) ∨ k = 121) → s2 k = s k) : jF s s2 := ⟨fun k hk => h k (by omega), by rw [h 111 (by omega)], by rw [h 113 (by omega)]⟩
theorem J_now {s s2 : zS} {t : zL} (hJ : jI s t) (hf : jF s s2) (hh : hE s2 8 (s2 114)) : jI s2 t := by
  obtain ⟨-, hc, ⟨n, h1, h2, h3, h4⟩, ⟨i0, i1, i2, i3⟩, ht⟩ := hJ
  obtain ⟨f, f1, f2⟩ := hf
  refine ⟨hh, ?_, ⟨n, h1, by rw [f1]; exact h2, by rw [f2]; exact h3, by rw [f 112 (by omega), f 121 (by omega)]; exact h4⟩, ⟨?_, ?_, ?_, ?_⟩, ht⟩
  · rw [f 0 (by omega), f 117 (by omega)]; exact hc
  · rw [f 109 (by omega), f 116 (by omega)]; exact i0
  · rw [f 109 (by omega), f 116 (by omega)]; exact i1
  · intro z
    rw [f 109 (by omega)] at z
    rw [f 115 (by omega)]
    exact hE_same (fun k a b => f k (by omega)) (i2 z)
  · intro z
    rw [f 109 (by omega)] at z
    rw [f 115 (by omega)]
    exact hE_same (fun k a b => f k (by omega)) (i3 z)
/-- what a question leaves as it is -/
def jQ (s s2 : zS) : Prop := jF s s2 ∧ (∀ k, 8 ≤ k → k < 33 → s2 k = s k) ∧ s2 114 = s 114
theorem J_free {s s2 : zS} {t : zL} (hJ : jI s t) (hq : jQ s s2) : jI s2 t := J_now hJ hq.1 (by rw [hq.2.2]; exact hE_same (fun k a b => hq.2.1 k a (by omega)) hJ.1)
theorem jQ.rf {s : zS} : jQ s s := ⟨jF.rf, fun _ _ _ => rfl, rfl⟩
theorem jQ.tr {s s2 s3 : zS} (h1 : jQ s s2) (h2 : jQ s2 s3) : jQ s s3 := ⟨h1.1.tr h2.1, fun k a b => (h2.2.1 k a b).trans (h1.2.1 k a b), h2.2.2.trans h1.2.2⟩
theorem jQ.zu {s : zS} {k j : Nat} {v : Int32} (h : k = 118 ∨ k = 119 ∨ k = 120 ∨ k = 110 ∨ k = 122 ∨ k = 123 ∨ (k = 113 ∧ j ≠ 12)) : jQ s (zu s k j v) :=
  ⟨⟨fun q hq => zu_row _ _ (by omega), by rw [zu_ne _ _ (by omega)], by rw [zu_ne _ _ (by omega)]⟩, fun q a b => zu_row _ _ (by omega), zu_row _ _ (by omega)⟩
theorem jQ.hand {s : zS} {N : Nat} : jQ s (wHand s N) := by
  have h : jQ s (wHand0 s N) := ⟨⟨fun q hq => wHand0_row s (by omega) (by omega) (by omega), by rw [wHand0_row s (by decide) (by decide) (by decide)], by rw [wHand0_row s (by decide) (by decide) (by decide)]⟩, fun q a b => wHand0_row s (by omega) (by omega) (by omega), wHand0_row s (by decide) (by decide) (by decide)⟩
  exact (h.tr (jQ.zu (by omega))).tr (jQ.zu (by omega))
theorem J_cnt {s s2 : zS} {t : zL} (hJ : jI s t) (hrow : ∀ k, k ≠ 0 → k ≠ 117 → s2 k = s k) (hc : s2 0 9 = s2 117 0 ∧ s2 0 10 = s2 117 1 ∧ s2 0 11 = s2 117 2) : jI s2 t := by
  obtain ⟨h0, -, ⟨n, h1, h2, h3, h4⟩, ⟨i0, i1, i2, i3⟩, ht⟩ := hJ
  refine ⟨?_, hc, ⟨n, h1, ?_, ?_, ?_⟩, ⟨?_, ?_, ?_, ?_⟩, ht⟩
  · rw [hrow 114 (by decide) (by decide)]; exact hE_same (fun k a b => hrow k (by omega) (by omega)) h0
  · rw [hrow 111 (by decide) (by decide)]; exact h2
  · rw [hrow 113 (by decide) (by decide)]; exact h3
  · rw [hrow 112 (by decide) (by decide), hrow 121 (by decide) (by decide)]; exact h4
  · rw [hrow 109 (by decide) (by decide), hrow 116 (by decide) (by decide)]; exact i0
  · rw [hrow 109 (by decide) (by decide), hrow 116 (by decide) (by decide)]; exact i1
  · rw [hrow 109 (by decide) (by decide), hrow 115 (by decide) (by decide)]
    exact fun z => hE_same (fun k a b => hrow k (by omega) (by omega)) (i2 z)
  · rw [hrow 109 (by decide) (by decide), hrow 115 (by decide) (by decide)]
    exact fun z => hE_same (fun k a b => hrow k (by omega) (by omega)) (i3 z)
theorem J_bad {s : zS} {t : zL} (hJ : jI s t) : jI (zu (zu s 0 9 (s 0 9 + 1)) 117 0 ((zu s 0 9 (s 0 9 + 1)) 117 0 + 1)) t := by
  have hc := hJ.2.1
  refine J_cnt hJ (fun k h1 h2 => by rw [zu_row _ _ h2, zu_row _ _ h1]) ⟨?_, ?_, ?_⟩
  · simp [zu, hc.1]
  · simp [zu, hc.2.1]
  · simp [zu, hc.2.2]
theorem J_no {s : zS} {t : zL} (hJ : jI s t) : jI (zu (zu s 0 10 (s 0 10 + 1)) 117 1 ((zu s 0 10 (s 0 10 + 1)) 117 1 + 1)) t := by
  have hc := hJ.2.1
  refine J_cnt hJ (fun k h1 h2 => by rw [zu_row _ _ h2, zu_row _ _ h1]) ⟨?_, ?_, ?_⟩
  · simp [zu, hc.1]
  · simp [zu, hc.2.1]
  · simp [zu, hc.2.2]
theorem J_full {s : zS} {t : zL} (hJ : jI s t) : jI (zu (zu s 0 11 (s 0 11 + 1)) 117 2 ((zu s 0 11 (s 0 11 + 1)) 117 2 + 1)) t := by
  have hc := hJ.2.1
  refine J_cnt hJ (fun k h1 h2 => by rw [zu_row _ _ h2, zu_row _ _ h1]) ⟨?_, ?_, ?_⟩
  · simp [zu, hc.1]
  · simp [zu, hc.2.1]
  · simp [zu, hc.2.2]
/-- both sides answer the same, and are tied again -/
def kI (l : Launch) (B : zB) (s : zS) (t : zL) (μ κ : zM) (as : List Value) : Prop := ∃ (x : Int32) (s1 : zS) (t1 : zL) (s2 : zS) (t2 : zL), zD l B μ s t (.ref (B.1 + 0) :: as) (some (.int x)) s1 t1 ∧ zD l B κ s1 t1 (.ref (B.1 + 113) :: as) (some (.int x)) s2 t2 ∧ jI s2 t2
def kL (l : Launch) (B : zB) (s : zS) (t : zL) (μ κ : zM) (as : List Value) : Prop := ∃ (x : Int64) (s1 : zS) (t1 : zL) (s2 : zS) (t2 : zL), zD l B μ s t (.ref (B.1 + 0) :: as) (some (.long x)) s1 t1 ∧ zD l B κ s1 t1 (.ref (B.1 + 113) :: as) (some (.long x)) s2 t2 ∧ jI s2 t2
theorem kI_of {l : Launch} {B : zB} {s : zS} {t : zL} {μ κ : zM} {as : List Value} {x y : Int32} {s1 s2 : zS} {t1 t2 : zL} (hc : zD l B μ s t (.ref (B.1 + 0) :: as) (some (.int x)) s1 t1) (hm : zD l B κ s1 t1 (.ref (B.1 + 113) :: as) (some (.int y)) s2 t2) (e : x = y) (hJ : jI s2 t2) : kI l B s t μ κ as := by
  subst e
  exact ⟨_, _, _, _, _, hc, hm, hJ⟩
theorem kL_of {l : Launch} {B : zB} {s : zS} {t : zL} {μ κ : zM} {as : List Value} {x y : Int64} {s1 s2 : zS} {t1 t2 : zL} (hc : zD l B μ s t (.ref (B.1 + 0) :: as) (some (.long x)) s1 t1) (hm : zD l B κ s1 t1 (.ref (B.1 + 113) :: as) (some (.long y)) s2 t2) (e : x = y) (hJ : jI s2 t2) : kL l B s t μ κ as := by
  subst e
  exact ⟨_, _, _, _, _, hc, hm, hJ⟩
section KJ
variable {l : Launch} {B : zB} {s : zS} {t : zL} {N M p : Nat}
theorem j_mOk (h : hR s 8 (s 114) N M p) : mOk s N := by
  obtain ⟨a, b, c, d, e, f, g⟩ := h
  refine ⟨a.2.2, a.1, fun d hd => ?_, ?_, ?_⟩
  · obtain ⟨c, h1, h2⟩ := (e d hd).2.1
    exact ⟨c, h1, by rw [← h2]; exact (e d hd).1.1.symm⟩
  · have := d.2.2.2.2.2.2.2.2.1
    rw [d.2.2.2.1] at this
    exact this
  · have := d.2.2.2.2.2.2.2.2.2
    rw [d.2.2.2.2.1] at this
    exact this
theorem j_K (h : hR s 8 (s 114) N M p) : ∀ d, d < N → ∃ c, c < 6 ∧ s (11 + d) 0 = nI c := fun d hd => (h.2.2.2.2.1 d hd).2.1
theorem j_N (h : hR s 8 (s 114) N M p) : s 8 4 = nI N := h.1.2.1
theorem j_6 (h : hR s 8 (s 114) N M p) : N ≤ 6 := h.1.1
theorem j_eN (h : hR s 8 (s 114) N M p) : s 8 4 = s 114 0 := h.1.2.1.trans h.1.2.2.symm
theorem j_r1 (h : hR s 8 (s 114) N M p) : r8 (s 9 1) := h.2.2.2.1.2.2.2.2.2.2.1
theorem j_r2 (h : hR s 8 (s 114) N M p) : r8 (s 9 2) := h.2.2.2.1.2.2.2.2.2.2.2.1
theorem j_r3 (h : hR s 8 (s 114) N M p) : r8 (s 9 3) := h.2.2.2.1.2.2.2.2.2.2.2.2.1
theorem j_r4 (h : hR s 8 (s 114) N M p) : r8 (s 9 4) := h.2.2.2.1.2.2.2.2.2.2.2.2.2
theorem j_e0 (h : hR s 8 (s 114) N M p) : s 9 0 = s 114 6 := h.2.2.2.1.1
theorem j_e1 (h : hR s 8 (s 114) N M p) : s 9 1 = s 114 1 := h.2.2.2.1.2.1
theorem j_e2 (h : hR s 8 (s 114) N M p) : s 9 2 = s 114 2 := h.2.2.2.1.2.2.1
theorem j_e3 (h : hR s 8 (s 114) N M p) : s 9 3 = s 114 3 := h.2.2.2.1.2.2.2.1
theorem j_e4 (h : hR s 8 (s 114) N M p) : s 9 4 = s 114 4 := h.2.2.2.1.2.2.2.2.1
theorem j_e5 (h : hR s 8 (s 114) N M p) : s 9 5 = s 114 5 := h.2.2.2.1.2.2.2.2.2.1
theorem wWho_congr {K L H K2 L2 H2 : Nat → Int32} {st d bu : Int32} : ∀ n, (∀ i, i < n → K i = K2 i ∧ L i = L2 i ∧ H i = H2 i) → wWho K L H st d bu n = wWho K2 L2 H2 st d bu n := by
  intro n
  induction n with
  | zero => intro _; rfl
  | succ n ih =>
    intro h
    obtain ⟨h1, h2, h3⟩ := h n (by omega)
    rw [wWho, wWho, ih (fun i hi => h i (by omega)), h1, h2, h3]
theorem wSum_congr {K P K2 P2 : Nat → Int32} {w : Int32} : ∀ n, (∀ i, i < n → K i = K2 i ∧ P i = P2 i) → wSum K P w n = wSum K2 P2 w n := by
  intro n
  induction n with
  | zero => intro _; rfl
  | succ n ih =>
    intro h
    obtain ⟨h1, h2⟩ := h n (by omega)
    rw [wSum, wSum, ih (fun i hi => h i (by omega)), h1, h2]
theorem wGlad_congr {K L H K2 L2 H2 : Nat → Int32} {bu : Int32} : ∀ n, (∀ i, i < n → K i = K2 i ∧ L i = L2 i ∧ H i = H2 i) → wGlad K L H bu n = wGlad K2 L2 H2 bu n := by
  intro n
  induction n with
  | zero => intro _; rfl
  | succ n ih =>
    intro h
    obtain ⟨h1, h2, h3⟩ := h n (by omega)
    rw [wGlad, wGlad, ih (fun i hi => h i (by omega)), h1, h2, h3]
theorem j_who (h : hR s 8 (s 114) N M p) (b : Int32) : wWho (fun d => s (11 + d) 0) (fun d => s (11 + d) 1) (fun d => s (11 + d) 2) (s 9 3 ||| s 9 4) (s 9 0) b N = mW s N b := by
  rw [mW, mS, j_e0 h, j_e3 h, j_e4 h]
  exact wWho_congr N (fun i hi => ⟨(h.2.2.2.2.1 i hi).1.1, (h.2.2.2.2.1 i hi).1.2.1, (h.2.2.2.2.1 i hi).1.2.2.1⟩)
theorem j_sum (h : hR s 8 (s 114) N M p) (w : Int32) : wSum (fun d => s (11 + d) 0) (fun d => s (11 + d) 3) w N = wSum (mK s) (mP s) w N :=
  wSum_congr N (fun i hi => ⟨(h.2.2.2.2.1 i hi).1.1, (h.2.2.2.2.1 i hi).1.2.2.2⟩)
theorem j_glad (h : hR s 8 (s 114) N M p) (b : Int32) : wGlad (fun d => s (11 + d) 0) (fun d => s (11 + d) 1) (fun d => s (11 + d) 2) b N = wGlad (mK s) (mL s) (mH s) b N :=
  wGlad_congr N (fun i hi => ⟨(h.2.2.2.2.1 i hi).1.1, (h.2.2.2.2.1 i hi).1.2.1, (h.2.2.2.2.1 i hi).1.2.2.1⟩)
/-- a deputy's number: there is one, or none, on both sides -/
theorem j_dep (h : hR s 8 (s 114) N M p) (x : Int32) : (∃ d, d < N ∧ x = nI d ∧ wIn x (s 114 0 - 1) = true) ∨ ((x < 0 ∨ s 8 4 ≤ x) ∧ wIn x (s 114 0 - 1) = false) := by
  have h6 := j_6 h
  have e1 : (nI N - 1).toInt = (N : Int) - 1 := pk_sub_toInt (a := N) (b := 1) (by omega) (by decide)
  rw [h.1.2.2, j_N h]
  by_cases h0 : x < 0
  · exact Or.inr ⟨Or.inl h0, decide_eq_false (fun z => z.1 h0)⟩
  · obtain ⟨j, hj, e⟩ := nI_of h0
    subst e
    have e2 : (nI j).toInt = (j : Int) := nI_toInt hj
    by_cases hjN : j < N
    · exact Or.inl ⟨j, hjN, rfl, decide_eq_true ⟨h0, by rw [Int32.lt_iff_toInt_lt, e1, e2]; omega⟩⟩
    · refine Or.inr ⟨Or.inr (nI_le (by omega) hj), decide_eq_false (fun z => z.2 ?_)⟩
      rw [Int32.lt_iff_toInt_lt, e1, e2]
      omega
theorem kI_bad {μ κ : zM} {as : List Value} {v : Int32} (hJ : jI s t) (hc : zD l B μ s t (.ref (B.1 + 0) :: as) (some (.int v)) (zu s 0 9 (s 0 9 + 1)) t) (hm : zD l B κ (zu s 0 9 (s 0 9 + 1)) t (.ref (B.1 + 113) :: as) (some (.int v)) (zu (zu s 0 9 (s 0 9 + 1)) 117 0 ((zu s 0 9 (s 0 9 + 1)) 117 0 + 1)) t) : kI l B s t μ κ as := ⟨_, _, _, _, _, hc, hm, J_bad hJ⟩
theorem kI_no {μ κ : zM} {as : List Value} {v : Int32} (hJ : jI s t) (hc : zD l B μ s t (.ref (B.1 + 0) :: as) (some (.int v)) (zu s 0 10 (s 0 10 + 1)) t) (hm : zD l B κ (zu s 0 10 (s 0 10 + 1)) t (.ref (B.1 + 113) :: as) (some (.int v)) (zu (zu s 0 10 (s 0 10 + 1)) 117 1 ((zu s 0 10 (s 0 10 + 1)) 117 1 + 1)) t) : kI l B s t μ κ as := ⟨_, _, _, _, _, hc, hm, J_no hJ⟩
theorem kI_full {μ κ : zM} {as : List Value} {v : Int32} (hJ : jI s t) (hc : zD l B μ s t (.ref (B.1 + 0) :: as) (some (.int v)) (zu s 0 11 (s 0 11 + 1)) t) (hm : zD l B κ (zu s 0 11 (s 0 11 + 1)) t (.ref (B.1 + 113) :: as) (some (.int v)) (zu (zu s 0 11 (s 0 11 + 1)) 117 2 ((zu s 0 11 (s 0 11 + 1)) 117 2 + 1)) t) : kI l B s t μ κ as := ⟨_, _, _, _, _, hc, hm, J_full hJ⟩
theorem kI_q {μ κ : zM} {as : List Value} {x y : Int32} {s2 : zS} (hJ : jI s t) (hc : zD l B μ s t (.ref (B.1 + 0) :: as) (some (.int x)) s t) (hm : zD l B κ s t (.ref (B.1 + 113) :: as) (some (.int y)) s2 t) (e : x = y) (hq : jQ s s2) : kI l B s t μ κ as := kI_of hc hm e (J_free hJ hq)
end KJ
