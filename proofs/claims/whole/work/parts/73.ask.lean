section KC
variable {l : Launch} {B : zB} {s : zS} {t : zL}
/-! courts: the class counts from none on, the model ends with none -/
theorem wAdd_0 (f : Nat → Int32) : ∀ n, wAdd f (n + 1) = f 0 + wAdd (fun i => f (i + 1)) n := by
  intro n
  induction n with
  | zero => rw [wAdd, wAdd, wAdd, Int32.zero_add, Int32.add_zero]
  | succ n ih => rw [wAdd, ih, wAdd, Int32.add_assoc]
theorem rotA {f g : Nat → Int32} {n : Nat} (h0 : f 0 = g n) (h1 : ∀ i, i < n → f (i + 1) = g i) : wAdd f (n + 1) = wAdd g (n + 1) := by
  rw [wAdd_0, wAdd, h0, wAdd_congr n h1, Int32.add_comm]
theorem wAll_0 (f : Nat → Bool) : ∀ n, wAll f (n + 1) = (f 0 && wAll (fun i => f (i + 1)) n) := by
  intro n
  induction n with
  | zero => rw [wAll, wAll, wAll, Bool.true_and, Bool.and_true]
  | succ n ih => rw [wAll, ih, wAll, Bool.and_assoc]
theorem rotB {f g : Nat → Bool} {n : Nat} (h0 : f 0 = g n) (h1 : ∀ i, i < n → f (i + 1) = g i) : wAll f (n + 1) = wAll g (n + 1) := by
  rw [wAll_0, wAll, h0, wAll_congr n h1, Bool.and_comm]
/-- the class's number x stands for the model's number i of N -/
def tw2 (N : Nat) (x : Int32) (i : Nat) : Prop := (x = -1 ∧ i = N) ∨ (x = nI i ∧ i < N)
theorem tw_o0 (N : Nat) : tw2 N (wOth 0) N := Or.inl ⟨by decide, rfl⟩
theorem tw_os {N i : Nat} (h : i < N) : tw2 N (wOth (i + 1)) i := Or.inr ⟨by
  rw [wOth, ← nI_add i 1]
  show nI i + 1 - 1 = nI i
  exact Int32.add_sub_cancel _ _, h⟩
theorem lk_all : ∀ n, n < 256 → ∀ j, j < 6 → (wBit (nI j) &&& (nI n ^^^ (-1)) = 0 ↔ ¬ nI n &&& wBit (nI j) = 0) ∧ ∀ i, i < 6 → ((wBit (nI j) &&& (nI n ^^^ (-1))) &&& (wBit (nI i) ^^^ (-1)) = 0 ↔ (j = i ∨ ¬ nI n &&& wBit (nI j) = 0)) := by decide +kernel
theorem wWho_hi {K L H : Nat → Int32} {sl d bu : Int32} {k : Nat} (hk : k < 8) : ∀ n, n ≤ k → wWho K L H sl d bu n &&& wBit (nI k) = 0 := by
  intro n
  induction n with
  | zero => intro _; rw [wWho, Int32.zero_and]
  | succ n ih =>
    intro hn
    rw [wWho]
    split
    · rw [and_or, ih (by omega), (bit_ne k hk n (by omega) (by omega)).2, Int32.or_zero]
    · exact ih (by omega)
theorem and_no {x m : Int32} (h : x &&& m = 0) : x &&& (m ^^^ (-1)) = x := by
  have e : x = (x &&& m) ||| (x &&& (m ^^^ (-1))) := by
    apply Int32.toBitVec_inj.mp
    simp only [Int32.toBitVec_and, Int32.toBitVec_or, Int32.toBitVec_xor]
    have e1 : (-1 : Int32).toBitVec = BitVec.allOnes 32 := by decide
    rw [e1, BitVec.xor_allOnes, ← BitVec.and_or_distrib_left]
    have e2 : m.toBitVec ||| ~~~m.toBitVec = BitVec.allOnes 32 := by
      ext i hi
      simp only [BitVec.getElem_or, BitVec.getElem_not, BitVec.getElem_allOnes, Bool.or_not_self]
    rw [e2, BitVec.and_allOnes]
  rw [h, Int32.zero_or] at e
  exact e.symm
theorem bet_eq {N : Nat} (h6 : N ≤ 6) {lk bu w bo hi : Int32} {i j : Nat} (hl : r8 lk) (hw : w &&& wBit (nI N) = 0) (hi1 : tw2 N bo i) (hi2 : tw2 N hi j) : wBet lk bu w bo hi = mBet lk N bu w (nI i) (nI j) := by
  rw [wBet, mBet]
  congr 1
  obtain ⟨n, hn, rfl⟩ := r8_ex hl
  have hb1 : wBit (-1) = 0 := by decide
  have hN : ∀ k, k < N → ¬ nI N ≤ nI k := fun k hk => nI_ge hk (by omega)
  have ew : w &&& (wBit bo ^^^ (-1)) = w &&& (((1 : Int32) <<< (nI i &&& 31)) ^^^ (-1)) := by
    rcases hi1 with ⟨rfl, rfl⟩ | ⟨rfl, h⟩
    · rw [hb1, and_all, ← wBit_nI (by omega), and_no hw]
    · rw [wBit_nI (by omega)]
  rw [and_or, ew]
  have ey : (¬ (wBit hi &&& (nI n ^^^ (-1))) &&& (wBit bo ^^^ (-1)) = 0) ↔ (¬ nI N ≤ nI j ∧ ¬ nI j = nI i) ∧ wHas (nI n) (nI j) = false := by
    rcases hi2 with ⟨rfl, rfl⟩ | ⟨rfl, h2⟩
    · rw [hb1, Int32.zero_and, Int32.zero_and]
      exact ⟨fun z => absurd rfl z, fun z => absurd Int32.le_rfl z.1.1⟩
    · have hh : wHas (nI n) (nI j) = false ↔ nI n &&& wBit (nI j) = 0 := by
        have := has_bit hl (i := j) (by omega)
        cases hc : wHas (nI n) (nI j) with
        | true => rw [hc] at this; simp only [true_iff] at this; exact ⟨fun z => Bool.noConfusion z, fun z => absurd z this⟩
        | false => rw [hc] at this; exact ⟨fun _ => Classical.byContradiction fun z => Bool.noConfusion (this.mpr z), fun _ => rfl⟩
      have hA := lk_all n hn j (by omega)
      rcases hi1 with ⟨rfl, rfl⟩ | ⟨rfl, h1⟩
      · rw [hb1, and_all, hA.1, hh]
        refine ⟨fun z => ⟨⟨hN j h2, fun e => ?_⟩, Classical.byContradiction fun y => z y⟩, fun z y => y z.2⟩
        have := (nI_eq (by omega) (by omega)).mp e
        omega
      · rw [hA.2 i (by omega), hh]
        constructor
        · intro z
          refine ⟨⟨hN j h2, fun e => ?_⟩, Classical.byContradiction fun y => z (Or.inr y)⟩
          exact z (Or.inl ((nI_eq (by omega) (by omega)).mp e))
        · intro z y
          rcases y with y | y
          · exact z.1.2 (by rw [y])
          · exact y z.2
  generalize w &&& (((1 : Int32) <<< (nI i &&& 31)) ^^^ (-1)) = u
  generalize (wBit hi &&& (nI n ^^^ (-1))) &&& (wBit bo ^^^ (-1)) = v at ey ⊢
  have e2 : ((decide (¬ nI N ≤ nI j) && decide (¬ nI j = nI i)) && !wHas (nI n) (nI j)) = decide (¬ v = 0) := by
    rw [Bool.eq_iff_iff]
    simp only [Bool.and_eq_true, decide_eq_true_eq, Bool.not_eq_true', ey]
  rw [e2, Bool.eq_iff_iff]
  simp only [Bool.or_eq_true, decide_eq_true_eq, or_0]
  constructor
  · intro z
    by_cases hu : u = 0
    · exact Or.inr (fun y => z ⟨hu, y⟩)
    · exact Or.inl hu
  · intro z y
    rcases z with z | z
    · exact z y.1
    · exact z y.2
theorem pair_eq {N : Nat} (h6 : N ≤ 6) {lk bu w bo hi : Int32} {i j : Nat} (hl : r8 lk) (hw : w &&& wBit (nI N) = 0) (hi1 : tw2 N bo i) (hi2 : tw2 N hi j) : wPair lk bu w bo hi (N + 1) = mPair lk N bu w i j := by
  rw [wPair, mPair]
  have e0 := bet_eq h6 (bu := bu) hl hw hi1 hi2
  have one : ∀ (x : Int32) (o : Nat), tw2 N x o → ((if wBet lk bu w bo hi = true then wBet lk bu w x hi else wBet lk bu w bo x) == wBet lk bu w bo hi) = mOw lk N bu w i j o := by
    intro x o hx
    rw [mOw, bet_eq h6 hl hw hx hi2, bet_eq h6 hl hw hi1 hx, e0]
    cases mBet lk N bu w (nI i) (nI j) <;> simp
  refine rotB ?_ ?_
  · exact one _ _ (tw_o0 N)
  · intro o ho
    exact one _ _ (tw_os ho)
theorem k_courts (hJ : jI s t) (b : Int32) : kI l B s t mX11_courts mX12_courts [.int b] := by
  obtain ⟨N, M, p, h⟩ := hJ.1
  have h6 := j_6 h
  cases hb : wIn b 255 with
  | false => exact kI_bad hJ (c_X11_courts_bad l B s t b hb) (c_X12_courts_bad l B _ t b hb)
  | true =>
    refine kI_q hJ (c_X11_courts_ok l B s t b hb N (j_N h) (j_6 h) (j_K h)) (c_X12_courts_ok l B s t N (j_mOk h) b hb) ?_ jQ.hand
    rw [j_who h, j_e4 h]
    have hl : r8 (s 114 4) := by rw [← j_e4 h]; exact j_r4 h
    have hw : mW s N b &&& wBit (nI N) = 0 := wWho_hi (by omega) N (Nat.le_refl _)
    have row : ∀ (x : Int32) (i : Nat), tw2 N x i → wAdd (fun j => zi (wPair (s 114 4) b (mW s N b) x (wOth j) (N + 1))) (N + 1) = wAdd (fun j => zi (mPair (s 114 4) N b (mW s N b) i j)) (N + 1) := by
      intro x i hx
      refine rotA ?_ ?_
      · rw [pair_eq h6 hl hw hx (tw_o0 N)]
      · intro j hj; rw [pair_eq h6 hl hw hx (tw_os hj)]
    refine rotA ?_ ?_
    · exact row _ _ (tw_o0 N)
    · intro i hi; exact row _ _ (tw_os hi)
/-! away -/
theorem J_long {t2 : zL} (hJ : jI s t) (h1 : t2 0 7 = t2 113 4) (h2 : t2 0 8 = t2 113 5) : jI s t2 := ⟨hJ.1, hJ.2.1, hJ.2.2.1, hJ.2.2.2.1, h1, h2⟩
theorem k_aw {N M p : Nat} {b : Int32} (hJ : jI s t) (h : hR s 8 (s 114) N M p) (hb : wIn b 255 = true) (c : Nat) (hc : c < 11) {u v : Int32} (hu : wU c = u) (hv : wV c = v) (H : zD l B mX11_away s t [.ref (B.1 + 0), .int b, .int (nI c)] (some (.int 1)) s (wFr t u v (pcN (wWho (fun d => s (11 + d) 0) (fun d => s (11 + d) 1) (fun d => s (11 + d) 2) (s 9 3 ||| s 9 4) (s 9 0) b N).toBitVec.toNat))) : kI l B s t mX11_away mX12_away [.int b, .int (nI c)] := by
  refine kI_of H (c_X12_away_ok l B s _ N (j_mOk h) b hb c hc) rfl (J_long (J_free hJ jQ.hand) ?_ ?_)
  · rw [j_who h, hu]
    simp [mFr2, wFr, zv]
  · rw [j_who h, hv]
    simp [mFr2, wFr, zv]
theorem k_away (hJ : jI s t) (b c : Int32) : kI l B s t mX11_away mX12_away [.int b, .int c] := by
  obtain ⟨N, M, p, h⟩ := hJ.1
  cases hb : (wIn b 255 && wIn c 10) with
  | false => exact kI_bad hJ (c_X11_away_bad l B s t b c hb) (c_X12_away_bad l B _ t b c hb)
  | true =>
    rw [Bool.and_eq_true] at hb
    obtain ⟨hb, hc⟩ := hb
    obtain ⟨j, hj, rfl⟩ := wIn_in (n := 10) (by decide) hc
    rcases (show j = 0 ∨ j = 1 ∨ j = 2 ∨ j = 3 ∨ j = 4 ∨ j = 5 ∨ j = 6 ∨ j = 7 ∨ j = 8 ∨ j = 9 ∨ j = 10 by omega) with rfl | rfl | rfl | rfl | rfl | rfl | rfl | rfl | rfl | rfl | rfl
    · exact k_aw hJ h hb 0 (by decide) rfl rfl (c_X11_away_0 l B s t b hb N (j_N h) (j_6 h) (j_K h))
    · exact k_aw hJ h hb 1 (by decide) rfl rfl (c_X11_away_1 l B s t b hb N (j_N h) (j_6 h) (j_K h))
    · exact k_aw hJ h hb 2 (by decide) rfl rfl (c_X11_away_2 l B s t b hb N (j_N h) (j_6 h) (j_K h))
    · exact k_aw hJ h hb 3 (by decide) rfl rfl (c_X11_away_3 l B s t b hb N (j_N h) (j_6 h) (j_K h))
    · exact k_aw hJ h hb 4 (by decide) rfl rfl (c_X11_away_4 l B s t b hb N (j_N h) (j_6 h) (j_K h))
    · exact k_aw hJ h hb 5 (by decide) rfl rfl (c_X11_away_5 l B s t b hb N (j_N h) (j_6 h) (j_K h))
    · exact k_aw hJ h hb 6 (by decide) rfl rfl (c_X11_away_6 l B s t b hb N (j_N h) (j_6 h) (j_K h))
    · exact k_aw hJ h hb 7 (by decide) rfl rfl (c_X11_away_7 l B s t b hb N (j_N h) (j_6 h) (j_K h))
    · exact k_aw hJ h hb 8 (by decide) rfl rfl (c_X11_away_8 l B s t b hb N (j_N h) (j_6 h) (j_K h))
    · exact k_aw hJ h hb 9 (by decide) rfl rfl (c_X11_away_9 l B s t b hb N (j_N h) (j_6 h) (j_K h))
    · exact k_aw hJ h hb 10 (by decide) rfl rfl (c_X11_away_10 l B s t b hb N (j_N h) (j_6 h) (j_K h))
/-! digest -/
theorem j_G1 {N M p : Nat} (hJ : jI s t) (h : hR s 8 (s 114) N M p) : ∀ n, n ≤ 8 → wG1 s n = mG1 s n := by
  intro n
  induction n with
  | zero => intro _; rfl
  | succ n ih => intro hn; rw [wG1, mG1, ih (by omega), j_how hJ h n (by omega)]
theorem j_DD {N M p : Nat} (h : hR s 8 (s 114) N M p) (x : Int64) {d : Nat} (hd : d < N) : wDD s x d = mDD (s 114) x d := by
  have hD := h.2.2.2.2.1 d hd
  have h6 := j_6 h
  have a0 : s (11 + d) 0 = s 114 (9 + 4 * d + 0) := hD.1.1
  have a1 : s (11 + d) 1 = s 114 (9 + 4 * d + 1) := hD.1.2.1
  have a2 : s (11 + d) 2 = s 114 (9 + 4 * d + 2) := hD.1.2.2.1
  have a3 : s (11 + d) 3 = s 114 (9 + 4 * d + 3) := hD.1.2.2.2
  rw [wDD, mDD, shr_bit (by rw [← j_e3 h]; exact j_r3 h) (by omega), shr_bit (by rw [← j_e4 h]; exact j_r4 h) (by omega), j_e3 h, j_e4 h, a0, a1, a2, a3]
  rfl
theorem j_G2 {N M p : Nat} (h : hR s 8 (s 114) N M p) (x : Int64) : ∀ n, n ≤ N → wG2 s N x n = mG2 (s 114) x n := by
  intro n
  induction n with
  | zero => intro _; rfl
  | succ n ih => intro hn; rw [wG2, mG2, if_pos (by omega), ih (by omega), j_DD h _ (by omega)]
theorem j_G2s {N : Nat} (x : Int64) : ∀ k, wG2 s N x (N + k) = wG2 s N x N := by
  intro k
  induction k with
  | zero => rfl
  | succ k ih => rw [← Nat.add_assoc, wG2, if_neg (by omega), ih]
theorem j_G3 {N M p : Nat} (h : hR s 8 (s 114) N M p) (x : Int64) : ∀ n, n ≤ M → wG3 s M x n = mSum (s 114) 33 x (4 * n) := by
  intro n
  induction n with
  | zero => intro _; rfl
  | succ n ih =>
    intro hn
    obtain ⟨⟨e0, e1, e2, e3⟩, -⟩ := h.2.2.2.2.2.1 n (by omega)
    have a0 : s (18 + n) 0 = s 114 (33 + 4 * n) := e0
    have a1 : s (18 + n) 1 = s 114 (33 + 4 * n + 1) := e1
    have a2 : s (18 + n) 2 = s 114 (33 + 4 * n + 2) := e2
    have a3 : s (18 + n) 3 = s 114 (33 + 4 * n + 3) := e3
    rw [wG3, if_pos (by omega), ih (by omega), wDN, a0, a1, a2, a3, show 4 * (n + 1) = 4 * n + 1 + 1 + 1 + 1 by omega, mSum, mSum, mSum, mSum]
    rfl
theorem j_G3s {M : Nat} (x : Int64) : ∀ k, wG3 s M x (M + k) = wG3 s M x M := by
  intro k
  induction k with
  | zero => rfl
  | succ k ih => rw [← Nat.add_assoc, wG3, if_neg (by omega), ih]
theorem k_digest (hJ : jI s t) : kL l B s t mX11_digest mX12_digest [] := by
  obtain ⟨N, M, p, h⟩ := hJ.1
  have h6 := j_6 h
  have hM6 := j_M6 h
  refine kL_of (c_X11_digest l B s t N M (j_N h) (j_6 h) (j_M h) (j_M6 h) (j_r1 h) (j_r2 h)) (c_X12_digest l B s t N M h.1.2.2 (j_6 h) (j_M2 h) (j_M6 h) (by rw [← j_e1 h]; exact j_r1 h) (by rw [← j_e2 h]; exact j_r2 h)) ?_ hJ
  have x2 : ∀ x, wG2 s N x 6 = mG2 (s 114) x N := fun x => by
    have := j_G2s (s := s) (N := N) x (6 - N)
    rw [show N + (6 - N) = 6 by omega] at this
    rw [this, j_G2 h x N (Nat.le_refl _)]
  have x3 : ∀ x, wG3 s M x 6 = mSum (s 114) 33 x (4 * M) := fun x => by
    have := j_G3s (s := s) (M := M) x (6 - M)
    rw [show M + (6 - M) = 6 by omega] at this
    rw [this, j_G3 h x M (Nat.le_refl _)]
  rw [wG, mG, x3, x2, j_G1 hJ h 8 (Nat.le_refl _), j_e1 h, j_e2 h, hJ.2.2.2.2.1, hJ.2.2.2.2.2]
  rfl
end KC
