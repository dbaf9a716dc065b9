def mNm (s : zS) (b : Nat → Int32) (n q k : Nat) (up : Int32) : Bool × zS × Nat := if tK b n q = 2 ∧ wIn (mV b n q) up = true then (true, zu s 123 k (mV b n q), tN b n q) else (false, s, q)
theorem mNm_le {s : zS} {b : Nat → Int32} {n q k : Nat} {up : Int32} (h : q ≤ n) : (mNm s b n q k up).2.2 ≤ n := by
  unfold mNm
  split
  · exact tN_le h
  · exact h
theorem mNm_row {s : zS} {b : Nat → Int32} {n q k : Nat} {up : Int32} {i : Nat} (h : i ≠ 123) : (mNm s b n q k up).2.1 i = s i := by
  unfold mNm
  split
  · exact zu_row _ _ h
  · rfl
theorem c_mNm (l : Launch) (B : zB) (s : zS) (t : zL) (b : Nat → Int32) (hb : s 121 = b) (n : Nat) (hn : s 113 12 = nI n) (h150 : n ≤ 150) (q : Nat) (hq : q ≤ n) (k : Nat) (hk : k < 3) (up : Int32) : zD l B mX12_takes (mT s b n q) t [.ref (B.1 + 113), .int (nI k), .int 0, .int up] (some (.int (zi (mNm s b n q k up).1))) (mT (mNm s b n q k up).2.1 b n (mNm s b n q k up).2.2) t := by
  unfold mNm
  split
  · next h => exact c_X12_takes_ok l B s t b hb n hn h150 q hq k hk up h.1 h.2
  · next h => exact c_X12_takes_no l B s t b hb n hn h150 q hq k hk up h
/-- the laws from q on: f tokens at most -/
def mLw (b : Nat → Int32) (n : Nat) : Nat → Nat → Int32 → zS → Bool × Int32 × zS × Nat
  | 0, q, a, s => (true, a, s, q)
  | f + 1, q, a, s => if tK b n q = 2 then (if wIn (mV b n q) 7 = true then mLw b n f (tN b n q) (a ||| ((1 : Int32) <<< (mV b n q &&& 31))) (zu s 123 2 (mV b n q)) else (false, a, s, q)) else (true, a, s, q)
abbrev mX12_takesLaws : zM := (yX12_takesLaws, cX12_takesLaws, 3, (some .boolean), { frames := 5, cells := 0, slots := 0, locals := 112 })
