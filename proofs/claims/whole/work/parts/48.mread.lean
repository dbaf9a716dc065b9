theorem mT_beg (s : zS) (b : Nat → Int32) (n q : Nat) (d : Int32) : wBeg (mT s b n q) 122 d = mT (wBeg s 122 d) b n q := by
  funext i j
  by_cases hi : i = 113
  · subst hi
    simp [wBeg, wZero, zu, mT, mTf]
  · by_cases h2 : i = 122
    · subst h2; simp [wBeg, wZero, zu, mT, mTf]
    · simp [wBeg, wZero, zu, mT, mTf, hi, h2]
def mHou (s : zS) (b : Nat → Int32) (n q : Nat) : Bool × zS × Nat :=
  if tIs b n q 0 = true then
    (if (mNm s b n (tN b n q) 0 99).1 = true then (decide (tK b n (tN b n (tN b n q)) = 3), wBeg (zu s 123 0 (mV b n (tN b n q))) 122 (mV b n (tN b n q)), tN b n (tN b n q)) else (false, s, tN b n q))
  else (false, s, q)
