/-! plain words that both sides are tied to -/
theorem nI_inc (i : Nat) : nI i + Int32.ofInt 1 = nI (i + 1) := nI_1 i
/-- 8 bits -/
def r8 (x : Int32) : Prop := x &&& 255 = x
theorem r8_nI : ∀ n, n < 256 → nI n &&& 255 = nI n := by decide +kernel
theorem r8_of {n : Nat} (h : n < 256) : r8 (nI n) := r8_nI n h
theorem r8_ex {x : Int32} (h : r8 x) : ∃ n, n < 256 ∧ x = nI n := by
  obtain ⟨j, h1, h2⟩ := pk_andE x (m := 255) 8 (by decide)
  exact ⟨j, h1, by rw [← h2]; exact h.symm⟩
theorem r8_and {x y : Int32} (h : r8 x) : r8 (x &&& y) := by
  unfold r8 at *
  rw [Int32.and_assoc, Int32.and_comm y 255, ← Int32.and_assoc, h]
theorem r8_and' {x y : Int32} (h : r8 y) : r8 (x &&& y) := by
  unfold r8 at *
  rw [Int32.and_assoc, h]
theorem r8_or {x y : Int32} (h : r8 x) (k : r8 y) : r8 (x ||| y) := by
  unfold r8 at *
  have e : (x ||| y) &&& 255 = (x &&& 255) ||| (y &&& 255) := by
    apply Int32.toBitVec_inj.mp
    simp only [Int32.toBitVec_and, Int32.toBitVec_or]
    exact BitVec.and_or_distrib_right
  rw [e, h, k]
/-- how many bits of the 8 are set -/
def pcN (n : Nat) : Nat := n % 2 + n / 2 % 2 + n / 4 % 2 + n / 8 % 2 + n / 16 % 2 + n / 32 % 2 + n / 64 % 2 + n / 128 % 2
def wPop (x : Int32) : Int32 := nI (pcN x.toBitVec.toNat)
theorem pcN_lt (n : Nat) : pcN n ≤ 8 := by unfold pcN; omega
/-- 0 .. b -/
def wIn (x b : Int32) : Bool := decide (¬ x < 0 ∧ ¬ b < x)
/-- the bit of a place; none below 0 -/
def wBit (x : Int32) : Int32 := if x < 0 then 0 else (1 : Int32) <<< (x &&& 31)
def wMax (a b : Int32) : Int32 := if a < b then b else a
/-- the kinds: joy, stopping, cost -/
def wJoy (k l h : Int32) : Int32 := if k = 2 ∨ k = 4 then 2 * l - 3 * h + 2 else 2 * l - 3 * h
def wRef (k j h d : Int32) : Bool := if k = 1 then decide (j < 0) || decide (0 < h) else if k = 4 then decide (d - d / 2 * 2 = 0) && decide (j < 0) else if k = 5 then (decide (j < 0) || decide (0 < h)) || decide (d - d / 5 * 5 = 0) else decide (j < 0)
def wCost (k p : Int32) : Int32 := if k = 3 then (p + 1) / 2 else if k = 5 then 2 * p else p
/-- whether one would stop a bundle on a day -/
def wStop (k lo ha bu d : Int32) : Bool := if bu = 0 then false else wRef k (wJoy k (wPop (lo &&& bu)) (wPop (ha &&& bu))) (wPop (ha &&& bu)) d
/-- who stops it, of the first n -/
def wWho (K L H : Nat → Int32) (still d bu : Int32) : Nat → Int32
  | 0 => 0
  | n + 1 => if (still &&& wBit (nI n) = 0) ∧ wStop (K n) (L n) (H n) bu d = true then wWho K L H still d bu n ||| wBit (nI n) else wWho K L H still d bu n
/-- what they cost together -/
def wSum (K P : Nat → Int32) (who : Int32) : Nat → Int32
  | 0 => 0
  | n + 1 => if who &&& wBit (nI n) = 0 then wSum K P who n else wSum K P who n + wCost (K n) (P n)
