theorem wMax_nI {i : Nat} (h : i < 2 ^ 31) : wMax (nI i) 0 = nI i := by rw [wMax, if_neg (nI_pos h)]
/-- where a run of bytes from lo to hi ends: f bytes from i on -/
def tRun (b : Nat → Int32) (lo hi : Int32) : Nat → Nat → Nat
  | 0, i => i
  | f + 1, i => if ¬ b i < lo ∧ ¬ hi < b i then tRun b lo hi f (i + 1) else i
def tEnd (b : Nat → Int32) (n : Nat) (lo hi : Int32) (i : Nat) : Nat := tRun b lo hi (n - i) i
theorem tRun_ge (b : Nat → Int32) (lo hi : Int32) : ∀ f i, i ≤ tRun b lo hi f i := by
  intro f
  induction f with
  | zero => intro i; exact Nat.le_refl _
  | succ f ih =>
    intro i
    rw [tRun]
    split
    · exact Nat.le_trans (Nat.le_succ i) (ih (i + 1))
    · exact Nat.le_refl _
theorem tRun_le (b : Nat → Int32) (lo hi : Int32) : ∀ f i, tRun b lo hi f i ≤ i + f := by
  intro f
  induction f with
  | zero => intro i; exact Nat.le_refl _
  | succ f ih =>
    intro i
    rw [tRun]
    split
    · have := ih (i + 1); omega
    · omega
theorem tEnd_ge (b : Nat → Int32) (n : Nat) (lo hi : Int32) (i : Nat) : i ≤ tEnd b n lo hi i := tRun_ge b lo hi _ i
theorem tEnd_le (b : Nat → Int32) {n : Nat} (lo hi : Int32) {i : Nat} (h : i ≤ n) : tEnd b n lo hi i ≤ n := by have := tRun_le b lo hi (n - i) i; unfold tEnd; omega
/-- the figures from q on -/
def tNum (b : Nat → Int32) (q : Nat) : Nat → Int32
  | 0 => 0
  | k + 1 => 10 * tNum b q k + b (q + k) - 48
/-- the token that begins at q: its sort, its end, its value -/
def tK (b : Nat → Int32) (n q : Nat) : Int32 := if n ≤ q then 0 else if q < tEnd b n 97 122 q then 1 else if q < tEnd b n 48 57 q then (if tEnd b n 48 57 q - q ≤ 2 then 2 else 4) else if b q = 59 then 3 else 4
def tE (b : Nat → Int32) (n q : Nat) : Nat := if n ≤ q then q else if q < tEnd b n 97 122 q then tEnd b n 97 122 q else if q < tEnd b n 48 57 q then tEnd b n 48 57 q else q + 1
def tV (b : Nat → Int32) (n q : Nat) (v : Int32) : Int32 := if n ≤ q then v else if q < tEnd b n 97 122 q then v else if q < tEnd b n 48 57 q then tNum b q (tEnd b n 48 57 q - q) else v
/-- the token behind p -/
def tA (b : Nat → Int32) (n p : Nat) : Nat := tEnd b n 32 32 p
def tN (b : Nat → Int32) (n q : Nat) : Nat := tA b n (tE b n q)
theorem tE_le {b : Nat → Int32} {n q : Nat} (h : q ≤ n) : tE b n q ≤ n := by
  unfold tE
  split
  · exact h
  · split
    · exact tEnd_le b _ _ h
    · split
      · exact tEnd_le b _ _ h
      · omega
theorem tA_le {b : Nat → Int32} {n q : Nat} (h : q ≤ n) : tA b n q ≤ n := tEnd_le b _ _ h
theorem tN_le {b : Nat → Int32} {n q : Nat} (h : q ≤ n) : tN b n q ≤ n := tA_le (tE_le h)
theorem tE_gt {b : Nat → Int32} {n q : Nat} (h : q < n) : q < tE b n q := by
  unfold tE
  rw [if_neg (by omega)]
  split
  · assumption
  · split
    · assumption
    · omega
theorem tN_gt {b : Nat → Int32} {n q : Nat} (h : q < n) : q < tN b n q := Nat.lt_of_lt_of_le (tE_gt h) (tEnd_ge b n 32 32 _)
/-- the store with the text's row at a token -/
def cTf (s : zS) (n : Nat) (a c k v : Int32) : zS := fun i j => if i = 111 then (if j = 1 then nI n else if j = 2 then a else if j = 3 then c else if j = 4 then k else if j = 5 then v else s 111 j) else s i j
def cT (s : zS) (b : Nat → Int32) (n q : Nat) (v : Int32) : zS := cTf s n (nI q) (nI (tE b n q)) (tK b n q) v
theorem cTf_v {s : zS} {n : Nat} (hn : s 111 1 = nI n) (a c k v : Int32) : zu (zu (zu (zu s 111 2 a) 111 4 k) 111 3 c) 111 5 v = cTf s n a c k v := by
  funext i j
  simp only [zu, cTf]
  by_cases hi : i = 111
  · subst hi
    by_cases h1 : j = 1
    · subst h1; simp [hn]
    · by_cases h2 : j = 2
      · subst h2; simp
      · by_cases h3 : j = 3
        · subst h3; simp
        · by_cases h4 : j = 4
          · subst h4; simp
          · by_cases h5 : j = 5
            · subst h5; simp
            · simp [h1, h2, h3, h4, h5]
  · simp [hi]
theorem cTf_n {s : zS} {n : Nat} (hn : s 111 1 = nI n) (a c k : Int32) : zu (zu (zu s 111 2 a) 111 4 k) 111 3 c = cTf s n a c k (s 111 5) := by
  rw [← cTf_v hn, show s 111 5 = zu (zu (zu s 111 2 a) 111 4 k) 111 3 c 111 5 by simp [zu], zu_self]
theorem cT_row (s : zS) (b : Nat → Int32) (n q : Nat) (v : Int32) {k : Nat} (h : k ≠ 111) : cT s b n q v k = s k := by funext j; simp [cT, cTf, h]
theorem cT_cT (s : zS) (b : Nat → Int32) (n q : Nat) (v : Int32) (q2 : Nat) (v2 : Int32) : cT (cT s b n q v) b n q2 v2 = cT s b n q2 v2 := by
  funext i j
  simp only [cT, cTf]
  split
  · split
    · rfl
    · split
      · rfl
      · split
        · rfl
        · split
          · rfl
          · split
            · rfl
            · simp_all
  · rfl
theorem cT_1 (s : zS) (b : Nat → Int32) (n q : Nat) (v : Int32) : cT s b n q v 111 1 = nI n := by simp [cT, cTf]
theorem cT_2 (s : zS) (b : Nat → Int32) (n q : Nat) (v : Int32) : cT s b n q v 111 2 = nI q := by simp [cT, cTf]
theorem cT_3 (s : zS) (b : Nat → Int32) (n q : Nat) (v : Int32) : cT s b n q v 111 3 = nI (tE b n q) := by simp [cT, cTf]
theorem cT_4 (s : zS) (b : Nat → Int32) (n q : Nat) (v : Int32) : cT s b n q v 111 4 = tK b n q := by simp [cT, cTf]
theorem cT_5 (s : zS) (b : Nat → Int32) (n q : Nat) (v : Int32) : cT s b n q v 111 5 = v := by simp [cT, cTf]
abbrev mX9_endOfRun : zM := (yX9_endOfRun, cX9_endOfRun, 5, (some .int), { frames := 1, cells := 0, slots := 0, locals := 21 })
set_option maxRecDepth 100000 in
set_option maxHeartbeats 4000000 in
theorem l_X9_endOfRun {l : Launch} {B : zB} {s : zS} {t : zL} {X : zX} (hl : X.2.1 = l) (C : zC X B mX9_endOfRun) (b : Nat → Int32) (hb : s 112 = b) (n : Nat) (hn : s 111 1 = nI n) (h150 : n ≤ 150) (a lo hi : Int32) (r : Nat) (E : zE X B mX9_endOfRun 124 0 0 (zR B (some (.int (nI r))) s t)) : ∀ (m : Nat) (j : Nat), j + m = n → tRun b lo hi m j = r → Zf X B mX9_endOfRun s t 7 [(4, .int (nI j)), (0, .ref (B.1 + 111)), (1, .int a), (2, .int lo), (3, .int hi)] [] := by
  intro m
  induction m with
  | zero =>
    intro j hj hr
    refine z_iload C dX9_endOfRun_7 0 rfl ?_
    refine z_aload_n C dX9_endOfRun_9 1 rfl rfl ?_
    refine f_get9 C 1 (v := .int (s 111 1)) (by decide) tw_203 rfl zk_111 zb_111 rfl dX9_endOfRun_10 ?_
    refine f_topi (y := nI n) hn ?_
    refine z_icmp_ge C 54 dX9_endOfRun_13 (by decide) (fun _ => ?_) (fun hbr => absurd (nI_le (by omega) (by omega)) hbr)
    refine z_iload C dX9_endOfRun_54 0 rfl ?_
    refine z_iret C E rfl dX9_endOfRun_56 rfl (Nat.le_refl _) ⟨by rw [← hr]; rfl, rfl⟩
  | succ m ih =>
    intro j hj0 hr
    have hj : j < n := by omega
    refine z_iload C dX9_endOfRun_7 0 rfl ?_
    refine z_aload_n C dX9_endOfRun_9 1 rfl rfl ?_
    refine f_get9 C 1 (v := .int (s 111 1)) (by decide) tw_203 rfl zk_111 zb_111 rfl dX9_endOfRun_10 ?_
    refine f_topi (y := nI n) hn ?_
    refine z_icmp_ge C 54 dX9_endOfRun_13 (by decide) (fun hbr => absurd hbr (nI_ge hj (by omega))) (fun _ => ?_)
    refine z_iload C dX9_endOfRun_16 0 rfl ?_
    refine z_aload_n C dX9_endOfRun_18 1 rfl rfl ?_
    refine f_get9 C 0 (v := .ref (B.1 + 112)) (by decide) tw_202 rfl zk_111 zb_111 rfl dX9_endOfRun_19 ?_
    refine f_alen21 C (v := 150) zk_112 zb_112 rfl dX9_endOfRun_22 ?_
    refine z_icmp_ge C 54 dX9_endOfRun_23 (by decide) (fun hbr => absurd hbr (show ¬ nI 150 ≤ nI j from nI_ge (by omega) (by decide))) (fun _ => ?_)
    refine z_aload_n C dX9_endOfRun_26 1 rfl rfl ?_
    refine f_get9 C 0 (v := .ref (B.1 + 112)) (by decide) tw_202 rfl zk_111 zb_111 rfl dX9_endOfRun_27 ?_
    refine z_iload C dX9_endOfRun_30 0 rfl ?_
    refine f_baldL C zk_112 zb_112 (ixN (n := 150) rfl (by omega) (by decide)).1 (j := j) (ixN (n := 150) rfl (by omega) (by decide)).2 dX9_endOfRun_32 ?_
    refine f_topi (y := b j) (by rw [hb]) ?_
    refine z_iload_n C dX9_endOfRun_33 3 rfl rfl ?_
    refine z_icmp_lt C 54 dX9_endOfRun_34 (by decide) (fun h34 => ?_) (fun h34 => ?_)
    · refine z_iload C dX9_endOfRun_54 0 rfl ?_
      refine z_iret C E rfl dX9_endOfRun_56 rfl (Nat.le_refl _) ⟨by rw [← hr, tRun, if_neg (fun z => z.1 h34)], rfl⟩
    · refine z_aload_n C dX9_endOfRun_37 1 rfl rfl ?_
      refine f_get9 C 0 (v := .ref (B.1 + 112)) (by decide) tw_202 rfl zk_111 zb_111 rfl dX9_endOfRun_38 ?_
      refine z_iload C dX9_endOfRun_41 0 rfl ?_
      refine f_baldL C zk_112 zb_112 (ixN (n := 150) rfl (by omega) (by decide)).1 (j := j) (ixN (n := 150) rfl (by omega) (by decide)).2 dX9_endOfRun_43 ?_
      refine f_topi (y := b j) (by rw [hb]) ?_
      refine z_iload_n C dX9_endOfRun_44 4 rfl rfl ?_
      refine z_icmp_gt C 54 dX9_endOfRun_45 (by decide) (fun h45 => ?_) (fun h45 => ?_)
      · refine z_iload C dX9_endOfRun_54 0 rfl ?_
        refine z_iret C E rfl dX9_endOfRun_56 rfl (Nat.le_refl _) ⟨by rw [← hr, tRun, if_neg (fun z => z.2 h45)], rfl⟩
      · refine z_iinc C [(4, .int (nI (j + 1))), (0, .ref (B.1 + 111)), (1, .int a), (2, .int lo), (3, .int hi)] dX9_endOfRun_48 0 rfl (nI_inc j) (by decide) rfl ?_
        refine z_goto C 7 dX9_endOfRun_51 (by decide) ?_
        exact z_lv [0, 1, 2, 3, 4] rfl (ih (j + 1) (by omega) (by rw [← hr, tRun, if_pos ⟨h34, h45⟩]))
set_option maxRecDepth 100000 in
set_option maxHeartbeats 4000000 in
theorem c_X9_endOfRun (l : Launch) (B : zB) (s : zS) (t : zL) (b : Nat → Int32) (hb : s 112 = b) (n : Nat) (hn : s 111 1 = nI n) (h150 : n ≤ 150) (i : Nat) (hi : i ≤ n) (lo up : Int32) : zD l B mX9_endOfRun s t [.ref (B.1 + 111), .int (nI i), .int lo, .int up] (some (.int (nI (tEnd b n lo up i)))) s t := by
  refine z_met (by decide) (Nat.le_of_ble_eq_true rfl) ?_
  intro X hl C E hnm
  show Zf X B mX9_endOfRun s t 0 [(0, .ref (B.1 + 111)), (1, .int (nI i)), (2, .int lo), (3, .int up)] []
  refine z_iload_n C dX9_endOfRun_0 1 rfl rfl ?_
  refine z_iconst C dX9_endOfRun_1 ki_0 ?_
  refine f_mmax C tw_325 dX9_endOfRun_2 (by decide) (by decide) (Nat.zero_le _) (Nat.zero_le _) (Nat.le_of_ble_eq_true rfl) ?_
  refine f_topi (y := nI i) (wMax_nI (by omega)) ?_
  refine z_istore C [(4, .int (nI i)), (0, .ref (B.1 + 111)), (1, .int (nI i)), (2, .int lo), (3, .int up)] dX9_endOfRun_5 (by decide) rfl ?_
  exact z_lv [0, 1, 2, 3, 4] rfl (l_X9_endOfRun hl C b hb n hn h150 (nI i) lo up _ E (n - i) i (by omega) rfl)
abbrev mX9_byteAt : zM := (yX9_byteAt, cX9_byteAt, 2, (some .int), { frames := 0, cells := 0, slots := 0, locals := 0 })
set_option maxRecDepth 100000 in
set_option maxHeartbeats 4000000 in
theorem c_X9_byteAt (l : Launch) (B : zB) (s : zS) (t : zL) (b : Nat → Int32) (hb : s 112 = b) (n : Nat) (hn : s 111 1 = nI n) (h150 : n ≤ 150) (i : Nat) (hi : i < n) : zD l B mX9_byteAt s t [.ref (B.1 + 111), .int (nI i)] (some (.int (b i))) s t := by
  refine z_met (by decide) (Nat.le_of_ble_eq_true rfl) ?_
  intro X hl C E hnm
  show Zf X B mX9_byteAt s t 0 [(0, .ref (B.1 + 111)), (1, .int (nI i))] []
  refine z_iload_n C dX9_byteAt_0 1 rfl rfl ?_
  refine z_if_lt C 30 dX9_byteAt_1 (by decide) (fun hbr => absurd hbr (nI_pos (by omega))) (fun _ => ?_)
  refine z_iload_n C dX9_byteAt_4 1 rfl rfl ?_
  refine z_aload_n C dX9_byteAt_5 0 rfl rfl ?_
  refine f_get9 C 1 (v := .int (s 111 1)) (by decide) tw_203 rfl zk_111 zb_111 rfl dX9_byteAt_6 ?_
  refine f_topi (y := nI n) hn ?_
  refine z_icmp_ge C 30 dX9_byteAt_9 (by decide) (fun hbr => absurd hbr (nI_ge hi (by omega))) (fun _ => ?_)
  refine z_iload_n C dX9_byteAt_12 1 rfl rfl ?_
  refine z_aload_n C dX9_byteAt_13 0 rfl rfl ?_
  refine f_get9 C 0 (v := .ref (B.1 + 112)) (by decide) tw_202 rfl zk_111 zb_111 rfl dX9_byteAt_14 ?_
  refine f_alen21 C (v := 150) zk_112 zb_112 rfl dX9_byteAt_17 ?_
  refine z_icmp_ge C 30 dX9_byteAt_18 (by decide) (fun hbr => absurd hbr (show ¬ nI 150 ≤ nI i from nI_ge (by omega) (by decide))) (fun _ => ?_)
  refine z_aload_n C dX9_byteAt_21 0 rfl rfl ?_
  refine f_get9 C 0 (v := .ref (B.1 + 112)) (by decide) tw_202 rfl zk_111 zb_111 rfl dX9_byteAt_22 ?_
  refine z_iload_n C dX9_byteAt_25 1 rfl rfl ?_
  refine f_baldL C zk_112 zb_112 (ixN (n := 150) rfl (by omega) (by decide)).1 (j := i) (ixN (n := 150) rfl (by omega) (by decide)).2 dX9_byteAt_26 ?_
  refine f_topi (y := b i) (by rw [hb]) ?_
  refine z_goto C 31 dX9_byteAt_27 (by decide) ?_
  refine z_iret C E rfl dX9_byteAt_31 rfl (Nat.le_refl _) ⟨rfl, rfl⟩
abbrev mX9_numberAt : zM := (yX9_numberAt, cX9_numberAt, 5, (some .int), { frames := 1, cells := 0, slots := 0, locals := 21 })
set_option maxRecDepth 100000 in
set_option maxHeartbeats 4000000 in
theorem l_X9_numberAt {l : Launch} {B : zB} {s : zS} {t : zL} {X : zX} (hl : X.2.1 = l) (C : zC X B mX9_numberAt) (b : Nat → Int32) (hb : s 112 = b) (q e : Nat) (hqe : q ≤ e) (he : e ≤ 150) (E : zE X B mX9_numberAt 124 0 0 (zR B (some (.int (tNum b q (e - q)))) s t)) : ∀ (m : Nat) (k : Nat), q + k + m = e → Zf X B mX9_numberAt s t 9 [(4, .int (nI (q + k))), (3, .int (tNum b q k)), (0, .ref (B.1 + 111)), (1, .int (nI q)), (2, .int (nI e))] [] := by
  intro m
  induction m with
  | zero =>
    intro k hk0
    refine z_iload C dX9_numberAt_9 0 rfl ?_
    refine z_iload_n C dX9_numberAt_11 4 rfl rfl ?_
    refine z_icmp_ge C 47 dX9_numberAt_12 (by decide) (fun _ => ?_) (fun hbr => absurd (nI_le (by omega) (by omega)) hbr)
    refine z_iload_n C dX9_numberAt_47 1 rfl rfl ?_
    refine z_iret C E rfl dX9_numberAt_48 rfl (Nat.le_refl _) ⟨by rw [show e - q = k by omega], rfl⟩
  | succ m ih =>
    intro k hk0
    have hk : q + k < e := by omega
    refine z_iload C dX9_numberAt_9 0 rfl ?_
    refine z_iload_n C dX9_numberAt_11 4 rfl rfl ?_
    refine z_icmp_ge C 47 dX9_numberAt_12 (by decide) (fun hbr => absurd hbr (nI_ge hk (by omega))) (fun _ => ?_)
    refine z_iload C dX9_numberAt_15 0 rfl ?_
    refine z_aload_n C dX9_numberAt_17 2 rfl rfl ?_
    refine f_get9 C 0 (v := .ref (B.1 + 112)) (by decide) tw_202 rfl zk_111 zb_111 rfl dX9_numberAt_18 ?_
    refine f_alen21 C (v := 150) zk_112 zb_112 rfl dX9_numberAt_21 ?_
    refine z_icmp_ge C 47 dX9_numberAt_22 (by decide) (fun hbr => absurd hbr (show ¬ nI 150 ≤ nI (q + k) from nI_ge (by omega) (by decide))) (fun _ => ?_)
    refine z_bipush C dX9_numberAt_25 kb_10 ?_
    refine z_iload_n C dX9_numberAt_27 1 rfl rfl ?_
    refine z_imul C dX9_numberAt_28 ?_
    refine z_aload_n C dX9_numberAt_29 2 rfl rfl ?_
    refine f_get9 C 0 (v := .ref (B.1 + 112)) (by decide) tw_202 rfl zk_111 zb_111 rfl dX9_numberAt_30 ?_
    refine z_iload C dX9_numberAt_33 0 rfl ?_
    refine f_baldL C zk_112 zb_112 (ixN (n := 150) rfl (by omega) (by decide)).1 (j := (q + k)) (ixN (n := 150) rfl (by omega) (by decide)).2 dX9_numberAt_35 ?_
    refine f_topi (y := b (q + k)) (by rw [hb]) ?_
    refine z_iadd C dX9_numberAt_36 ?_
    refine z_bipush C dX9_numberAt_37 kb_48 ?_
    refine z_isub C dX9_numberAt_39 ?_
    refine f_topi (y := tNum b q (k + 1)) rfl ?_
    refine z_istore_n C [(3, .int (tNum b q (k + 1))), (4, .int (nI (q + k))), (0, .ref (B.1 + 111)), (1, .int (nI q)), (2, .int (nI e))] dX9_numberAt_40 rfl (by decide) rfl ?_
    refine z_iinc C [(4, .int (nI (q + (k + 1)))), (3, .int (tNum b q (k + 1))), (0, .ref (B.1 + 111)), (1, .int (nI q)), (2, .int (nI e))] dX9_numberAt_41 1 rfl (nI_inc (q + k)) (by decide) rfl ?_
    refine z_goto C 9 dX9_numberAt_44 (by decide) ?_
    exact z_lv [0, 1, 2, 3, 4] rfl (ih (k + 1) (by omega))
set_option maxRecDepth 100000 in
set_option maxHeartbeats 4000000 in
theorem c_X9_numberAt (l : Launch) (B : zB) (s : zS) (t : zL) (b : Nat → Int32) (hb : s 112 = b) (q e : Nat) (hqe : q ≤ e) (he : e ≤ 150) : zD l B mX9_numberAt s t [.ref (B.1 + 111), .int (nI q), .int (nI e)] (some (.int (tNum b q (e - q)))) s t := by
  refine z_met (by decide) (Nat.le_of_ble_eq_true rfl) ?_
  intro X hl C E hnm
  show Zf X B mX9_numberAt s t 0 [(0, .ref (B.1 + 111)), (1, .int (nI q)), (2, .int (nI e))] []
  refine z_iconst C dX9_numberAt_0 ki_0 ?_
  refine z_istore_n C [(3, .int 0), (0, .ref (B.1 + 111)), (1, .int (nI q)), (2, .int (nI e))] dX9_numberAt_1 rfl (by decide) rfl ?_
  refine z_iload_n C dX9_numberAt_2 2 rfl rfl ?_
  refine z_iconst C dX9_numberAt_3 ki_0 ?_
  refine f_mmax C tw_325 dX9_numberAt_4 (by decide) (by decide) (Nat.zero_le _) (Nat.zero_le _) (Nat.le_of_ble_eq_true rfl) ?_
  refine f_topi (y := nI q) (wMax_nI (by omega)) ?_
  refine z_istore C [(4, .int (nI q)), (3, .int 0), (0, .ref (B.1 + 111)), (1, .int (nI q)), (2, .int (nI e))] dX9_numberAt_7 (by decide) rfl ?_
  exact z_lv (lv2 := [(4, .int (nI (q + 0))), (3, .int (tNum b q 0)), (0, .ref (B.1 + 111)), (1, .int (nI q)), (2, .int (nI e))]) [0, 1, 2, 3, 4] rfl (l_X9_numberAt hl C b hb q e hqe he E (e - q) 0 (by omega))
abbrev mX9_step : zM := (yX9_step, cX9_step, 3, none, { frames := 2, cells := 0, slots := 0, locals := 45 })
set_option maxRecDepth 100000 in
set_option maxHeartbeats 4000000 in
theorem c_X9_step (l : Launch) (B : zB) (s : zS) (t : zL) (b : Nat → Int32) (hb : s 112 = b) (n : Nat) (hn : s 111 1 = nI n) (h150 : n ≤ 150) (p : Nat) (hp : p ≤ n) (h3 : s 111 3 = nI p) : zD l B mX9_step s t [.ref (B.1 + 111)] none (cT s b n (tA b n p) (tV b n (tA b n p) (s 111 5))) t := by
  have hq : tA b n p ≤ n := tA_le hp
  have hw : (tEnd b n 97 122 (tA b n p)) ≤ n := tEnd_le _ _ _ hq
  have hd : (tEnd b n 48 57 (tA b n p)) ≤ n := tEnd_le _ _ _ hq
  have hw2 : tA b n p ≤ (tEnd b n 97 122 (tA b n p)) := tEnd_ge _ _ _ _ _
  have hd2 : tA b n p ≤ (tEnd b n 48 57 (tA b n p)) := tEnd_ge _ _ _ _ _
  refine z_met (by decide) (Nat.le_of_ble_eq_true rfl) ?_
  intro X hl C E hnm
  show Zf X B mX9_step s t 0 [(0, .ref (B.1 + 111))] []
  refine z_aload_n C dX9_step_0 0 rfl rfl ?_
  refine z_aload_n C dX9_step_1 0 rfl rfl ?_
  refine z_aload_n C dX9_step_2 0 rfl rfl ?_
  refine f_get9 C 3 (v := .int (s 111 3)) (by decide) tw_207 rfl zk_111 zb_111 rfl dX9_step_3 ?_
  refine f_topi (y := nI p) h3 ?_
  refine z_bipush C dX9_step_6 kb_32 ?_
  refine z_bipush C dX9_step_8 kb_32 ?_
  refine f_callVr C hl (As := [.int (nI p), .int 32, .int 32]) (rest := [.ref (B.1 + 111)]) (c_X9_endOfRun l B s t b hb n hn h150 p hp 32 32) zb_111 (zg_9 zk_111) rfl (zCB (nA := 3) C rfl rfl tw_324 tw_12 tw_321 (by decide +kernel) ⟨Nat.le_of_ble_eq_true rfl, Nat.le_of_ble_eq_true rfl⟩) tw_323 tp_1 rfl rfl (Nat.le_of_ble_eq_true rfl) dX9_step_10 (Nat.zero_le _) ?_
  refine f_topi (y := nI (tA b n p)) rfl ?_
  refine f_put9_2 C tw_205 zk_111 zb_111 dX9_step_13 ?_
  refine z_aload_n C dX9_step_16 0 rfl rfl ?_
  refine z_aload_n C dX9_step_17 0 rfl rfl ?_
  refine f_get9 C 2 (v := .int ((zu s 111 2 (nI (tA b n p))) 111 2)) (by decide) tw_205 rfl zk_111 zb_111 rfl dX9_step_18 ?_
  refine f_topi (y := nI (tA b n p)) (by simp [zu]) ?_
  refine z_bipush C dX9_step_21 kb_97 ?_
  refine z_bipush C dX9_step_23 kb_122 ?_
  refine f_callVr C hl (As := [.int (nI (tA b n p)), .int 97, .int 122]) (rest := []) (c_X9_endOfRun l B (zu s 111 2 (nI (tA b n p))) t b (by rw [zu_row _ _ (by decide)]; exact hb) n (by rw [zu_ne _ _ (by omega)]; exact hn) h150 (tA b n p) hq 97 122) zb_111 (zg_9 zk_111) rfl (zCB (nA := 3) C rfl rfl tw_324 tw_12 tw_321 (by decide +kernel) ⟨Nat.le_of_ble_eq_true rfl, Nat.le_of_ble_eq_true rfl⟩) tw_323 tp_1 rfl rfl (Nat.le_of_ble_eq_true rfl) dX9_step_25 (Nat.zero_le _) ?_
  refine z_istore_n C [(1, .int (nI (tEnd b n 97 122 (tA b n p)))), (0, .ref (B.1 + 111))] dX9_step_28 rfl (by decide) rfl ?_
  refine z_aload_n C dX9_step_29 1 rfl rfl ?_
  refine z_aload_n C dX9_step_30 1 rfl rfl ?_
  refine f_get9 C 2 (v := .int ((zu s 111 2 (nI (tA b n p))) 111 2)) (by decide) tw_205 rfl zk_111 zb_111 rfl dX9_step_31 ?_
  refine f_topi (y := nI (tA b n p)) (by simp [zu]) ?_
  refine z_bipush C dX9_step_34 kb_48 ?_
  refine z_bipush C dX9_step_36 kb_57 ?_
  refine f_callVr C hl (As := [.int (nI (tA b n p)), .int 48, .int 57]) (rest := []) (c_X9_endOfRun l B (zu s 111 2 (nI (tA b n p))) t b (by rw [zu_row _ _ (by decide)]; exact hb) n (by rw [zu_ne _ _ (by omega)]; exact hn) h150 (tA b n p) hq 48 57) zb_111 (zg_9 zk_111) rfl (zCB (nA := 3) C rfl rfl tw_324 tw_12 tw_321 (by decide +kernel) ⟨Nat.le_of_ble_eq_true rfl, Nat.le_of_ble_eq_true rfl⟩) tw_323 tp_1 rfl rfl (Nat.le_of_ble_eq_true rfl) dX9_step_38 (Nat.zero_le _) ?_
  refine z_istore_n C [(2, .int (nI (tEnd b n 48 57 (tA b n p)))), (1, .int (nI (tEnd b n 97 122 (tA b n p)))), (0, .ref (B.1 + 111))] dX9_step_41 rfl (by decide) rfl ?_
  refine z_aload_n C dX9_step_42 2 rfl rfl ?_
  refine f_get9 C 2 (v := .int ((zu s 111 2 (nI (tA b n p))) 111 2)) (by decide) tw_205 rfl zk_111 zb_111 rfl dX9_step_43 ?_
  refine f_topi (y := nI (tA b n p)) (by simp [zu]) ?_
  refine z_aload_n C dX9_step_46 2 rfl rfl ?_
  refine f_get9 C 1 (v := .int ((zu s 111 2 (nI (tA b n p))) 111 1)) (by decide) tw_203 rfl zk_111 zb_111 rfl dX9_step_47 ?_
  refine f_topi (y := nI n) (by rw [zu_ne _ _ (by omega)]; exact hn) ?_
  refine z_icmp_lt C 69 dX9_step_50 (by decide) (fun h50 => ?_) (fun h50 => ?_)
  · refine z_iload_n C dX9_step_69 1 rfl rfl ?_
    refine z_aload_n C dX9_step_70 2 rfl rfl ?_
    refine f_get9 C 2 (v := .int ((zu s 111 2 (nI (tA b n p))) 111 2)) (by decide) tw_205 rfl zk_111 zb_111 rfl dX9_step_71 ?_
    refine f_topi (y := nI (tA b n p)) (by simp [zu]) ?_
    refine z_icmp_le C 90 dX9_step_74 (by decide) (fun h74 => ?_) (fun h74 => ?_)
    · refine z_iload_n C dX9_step_90 0 rfl rfl ?_
      refine z_aload_n C dX9_step_91 2 rfl rfl ?_
      refine f_get9 C 2 (v := .int ((zu s 111 2 (nI (tA b n p))) 111 2)) (by decide) tw_205 rfl zk_111 zb_111 rfl dX9_step_92 ?_
      refine f_topi (y := nI (tA b n p)) (by simp [zu]) ?_
      refine z_icmp_le C 138 dX9_step_95 (by decide) (fun h95 => ?_) (fun h95 => ?_)
      · refine z_aload_n C dX9_step_138 2 rfl rfl ?_
        refine z_aload_n C dX9_step_139 2 rfl rfl ?_
        refine z_aload_n C dX9_step_140 2 rfl rfl ?_
        refine f_get9 C 2 (v := .int ((zu s 111 2 (nI (tA b n p))) 111 2)) (by decide) tw_205 rfl zk_111 zb_111 rfl dX9_step_141 ?_
        refine f_topi (y := nI (tA b n p)) (by simp [zu]) ?_
        have e50 : tA b n p < n := Classical.byContradiction fun z => nI_nlt (by omega) (by omega) h50
        refine f_callVr C hl (As := [.int (nI (tA b n p))]) (rest := [.ref (B.1 + 111)]) (c_X9_byteAt l B (zu s 111 2 (nI (tA b n p))) t b (by rw [zu_row _ _ (by decide)]; exact hb) n (by rw [zu_ne _ _ (by omega)]; exact hn) h150 (tA b n p) e50) zb_111 (zg_9 zk_111) rfl (zCB (nA := 1) C rfl rfl tw_335 tw_12 tw_332 (by decide +kernel) ⟨Nat.le_of_ble_eq_true rfl, Nat.le_of_ble_eq_true rfl⟩) tw_334 tp_3 rfl rfl (Nat.le_of_ble_eq_true rfl) dX9_step_144 (Nat.zero_le _) ?_
        refine z_bipush C dX9_step_147 kb_59 ?_
        refine z_icmp_ne C 156 dX9_step_149 (by decide) (fun h149 => ?_) (fun h149 => ?_)
        · refine z_iconst C dX9_step_156 ki_4 ?_
          refine f_put9_4 C tw_208 zk_111 zb_111 dX9_step_157 ?_
          refine z_aload_n C dX9_step_160 2 rfl rfl ?_
          refine z_aload_n C dX9_step_161 2 rfl rfl ?_
          refine f_get9 C 2 (v := .int ((zu (zu s 111 2 (nI (tA b n p))) 111 4 4) 111 2)) (by decide) tw_205 rfl zk_111 zb_111 rfl dX9_step_162 ?_
          refine f_topi (y := nI (tA b n p)) (by simp [zu]) ?_
          refine z_iconst C dX9_step_165 ki_1 ?_
          refine z_iadd C dX9_step_166 ?_
          refine f_topi (y := nI (tA b n p + 1)) (nI_1 _) ?_
          refine f_put9_3 C tw_207 zk_111 zb_111 dX9_step_167 ?_
          have e50 : ¬ n ≤ tA b n p := fun z => nI_nlt z (by omega) h50
          have e74 : ¬ tA b n p < (tEnd b n 97 122 (tA b n p)) := fun z => nI_ge z (by omega) h74
          have e95 : ¬ tA b n p < (tEnd b n 48 57 (tA b n p)) := fun z => nI_ge z (by omega) h95
          refine z_vret C E rfl dX9_step_170 rfl (Nat.le_refl _) ⟨rfl, congrArg (fun z => zg B z t) (by rw [cTf_n hn, cT, tE, if_neg e50, if_neg e74, if_neg e95, tK, if_neg e50, if_neg e74, if_neg e95, if_neg h149, tV, if_neg e50, if_neg e74, if_neg e95])⟩
        · refine z_iconst C dX9_step_152 ki_3 ?_
          refine z_goto C 157 dX9_step_153 (by decide) ?_
          refine f_put9_4 C tw_208 zk_111 zb_111 dX9_step_157 ?_
          refine z_aload_n C dX9_step_160 2 rfl rfl ?_
          refine z_aload_n C dX9_step_161 2 rfl rfl ?_
          refine f_get9 C 2 (v := .int ((zu (zu s 111 2 (nI (tA b n p))) 111 4 3) 111 2)) (by decide) tw_205 rfl zk_111 zb_111 rfl dX9_step_162 ?_
          refine f_topi (y := nI (tA b n p)) (by simp [zu]) ?_
          refine z_iconst C dX9_step_165 ki_1 ?_
          refine z_iadd C dX9_step_166 ?_
          refine f_topi (y := nI (tA b n p + 1)) (nI_1 _) ?_
          refine f_put9_3 C tw_207 zk_111 zb_111 dX9_step_167 ?_
          have e50 : ¬ n ≤ tA b n p := fun z => nI_nlt z (by omega) h50
          have e74 : ¬ tA b n p < (tEnd b n 97 122 (tA b n p)) := fun z => nI_ge z (by omega) h74
          have e95 : ¬ tA b n p < (tEnd b n 48 57 (tA b n p)) := fun z => nI_ge z (by omega) h95
          refine z_vret C E rfl dX9_step_170 rfl (Nat.le_refl _) ⟨rfl, congrArg (fun z => zg B z t) (by rw [cTf_n hn, cT, tE, if_neg e50, if_neg e74, if_neg e95, tK, if_neg e50, if_neg e74, if_neg e95, if_pos h149, tV, if_neg e50, if_neg e74, if_neg e95])⟩
      · refine z_aload_n C dX9_step_98 2 rfl rfl ?_
        refine z_iload_n C dX9_step_99 0 rfl rfl ?_
        refine z_aload_n C dX9_step_100 2 rfl rfl ?_
        refine f_get9 C 2 (v := .int ((zu s 111 2 (nI (tA b n p))) 111 2)) (by decide) tw_205 rfl zk_111 zb_111 rfl dX9_step_101 ?_
        refine f_topi (y := nI (tA b n p)) (by simp [zu]) ?_
        refine z_isub C dX9_step_104 ?_
        refine f_topi (y := nI ((tEnd b n 48 57 (tA b n p)) - tA b n p)) (pk_sub hd2) ?_
        refine z_iconst C dX9_step_105 ki_2 ?_
        refine z_icmp_le C 113 dX9_step_106 (by decide) (fun h106 => ?_) (fun h106 => ?_)
        · refine z_iconst C dX9_step_113 ki_2 ?_
          refine f_put9_4 C tw_208 zk_111 zb_111 dX9_step_114 ?_
          refine z_aload_n C dX9_step_117 2 rfl rfl ?_
          refine z_iload_n C dX9_step_118 0 rfl rfl ?_
          refine f_put9_3 C tw_207 zk_111 zb_111 dX9_step_119 ?_
          refine z_aload_n C dX9_step_122 2 rfl rfl ?_
          refine z_aload_n C dX9_step_123 2 rfl rfl ?_
          refine z_aload_n C dX9_step_124 2 rfl rfl ?_
          refine f_get9 C 2 (v := .int ((zu (zu (zu s 111 2 (nI (tA b n p))) 111 4 2) 111 3 (nI (tEnd b n 48 57 (tA b n p)))) 111 2)) (by decide) tw_205 rfl zk_111 zb_111 rfl dX9_step_125 ?_
          refine f_topi (y := nI (tA b n p)) (by simp [zu]) ?_
          refine z_iload_n C dX9_step_128 0 rfl rfl ?_
          refine f_callVr C hl (As := [.int (nI (tA b n p)), .int (nI (tEnd b n 48 57 (tA b n p)))]) (rest := [.ref (B.1 + 111)]) (c_X9_numberAt l B (zu (zu (zu s 111 2 (nI (tA b n p))) 111 4 2) 111 3 (nI (tEnd b n 48 57 (tA b n p)))) t b (by rw [zu_row _ _ (by decide), zu_row _ _ (by decide), zu_row _ _ (by decide)]; exact hb) (tA b n p) (tEnd b n 48 57 (tA b n p)) (tEnd_ge _ _ _ _ _) (by omega)) zb_111 (zg_9 zk_111) rfl (zCB (nA := 2) C rfl rfl tw_331 tw_12 tw_328 (by decide +kernel) ⟨Nat.le_of_ble_eq_true rfl, Nat.le_of_ble_eq_true rfl⟩) tw_330 tp_2 rfl rfl (Nat.le_of_ble_eq_true rfl) dX9_step_129 (Nat.zero_le _) ?_
          refine f_put9_5 C tw_209 zk_111 zb_111 dX9_step_132 ?_
          refine z_goto C 170 dX9_step_135 (by decide) ?_
          have e50 : ¬ n ≤ tA b n p := fun z => nI_nlt z (by omega) h50
          have e74 : ¬ tA b n p < (tEnd b n 97 122 (tA b n p)) := fun z => nI_ge z (by omega) h74
          have e95 : tA b n p < (tEnd b n 48 57 (tA b n p)) := Classical.byContradiction fun z => h95 (nI_le (by omega) (by omega))
          have e6 : (tEnd b n 48 57 (tA b n p)) - tA b n p ≤ 2 := Classical.byContradiction fun z => nI_ge (b := (tEnd b n 48 57 (tA b n p)) - tA b n p) (a := 2) (by omega) (by omega) h106
          refine z_vret C E rfl dX9_step_170 rfl (Nat.le_refl _) ⟨rfl, congrArg (fun z => zg B z t) (by rw [cTf_v hn, cT, tE, if_neg e50, if_neg e74, if_pos e95, tK, if_neg e50, if_neg e74, if_pos e95, if_pos e6, tV, if_neg e50, if_neg e74, if_pos e95])⟩
        · refine z_iconst C dX9_step_109 ki_4 ?_
          refine z_goto C 114 dX9_step_110 (by decide) ?_
          refine f_put9_4 C tw_208 zk_111 zb_111 dX9_step_114 ?_
          refine z_aload_n C dX9_step_117 2 rfl rfl ?_
          refine z_iload_n C dX9_step_118 0 rfl rfl ?_
          refine f_put9_3 C tw_207 zk_111 zb_111 dX9_step_119 ?_
          refine z_aload_n C dX9_step_122 2 rfl rfl ?_
          refine z_aload_n C dX9_step_123 2 rfl rfl ?_
          refine z_aload_n C dX9_step_124 2 rfl rfl ?_
          refine f_get9 C 2 (v := .int ((zu (zu (zu s 111 2 (nI (tA b n p))) 111 4 4) 111 3 (nI (tEnd b n 48 57 (tA b n p)))) 111 2)) (by decide) tw_205 rfl zk_111 zb_111 rfl dX9_step_125 ?_
          refine f_topi (y := nI (tA b n p)) (by simp [zu]) ?_
          refine z_iload_n C dX9_step_128 0 rfl rfl ?_
          refine f_callVr C hl (As := [.int (nI (tA b n p)), .int (nI (tEnd b n 48 57 (tA b n p)))]) (rest := [.ref (B.1 + 111)]) (c_X9_numberAt l B (zu (zu (zu s 111 2 (nI (tA b n p))) 111 4 4) 111 3 (nI (tEnd b n 48 57 (tA b n p)))) t b (by rw [zu_row _ _ (by decide), zu_row _ _ (by decide), zu_row _ _ (by decide)]; exact hb) (tA b n p) (tEnd b n 48 57 (tA b n p)) (tEnd_ge _ _ _ _ _) (by omega)) zb_111 (zg_9 zk_111) rfl (zCB (nA := 2) C rfl rfl tw_331 tw_12 tw_328 (by decide +kernel) ⟨Nat.le_of_ble_eq_true rfl, Nat.le_of_ble_eq_true rfl⟩) tw_330 tp_2 rfl rfl (Nat.le_of_ble_eq_true rfl) dX9_step_129 (Nat.zero_le _) ?_
          refine f_put9_5 C tw_209 zk_111 zb_111 dX9_step_132 ?_
          refine z_goto C 170 dX9_step_135 (by decide) ?_
          have e50 : ¬ n ≤ tA b n p := fun z => nI_nlt z (by omega) h50
          have e74 : ¬ tA b n p < (tEnd b n 97 122 (tA b n p)) := fun z => nI_ge z (by omega) h74
          have e95 : tA b n p < (tEnd b n 48 57 (tA b n p)) := Classical.byContradiction fun z => h95 (nI_le (by omega) (by omega))
          have e6 : ¬ (tEnd b n 48 57 (tA b n p)) - tA b n p ≤ 2 := fun z => h106 (nI_le (b := 2) z (by decide))
          refine z_vret C E rfl dX9_step_170 rfl (Nat.le_refl _) ⟨rfl, congrArg (fun z => zg B z t) (by rw [cTf_v hn, cT, tE, if_neg e50, if_neg e74, if_pos e95, tK, if_neg e50, if_neg e74, if_pos e95, if_neg e6, tV, if_neg e50, if_neg e74, if_pos e95])⟩
    · refine z_aload_n C dX9_step_77 2 rfl rfl ?_
      refine z_iconst C dX9_step_78 ki_1 ?_
      refine f_put9_4 C tw_208 zk_111 zb_111 dX9_step_79 ?_
      refine z_aload_n C dX9_step_82 2 rfl rfl ?_
      refine z_iload_n C dX9_step_83 1 rfl rfl ?_
      refine f_put9_3 C tw_207 zk_111 zb_111 dX9_step_84 ?_
      refine z_goto C 170 dX9_step_87 (by decide) ?_
      have e50 : ¬ n ≤ tA b n p := fun z => nI_nlt z (by omega) h50
      have e74 : tA b n p < (tEnd b n 97 122 (tA b n p)) := Classical.byContradiction fun z => h74 (nI_le (by omega) (by omega))
      refine z_vret C E rfl dX9_step_170 rfl (Nat.le_refl _) ⟨rfl, congrArg (fun z => zg B z t) (by rw [cTf_n hn, cT, tE, if_neg e50, if_pos e74, tK, if_neg e50, if_pos e74, tV, if_neg e50, if_pos e74])⟩
  · refine z_aload_n C dX9_step_53 2 rfl rfl ?_
    refine z_iconst C dX9_step_54 ki_0 ?_
    refine f_put9_4 C tw_208 zk_111 zb_111 dX9_step_55 ?_
    refine z_aload_n C dX9_step_58 2 rfl rfl ?_
    refine z_aload_n C dX9_step_59 2 rfl rfl ?_
    refine f_get9 C 2 (v := .int ((zu (zu s 111 2 (nI (tA b n p))) 111 4 0) 111 2)) (by decide) tw_205 rfl zk_111 zb_111 rfl dX9_step_60 ?_
    refine f_topi (y := nI (tA b n p)) (by simp [zu]) ?_
    refine f_put9_3 C tw_207 zk_111 zb_111 dX9_step_63 ?_
    refine z_goto C 170 dX9_step_66 (by decide) ?_
    have e50 : n ≤ tA b n p := Classical.byContradiction fun z => h50 (nI_lt (by omega) (by omega))
    refine z_vret C E rfl dX9_step_170 rfl (Nat.le_refl _) ⟨rfl, congrArg (fun z => zg B z t) (by rw [cTf_n hn, cT, tE, if_pos e50, tK, if_pos e50, tV, if_pos e50])⟩
theorem c_X9_stepT (l : Launch) (B : zB) (s : zS) (t : zL) (b : Nat → Int32) (hb : s 112 = b) (n : Nat) (h150 : n ≤ 150) (q : Nat) (hq : q ≤ n) (v : Int32) : zD l B mX9_step (cT s b n q v) t [.ref (B.1 + 111)] none (cT s b n (tN b n q) (tV b n (tN b n q) v)) t := by
  have h := c_X9_step l B (cT s b n q v) t b (by rw [cT_row _ _ _ _ _ (by decide)]; exact hb) n (cT_1 _ _ _ _ _) h150 (tE b n q) (tE_le hq) (cT_3 _ _ _ _ _)
  rw [cT_cT, cT_5] at h
  exact h
theorem c_X9_rw (l : Launch) (B : zB) (s : zS) (t : zL) (b : Nat → Int32) (hb : s 112 = b) (n : Nat) (hn : s 111 1 = nI n) (h150 : n ≤ 150) : zD l B mX9_step (zu s 111 3 0) t [.ref (B.1 + 111)] none (cT s b n (tA b n 0) (tV b n (tA b n 0) (s 111 5))) t := by
  have h := c_X9_step l B (zu s 111 3 0) t b (by rw [zu_row _ _ (by decide)]; exact hb) n (by rw [zu_ne _ _ (by omega)]; exact hn) h150 0 (Nat.zero_le _) (zu_same _ _ _ _)
  rw [zu_ne _ _ (by omega)] at h
  refine cast (congrArg (fun z => zD l B mX9_step (zu s 111 3 0) t [.ref (B.1 + 111)] none z t) ?_) h
  funext i j
  simp only [cT, cTf, zu]
  by_cases hi : i = 111
  · subst hi
    by_cases h3 : j = 3
    · subst h3; simp
    · simp [h3]
  · simp [hi]
abbrev mX9_rewind : zM := (yX9_rewind, cX9_rewind, 1, none, { frames := 3, cells := 0, slots := 0, locals := 67 })
set_option maxRecDepth 100000 in
set_option maxHeartbeats 4000000 in
theorem c_X9_rewind (l : Launch) (B : zB) (s : zS) (t : zL) (b : Nat → Int32) (hb : s 112 = b) (n : Nat) (hn : s 111 1 = nI n) (h150 : n ≤ 150) : zD l B mX9_rewind s t [.ref (B.1 + 111)] none (cT s b n (tA b n 0) (tV b n (tA b n 0) (s 111 5))) t := by
  refine z_met (by decide) (Nat.le_of_ble_eq_true rfl) ?_
  intro X hl C E hnm
  show Zf X B mX9_rewind s t 0 [(0, .ref (B.1 + 111))] []
  refine z_aload_n C dX9_rewind_0 0 rfl rfl ?_
  refine z_iconst C dX9_rewind_1 ki_0 ?_
  refine f_put9_3 C tw_207 zk_111 zb_111 dX9_rewind_2 ?_
  refine z_aload_n C dX9_rewind_5 0 rfl rfl ?_
  refine f_callVv C hl (As := []) (rest := []) (c_X9_rw l B s t b hb n hn h150) zb_111 (zg_9 zk_111) rfl (zCB (nA := 0) C rfl rfl tw_320 tw_12 tw_317 (by decide +kernel) ⟨Nat.le_of_ble_eq_true rfl, Nat.le_of_ble_eq_true rfl⟩) tw_318 tw_319 rfl rfl (Nat.le_of_ble_eq_true rfl) dX9_rewind_6 (Nat.zero_le _) ?_
  refine z_vret C E rfl dX9_rewind_9 rfl (Nat.le_refl _) ⟨rfl, rfl⟩
abbrev mX9_isAtEnd : zM := (yX9_isAtEnd, cX9_isAtEnd, 1, (some .boolean), { frames := 0, cells := 0, slots := 0, locals := 0 })
set_option maxRecDepth 100000 in
set_option maxHeartbeats 4000000 in
theorem c_X9_isAtEnd (l : Launch) (B : zB) (s : zS) (t : zL) (b : Nat → Int32) (hb : s 112 = b) (n : Nat) (h150 : n ≤ 150) (q : Nat) (hq : q ≤ n) (v : Int32) : zD l B mX9_isAtEnd (cT s b n q v) t [.ref (B.1 + 111)] (some (.int (zi (decide (tK b n q = 0))))) (cT s b n q v) t := by
  refine z_met (by decide) (Nat.le_of_ble_eq_true rfl) ?_
  intro X hl C E hnm
  show Zf X B mX9_isAtEnd (cT s b n q v) t 0 [(0, .ref (B.1 + 111))] []
  refine z_aload_n C dX9_isAtEnd_0 0 rfl rfl ?_
  refine f_get9 C 4 (v := .int ((cT s b n q v) 111 4)) (by decide) tw_208 rfl zk_111 zb_111 rfl dX9_isAtEnd_1 ?_
  refine f_topi (y := tK b n q) (cT_4 _ _ _ _ _) ?_
  refine z_if_ne C 11 dX9_isAtEnd_4 (by decide) (fun h4 => ?_) (fun h4 => ?_)
  · refine z_iconst C dX9_isAtEnd_11 ki_0 ?_
    refine z_zret C E rfl dX9_isAtEnd_12 rfl rfl (Nat.le_refl _) ⟨by rw [decide_eq_false h4]; rfl, rfl⟩
  · refine z_iconst C dX9_isAtEnd_7 ki_1 ?_
    refine z_goto C 12 dX9_isAtEnd_8 (by decide) ?_
    refine z_zret C E rfl dX9_isAtEnd_12 rfl rfl (Nat.le_refl _) ⟨by rw [decide_eq_true h4]; rfl, rfl⟩
abbrev mX9_takeNumber : zM := (yX9_takeNumber, cX9_takeNumber, 3, (some .int), { frames := 3, cells := 0, slots := 0, locals := 67 })
set_option maxRecDepth 100000 in
set_option maxHeartbeats 4000000 in
theorem c_X9_takeNumber_no (l : Launch) (B : zB) (s : zS) (t : zL) (b : Nat → Int32) (hb : s 112 = b) (n : Nat) (h150 : n ≤ 150) (q : Nat) (hq : q ≤ n) (v : Int32) (last : Int32) (h : ¬ (tK b n q = 2 ∧ v ≤ last)) : zD l B mX9_takeNumber (cT s b n q v) t [.ref (B.1 + 111), .int last] (some (.int (-1))) (cT s b n q v) t := by
  refine z_met (by decide) (Nat.le_of_ble_eq_true rfl) ?_
  intro X hl C E hnm
  show Zf X B mX9_takeNumber (cT s b n q v) t 0 [(0, .ref (B.1 + 111)), (1, .int last)] []
  refine z_aload_n C dX9_takeNumber_0 0 rfl rfl ?_
  refine f_get9 C 4 (v := .int ((cT s b n q v) 111 4)) (by decide) tw_208 rfl zk_111 zb_111 rfl dX9_takeNumber_1 ?_
  refine f_topi (y := tK b n q) (cT_4 _ _ _ _ _) ?_
  refine z_iconst C dX9_takeNumber_4 ki_2 ?_
  refine z_icmp_ne C 16 dX9_takeNumber_5 (by decide) (fun h5 => ?_) (fun h5 => ?_)
  · refine z_iconst C dX9_takeNumber_16 ki_m1 ?_
    refine z_iret C E rfl dX9_takeNumber_17 rfl (Nat.le_refl _) ⟨rfl, rfl⟩
  · refine z_aload_n C dX9_takeNumber_8 0 rfl rfl ?_
    refine f_get9 C 5 (v := .int ((cT s b n q v) 111 5)) (by decide) tw_209 rfl zk_111 zb_111 rfl dX9_takeNumber_9 ?_
    refine f_topi (y := v) (cT_5 _ _ _ _ _) ?_
    refine z_iload_n C dX9_takeNumber_12 1 rfl rfl ?_
    refine z_icmp_le C 18 dX9_takeNumber_13 (by decide) (fun h13 => ?_) (fun h13 => ?_)
    · exact absurd ⟨h5, h13⟩ h
    · refine z_iconst C dX9_takeNumber_16 ki_m1 ?_
      refine z_iret C E rfl dX9_takeNumber_17 rfl (Nat.le_refl _) ⟨rfl, rfl⟩
set_option maxRecDepth 100000 in
set_option maxHeartbeats 4000000 in
theorem c_X9_takeNumber_ok (l : Launch) (B : zB) (s : zS) (t : zL) (b : Nat → Int32) (hb : s 112 = b) (n : Nat) (h150 : n ≤ 150) (q : Nat) (hq : q ≤ n) (v : Int32) (last : Int32) (g1 : tK b n q = 2) (g2 : v ≤ last) : zD l B mX9_takeNumber (cT s b n q v) t [.ref (B.1 + 111), .int last] (some (.int v)) (cT s b n (tN b n q) (tV b n (tN b n q) v)) t := by
  refine z_met (by decide) (Nat.le_of_ble_eq_true rfl) ?_
  intro X hl C E hnm
  show Zf X B mX9_takeNumber (cT s b n q v) t 0 [(0, .ref (B.1 + 111)), (1, .int last)] []
  refine z_aload_n C dX9_takeNumber_0 0 rfl rfl ?_
  refine f_get9 C 4 (v := .int ((cT s b n q v) 111 4)) (by decide) tw_208 rfl zk_111 zb_111 rfl dX9_takeNumber_1 ?_
  refine f_topi (y := tK b n q) (cT_4 _ _ _ _ _) ?_
  refine z_iconst C dX9_takeNumber_4 ki_2 ?_
  refine z_icmp_ne C 16 dX9_takeNumber_5 (by decide) (fun hbr => absurd g1 hbr) (fun _ => ?_)
  refine z_aload_n C dX9_takeNumber_8 0 rfl rfl ?_
  refine f_get9 C 5 (v := .int ((cT s b n q v) 111 5)) (by decide) tw_209 rfl zk_111 zb_111 rfl dX9_takeNumber_9 ?_
  refine f_topi (y := v) (cT_5 _ _ _ _ _) ?_
  refine z_iload_n C dX9_takeNumber_12 1 rfl rfl ?_
  refine z_icmp_le C 18 dX9_takeNumber_13 (by decide) (fun _ => ?_) (fun hbr => absurd g2 hbr)
  refine z_aload_n C dX9_takeNumber_18 0 rfl rfl ?_
  refine f_get9 C 5 (v := .int ((cT s b n q v) 111 5)) (by decide) tw_209 rfl zk_111 zb_111 rfl dX9_takeNumber_19 ?_
  refine f_topi (y := v) (cT_5 _ _ _ _ _) ?_
  refine z_istore_n C [(2, .int v), (0, .ref (B.1 + 111)), (1, .int last)] dX9_takeNumber_22 rfl (by decide) rfl ?_
  refine z_aload_n C dX9_takeNumber_23 1 rfl rfl ?_
  refine f_callVv C hl (As := []) (rest := []) (c_X9_stepT l B s t b hb n h150 q hq v) zb_111 (zg_9 zk_111) rfl (zCB (nA := 0) C rfl rfl tw_320 tw_12 tw_317 (by decide +kernel) ⟨Nat.le_of_ble_eq_true rfl, Nat.le_of_ble_eq_true rfl⟩) tw_318 tw_319 rfl rfl (Nat.le_of_ble_eq_true rfl) dX9_takeNumber_24 (Nat.zero_le _) ?_
  refine z_iload_n C dX9_takeNumber_27 0 rfl rfl ?_
  refine z_iret C E rfl dX9_takeNumber_28 rfl (Nat.le_refl _) ⟨rfl, rfl⟩
abbrev mX9_takeMark : zM := (yX9_takeMark, cX9_takeMark, 1, (some .boolean), { frames := 3, cells := 0, slots := 0, locals := 67 })
set_option maxRecDepth 100000 in
set_option maxHeartbeats 4000000 in
theorem c_X9_takeMark_no (l : Launch) (B : zB) (s : zS) (t : zL) (b : Nat → Int32) (hb : s 112 = b) (n : Nat) (h150 : n ≤ 150) (q : Nat) (hq : q ≤ n) (v : Int32) (g : ¬ tK b n q = 3) : zD l B mX9_takeMark (cT s b n q v) t [.ref (B.1 + 111)] (some (.int (zi false))) (cT s b n q v) t := by
  refine z_met (by decide) (Nat.le_of_ble_eq_true rfl) ?_
  intro X hl C E hnm
  show Zf X B mX9_takeMark (cT s b n q v) t 0 [(0, .ref (B.1 + 111))] []
  refine z_aload_n C dX9_takeMark_0 0 rfl rfl ?_
  refine f_get9 C 4 (v := .int ((cT s b n q v) 111 4)) (by decide) tw_208 rfl zk_111 zb_111 rfl dX9_takeMark_1 ?_
  refine f_topi (y := tK b n q) (cT_4 _ _ _ _ _) ?_
  refine z_iconst C dX9_takeMark_4 ki_3 ?_
  refine z_icmp_eq C 10 dX9_takeMark_5 (by decide) (fun hbr => absurd hbr g) (fun _ => ?_)
  refine z_iconst C dX9_takeMark_8 ki_0 ?_
  refine z_zret C E rfl dX9_takeMark_9 rfl rfl (Nat.le_refl _) ⟨rfl, rfl⟩
set_option maxRecDepth 100000 in
set_option maxHeartbeats 4000000 in
theorem c_X9_takeMark_ok (l : Launch) (B : zB) (s : zS) (t : zL) (b : Nat → Int32) (hb : s 112 = b) (n : Nat) (h150 : n ≤ 150) (q : Nat) (hq : q ≤ n) (v : Int32) (g : tK b n q = 3) : zD l B mX9_takeMark (cT s b n q v) t [.ref (B.1 + 111)] (some (.int (zi true))) (cT s b n (tN b n q) (tV b n (tN b n q) v)) t := by
  refine z_met (by decide) (Nat.le_of_ble_eq_true rfl) ?_
  intro X hl C E hnm
  show Zf X B mX9_takeMark (cT s b n q v) t 0 [(0, .ref (B.1 + 111))] []
  refine z_aload_n C dX9_takeMark_0 0 rfl rfl ?_
  refine f_get9 C 4 (v := .int ((cT s b n q v) 111 4)) (by decide) tw_208 rfl zk_111 zb_111 rfl dX9_takeMark_1 ?_
  refine f_topi (y := tK b n q) (cT_4 _ _ _ _ _) ?_
  refine z_iconst C dX9_takeMark_4 ki_3 ?_
  refine z_icmp_eq C 10 dX9_takeMark_5 (by decide) (fun _ => ?_) (fun hbr => absurd g hbr)
  refine z_aload_n C dX9_takeMark_10 0 rfl rfl ?_
  refine f_callVv C hl (As := []) (rest := []) (c_X9_stepT l B s t b hb n h150 q hq v) zb_111 (zg_9 zk_111) rfl (zCB (nA := 0) C rfl rfl tw_320 tw_12 tw_317 (by decide +kernel) ⟨Nat.le_of_ble_eq_true rfl, Nat.le_of_ble_eq_true rfl⟩) tw_318 tw_319 rfl rfl (Nat.le_of_ble_eq_true rfl) dX9_takeMark_11 (Nat.zero_le _) ?_
  refine z_iconst C dX9_takeMark_14 ki_1 ?_
  refine z_zret C E rfl dX9_takeMark_15 rfl rfl (Nat.le_refl _) ⟨rfl, rfl⟩
def tLaws (b : Nat → Int32) (n : Nat) : Nat → Nat → Int32 → Int32 → Int32 × Nat × Int32
  | 0, q, v, a => (a, q, v)
  | f + 1, q, v, a => if tK b n q = 2 ∧ ¬ 8 ≤ v then tLaws b n f (tN b n q) (tV b n (tN b n q) v) (a ||| wBit v) else (a, q, v)
abbrev mX9_takeLaws : zM := (yX9_takeLaws, cX9_takeLaws, 3, (some .int), { frames := 3, cells := 0, slots := 0, locals := 67 })
set_option maxRecDepth 100000 in
set_option maxHeartbeats 4000000 in
theorem l_X9_takeLaws {l : Launch} {B : zB} {s : zS} {t : zL} {X : zX} (hl : X.2.1 = l) (C : zC X B mX9_takeLaws) (b : Nat → Int32) (hb : s 112 = b) (n : Nat) (h150 : n ≤ 150) (r : Int32 × Nat × Int32) (E : zE X B mX9_takeLaws 124 0 0 (zR B (some (.int r.1)) (cT s b n r.2.1 r.2.2) t)) : ∀ (m : Nat) (i : Nat) (q : Nat) (v a : Int32), i + m = 150 → q ≤ n → tLaws b n m q v a = r → Zf X B mX9_takeLaws (cT s b n q v) t 4 [(2, .int (nI i)), (1, .int a), (0, .ref (B.1 + 111))] [] := by
  intro m
  induction m with
  | zero =>
    intro i q v a hi hq hr
    obtain rfl : i = 150 := by omega
    refine z_iload_n C dX9_takeLaws_4 0 rfl rfl ?_
    refine z_sipush C dX9_takeLaws_5 ks_150 ?_
    refine z_icmp_ge C 48 dX9_takeLaws_8 (by decide) (fun _ => ?_) (fun hbr => absurd (by decide) hbr)
    refine z_iload_n C dX9_takeLaws_48 1 rfl rfl ?_
    refine z_iret C E rfl dX9_takeLaws_49 rfl (Nat.le_refl _) ⟨by rw [← hr]; rfl, by rw [← hr]; rfl⟩
  | succ m ih =>
    intro i q v a hi0 hq hr
    refine z_iload_n C dX9_takeLaws_4 0 rfl rfl ?_
    refine z_sipush C dX9_takeLaws_5 ks_150 ?_
    refine z_icmp_ge C 48 dX9_takeLaws_8 (by decide) (fun hbr => absurd hbr (show ¬ nI 150 ≤ nI i from nI_ge (by omega) (by decide))) (fun _ => ?_)
    refine z_aload_n C dX9_takeLaws_11 2 rfl rfl ?_
    refine f_get9 C 4 (v := .int ((cT s b n q v) 111 4)) (by decide) tw_208 rfl zk_111 zb_111 rfl dX9_takeLaws_12 ?_
    refine f_topi (y := tK b n q) (cT_4 _ _ _ _ _) ?_
    refine z_iconst C dX9_takeLaws_15 ki_2 ?_
    refine z_icmp_ne C 48 dX9_takeLaws_16 (by decide) (fun h16 => ?_) (fun h16 => ?_)
    · refine z_iload_n C dX9_takeLaws_48 1 rfl rfl ?_
      refine z_iret C E rfl dX9_takeLaws_49 rfl (Nat.le_refl _) ⟨by rw [← hr, tLaws, if_neg (fun z => h16 z.1)], by rw [← hr, tLaws, if_neg (fun z => h16 z.1)]⟩
    · refine z_aload_n C dX9_takeLaws_19 2 rfl rfl ?_
      refine f_get9 C 5 (v := .int ((cT s b n q v) 111 5)) (by decide) tw_209 rfl zk_111 zb_111 rfl dX9_takeLaws_20 ?_
      refine f_topi (y := v) (cT_5 _ _ _ _ _) ?_
      refine z_bipush C dX9_takeLaws_23 kb_8 ?_
      refine z_icmp_ge C 48 dX9_takeLaws_25 (by decide) (fun h25 => ?_) (fun h25 => ?_)
      · refine z_iload_n C dX9_takeLaws_48 1 rfl rfl ?_
        refine z_iret C E rfl dX9_takeLaws_49 rfl (Nat.le_refl _) ⟨by rw [← hr, tLaws, if_neg (fun z => z.2 h25)], by rw [← hr, tLaws, if_neg (fun z => z.2 h25)]⟩
      · refine z_iload_n C dX9_takeLaws_28 1 rfl rfl ?_
        refine z_aload_n C dX9_takeLaws_29 2 rfl rfl ?_
        refine f_get9 C 5 (v := .int ((cT s b n q v) 111 5)) (by decide) tw_209 rfl zk_111 zb_111 rfl dX9_takeLaws_30 ?_
        refine f_topi (y := v) (cT_5 _ _ _ _ _) ?_
        refine f_callNr C hl (As := [.int v]) (rest := [.int a]) (c_X11_bitOf l B (cT s b n q v) t v) (zCN (nA := 1) C rfl rfl tw_431 tw_1 (by decide +kernel) (by decide +kernel) ⟨Nat.le_of_ble_eq_true rfl, Nat.le_of_ble_eq_true rfl⟩) tw_430 rfl rfl (Nat.le_of_ble_eq_true rfl) dX9_takeLaws_33 (Nat.zero_le _) ?_
        refine z_ior C dX9_takeLaws_36 ?_
        refine z_istore_n C [(1, .int (a ||| (wBit v))), (2, .int (nI i)), (0, .ref (B.1 + 111))] dX9_takeLaws_37 rfl (by decide) rfl ?_
        refine z_aload_n C dX9_takeLaws_38 2 rfl rfl ?_
        refine f_callVv C hl (As := []) (rest := []) (c_X9_stepT l B s t b hb n h150 q hq v) zb_111 (zg_9 zk_111) rfl (zCB (nA := 0) C rfl rfl tw_320 tw_12 tw_317 (by decide +kernel) ⟨Nat.le_of_ble_eq_true rfl, Nat.le_of_ble_eq_true rfl⟩) tw_318 tw_319 rfl rfl (Nat.le_of_ble_eq_true rfl) dX9_takeLaws_39 (Nat.zero_le _) ?_
        refine z_iinc C [(2, .int (nI (i + 1))), (1, .int (a ||| (wBit v))), (0, .ref (B.1 + 111))] dX9_takeLaws_42 1 rfl (nI_inc i) (by decide) rfl ?_
        refine z_goto C 4 dX9_takeLaws_45 (by decide) ?_
        exact z_lv [0, 1, 2] rfl (ih (i + 1) _ _ _ (by omega) (tN_le hq) (by rw [← hr, tLaws, if_pos ⟨h16, h25⟩]))
set_option maxRecDepth 100000 in
set_option maxHeartbeats 4000000 in
theorem c_X9_takeLaws (l : Launch) (B : zB) (s : zS) (t : zL) (b : Nat → Int32) (hb : s 112 = b) (n : Nat) (h150 : n ≤ 150) (q : Nat) (hq : q ≤ n) (v : Int32) : zD l B mX9_takeLaws (cT s b n q v) t [.ref (B.1 + 111)] (some (.int ((tLaws b n 150 q v 0).1))) (cT s b n (tLaws b n 150 q v 0).2.1 (tLaws b n 150 q v 0).2.2) t := by
  refine z_met (by decide) (Nat.le_of_ble_eq_true rfl) ?_
  intro X hl C E hnm
  show Zf X B mX9_takeLaws (cT s b n q v) t 0 [(0, .ref (B.1 + 111))] []
  refine z_iconst C dX9_takeLaws_0 ki_0 ?_
  refine z_istore_n C [(1, .int 0), (0, .ref (B.1 + 111))] dX9_takeLaws_1 rfl (by decide) rfl ?_
  refine z_iconst C dX9_takeLaws_2 ki_0 ?_
  refine z_istore_n C [(2, .int 0), (1, .int 0), (0, .ref (B.1 + 111))] dX9_takeLaws_3 rfl (by decide) rfl ?_
  exact z_lv [0, 1, 2] rfl (l_X9_takeLaws hl C b hb n h150 _ E 150 0 q v 0 (by omega) hq rfl)
abbrev mX9_append : zM := (yX9_append, cX9_append, 2, none, { frames := 0, cells := 0, slots := 0, locals := 0 })
set_option maxRecDepth 100000 in
set_option maxHeartbeats 4000000 in
theorem c_X9_append (l : Launch) (B : zB) (s : zS) (t : zL) (c : Int32) (n : Nat) (hn : n < 150) (hc : s 111 1 = nI n) : zD l B mX9_append s t [.ref (B.1 + 111), .int c] none (zu (zu s 112 n (vp_nar .byte c.toInt8.toInt32)) 111 1 (nI (n + 1))) t := by
  refine z_met (by decide) (Nat.le_of_ble_eq_true rfl) ?_
  intro X hl C E hnm
  show Zf X B mX9_append s t 0 [(0, .ref (B.1 + 111)), (1, .int c)] []
  refine z_aload_n C dX9_append_0 0 rfl rfl ?_
  refine f_get9 C 1 (v := .int (s 111 1)) (by decide) tw_203 rfl zk_111 zb_111 rfl dX9_append_1 ?_
  refine f_topi (y := nI n) hc ?_
  refine z_if_lt C 40 dX9_append_4 (by decide) (fun hbr => absurd hbr (nI_pos (by omega))) (fun _ => ?_)
  refine z_aload_n C dX9_append_7 0 rfl rfl ?_
  refine f_get9 C 1 (v := .int (s 111 1)) (by decide) tw_203 rfl zk_111 zb_111 rfl dX9_append_8 ?_
  refine f_topi (y := nI n) hc ?_
  refine z_aload_n C dX9_append_11 0 rfl rfl ?_
  refine f_get9 C 0 (v := .ref (B.1 + 112)) (by decide) tw_202 rfl zk_111 zb_111 rfl dX9_append_12 ?_
  refine f_alen21 C (v := 150) zk_112 zb_112 rfl dX9_append_15 ?_
  refine z_icmp_ge C 40 dX9_append_16 (by decide) (fun hbr => absurd hbr (show ¬ nI 150 ≤ nI n from nI_ge hn (by decide))) (fun _ => ?_)
  refine z_aload_n C dX9_append_19 0 rfl rfl ?_
  refine f_get9 C 0 (v := .ref (B.1 + 112)) (by decide) tw_202 rfl zk_111 zb_111 rfl dX9_append_20 ?_
  refine z_aload_n C dX9_append_23 0 rfl rfl ?_
  refine f_get9 C 1 (v := .int (s 111 1)) (by decide) tw_203 rfl zk_111 zb_111 rfl dX9_append_24 ?_
  refine f_topi (y := nI n) hc ?_
  refine z_iload_n C dX9_append_27 1 rfl rfl ?_
  refine z_i2b C dX9_append_28 ?_
  refine f_bastL C zk_112 zb_112 (ixN (n := 150) rfl (by omega) (by decide)).1 (j := n) (ixN (n := 150) rfl (by omega) (by decide)).2 dX9_append_29 ?_
  refine z_aload_n C dX9_append_30 0 rfl rfl ?_
  refine z_dup C dX9_append_31 rfl ?_
  refine f_get9 C 1 (v := .int ((zu s 112 n (vp_nar .byte ((c : Int32).toInt8.toInt32))) 111 1)) (by decide) tw_203 rfl zk_111 zb_111 rfl dX9_append_32 ?_
  refine f_topi (y := nI n) (by rw [zu_row _ _ (by decide)]; exact hc) ?_
  refine z_iconst C dX9_append_35 ki_1 ?_
  refine z_iadd C dX9_append_36 ?_
  refine f_topi (y := nI (n + 1)) (nI_1 n) ?_
  refine f_put9_1 C tw_203 zk_111 zb_111 dX9_append_37 ?_
  refine z_vret C E rfl dX9_append_40 rfl (Nat.le_refl _) ⟨rfl, rfl⟩
abbrev mX11_type : zM := (yX11_type, cX11_type, 2, (some .int), { frames := 1, cells := 0, slots := 0, locals := 21 })
set_option maxRecDepth 100000 in
set_option maxHeartbeats 4000000 in
theorem c_X11_type_bad (l : Launch) (B : zB) (s : zS) (t : zL) (c : Int32) (g : wIn c 127 = false) : zD l B mX11_type s t [.ref (B.1 + 0), .int c] (some (.int (-2))) (zu s 0 9 (s 0 9 + 1)) t := by
  refine z_met (by decide) (Nat.le_of_ble_eq_true rfl) ?_
  intro X hl C E hnm
  show Zf X B mX11_type s t 0 [(0, .ref (B.1 + 0)), (1, .int c)] []
  refine z_iload_n C dX11_type_0 1 rfl rfl ?_
  refine z_bipush C dX11_type_1 kb_127 ?_
  refine f_callSr C hl (As := [.int c, .int 127]) (rest := []) (c_X11_within l B s t c 127) (zCB (nA := 2) C rfl rfl tw_268 tw_1 tw_266 (by decide +kernel) ⟨Nat.le_of_ble_eq_true rfl, Nat.le_of_ble_eq_true rfl⟩) tw_267 rfl rfl (Nat.le_of_ble_eq_true rfl) dX11_type_3 (Nat.zero_le _) ?_
  refine z_ifb_ne C 16 dX11_type_6 (by decide) (fun hbr => absurd hbr (by rw [g]; decide)) (fun _ => ?_)
  refine z_aload_n C dX11_type_9 0 rfl rfl ?_
  refine z_bipush C dX11_type_10 kb_m2 ?_
  refine f_callVr C hl (As := [.int (-2)]) (rest := []) (c_X11_refuse2 l B s t) zb_0 (zg_11 zk_0) rfl (zCB (nA := 1) C rfl rfl tw_272 tw_1 tw_269 (by decide +kernel) ⟨Nat.le_of_ble_eq_true rfl, Nat.le_of_ble_eq_true rfl⟩) tw_271 tp_0 rfl rfl (Nat.le_of_ble_eq_true rfl) dX11_type_12 (Nat.zero_le _) ?_
  refine z_iret C E rfl dX11_type_15 rfl (Nat.le_refl _) ⟨rfl, rfl⟩
set_option maxRecDepth 100000 in
set_option maxHeartbeats 4000000 in
theorem c_X11_type_full (l : Launch) (B : zB) (s : zS) (t : zL) (c : Int32) (g : wIn c 127 = true) (hc : s 111 1 = 150) : zD l B mX11_type s t [.ref (B.1 + 0), .int c] (some (.int (-4))) (zu s 0 11 (s 0 11 + 1)) t := by
  refine z_met (by decide) (Nat.le_of_ble_eq_true rfl) ?_
  intro X hl C E hnm
  show Zf X B mX11_type s t 0 [(0, .ref (B.1 + 0)), (1, .int c)] []
  refine z_iload_n C dX11_type_0 1 rfl rfl ?_
  refine z_bipush C dX11_type_1 kb_127 ?_
  refine f_callSr C hl (As := [.int c, .int 127]) (rest := []) (c_X11_within l B s t c 127) (zCB (nA := 2) C rfl rfl tw_268 tw_1 tw_266 (by decide +kernel) ⟨Nat.le_of_ble_eq_true rfl, Nat.le_of_ble_eq_true rfl⟩) tw_267 rfl rfl (Nat.le_of_ble_eq_true rfl) dX11_type_3 (Nat.zero_le _) ?_
  refine z_ifb_ne C 16 dX11_type_6 (by decide) (fun _ => ?_) (fun hbr => Bool.noConfusion (show false = true from hbr.symm.trans g))
  refine z_aload_n C dX11_type_16 0 rfl rfl ?_
  refine f_get11 C 6 (v := .ref (B.1 + 111)) (by decide) tw_231 rfl zk_0 zb_0 rfl dX11_type_17 ?_
  refine f_get9 C 1 (v := .int (s 111 1)) (by decide) tw_204 rfl zk_111 zb_111 rfl dX11_type_20 ?_
  refine f_topi (y := 150) hc ?_
  refine z_sipush C dX11_type_23 ks_150 ?_
  refine z_icmp_lt C 36 dX11_type_26 (by decide) (fun hbr => absurd hbr (by decide)) (fun _ => ?_)
  refine z_aload_n C dX11_type_29 0 rfl rfl ?_
  refine z_bipush C dX11_type_30 kb_m4 ?_
  refine f_callVr C hl (As := [.int (-4)]) (rest := []) (c_X11_refuse4 l B s t) zb_0 (zg_11 zk_0) rfl (zCB (nA := 1) C rfl rfl tw_272 tw_1 tw_269 (by decide +kernel) ⟨Nat.le_of_ble_eq_true rfl, Nat.le_of_ble_eq_true rfl⟩) tw_271 tp_0 rfl rfl (Nat.le_of_ble_eq_true rfl) dX11_type_32 (Nat.zero_le _) ?_
  refine z_iret C E rfl dX11_type_35 rfl (Nat.le_refl _) ⟨rfl, rfl⟩
set_option maxRecDepth 100000 in
set_option maxHeartbeats 4000000 in
theorem c_X11_type_ok (l : Launch) (B : zB) (s : zS) (t : zL) (c : Int32) (g : wIn c 127 = true) (n : Nat) (hn : n < 150) (hc : s 111 1 = nI n) : zD l B mX11_type s t [.ref (B.1 + 0), .int c] (some (.int (nI (n + 1)))) (zu (zu s 112 n (vp_nar .byte c.toInt8.toInt32)) 111 1 (nI (n + 1))) t := by
  refine z_met (by decide) (Nat.le_of_ble_eq_true rfl) ?_
  intro X hl C E hnm
  show Zf X B mX11_type s t 0 [(0, .ref (B.1 + 0)), (1, .int c)] []
  refine z_iload_n C dX11_type_0 1 rfl rfl ?_
  refine z_bipush C dX11_type_1 kb_127 ?_
  refine f_callSr C hl (As := [.int c, .int 127]) (rest := []) (c_X11_within l B s t c 127) (zCB (nA := 2) C rfl rfl tw_268 tw_1 tw_266 (by decide +kernel) ⟨Nat.le_of_ble_eq_true rfl, Nat.le_of_ble_eq_true rfl⟩) tw_267 rfl rfl (Nat.le_of_ble_eq_true rfl) dX11_type_3 (Nat.zero_le _) ?_
  refine z_ifb_ne C 16 dX11_type_6 (by decide) (fun _ => ?_) (fun hbr => Bool.noConfusion (show false = true from hbr.symm.trans g))
  refine z_aload_n C dX11_type_16 0 rfl rfl ?_
  refine f_get11 C 6 (v := .ref (B.1 + 111)) (by decide) tw_231 rfl zk_0 zb_0 rfl dX11_type_17 ?_
  refine f_get9 C 1 (v := .int (s 111 1)) (by decide) tw_204 rfl zk_111 zb_111 rfl dX11_type_20 ?_
  refine f_topi (y := nI n) hc ?_
  refine z_sipush C dX11_type_23 ks_150 ?_
  refine z_icmp_lt C 36 dX11_type_26 (by decide) (fun _ => ?_) (fun hbr => absurd (show nI n < nI 150 from nI_lt hn (by decide)) hbr)
  refine z_aload_n C dX11_type_36 0 rfl rfl ?_
  refine f_get11 C 6 (v := .ref (B.1 + 111)) (by decide) tw_231 rfl zk_0 zb_0 rfl dX11_type_37 ?_
  refine z_iload_n C dX11_type_40 1 rfl rfl ?_
  refine f_callVv C hl (As := [.int c]) (rest := []) (c_X9_append l B s t c n hn hc) zb_111 (zg_9 zk_111) rfl (zCB (nA := 1) C rfl rfl tw_299 tw_12 tw_296 (by decide +kernel) ⟨Nat.le_of_ble_eq_true rfl, Nat.le_of_ble_eq_true rfl⟩) tw_297 tw_298 rfl rfl (Nat.le_of_ble_eq_true rfl) dX11_type_41 (Nat.zero_le _) ?_
  refine z_aload_n C dX11_type_44 0 rfl rfl ?_
  refine f_get11 C 6 (v := .ref (B.1 + 111)) (by decide) tw_231 rfl zk_0 zb_0 rfl dX11_type_45 ?_
  refine f_get9 C 1 (v := .int ((zu (zu s 112 n (vp_nar .byte c.toInt8.toInt32)) 111 1 (nI (n + 1))) 111 1)) (by decide) tw_204 rfl zk_111 zb_111 rfl dX11_type_48 ?_
  refine f_topi (y := nI (n + 1)) (zu_same _ _ _ _) ?_
  refine z_iret C E rfl dX11_type_51 rfl (Nat.le_refl _) ⟨rfl, rfl⟩
