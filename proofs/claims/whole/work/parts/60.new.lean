section ZNEW
variable {X : zX} {B : zB} {μ : zM} {n : Nat} {G : Nat → va_E} {a w pc : Nat} {lv : List (Nat × Value)} {st : List Value}
theorem va_upA (G : Nat → va_E) (c : Nat) (e e2 : va_E) : va_up (va_up G c e) c e2 = va_up G c e2 := by
  funext j
  simp only [va_up]
  split <;> rfl
theorem va_upB (G : Nat → va_E) (c c2 : Nat) (e e2 e3 : va_E) (h : c ≠ c2) : va_up (va_up (va_up G c e) c2 e2) c e3 = va_up (va_up G c e3) c2 e2 := by
  funext j
  simp only [va_up]
  by_cases h1 : j = c
  · subst h1
    simp [h]
  · simp [h1]
theorem va_upI (G : Nat → va_E) (c : Nat) (e : va_E) (h : G c = e) : va_up G c e = G := by
  funext j
  simp only [va_up]
  split
  · next z => rw [z, h]
  · rfl
theorem zw.congr {H : Heap} {G2 : Nat → va_E} (h : zw B n G H) (hg : ∀ k, k < n → G2 k = G k) : zw B n G2 H := ⟨h.1, fun k hk => by rw [hg k hk]; exact h.2 k hk⟩
theorem z_GG {G2 : Nat → va_E} (hg : ∀ k, k < n → G k = G2 k) (k : Z X B μ n G2 a w pc lv st) : Z X B μ n G a w pc lv st := fun H locs ls hl hw hS hk => k H locs ls hl (hw.congr (fun k h => (hg k h).symm)) hS hk
theorem arrV_congr {c : ClassId} {N : Nat} {f g : Nat → Value} (h : ∀ j, j < N → f j = g j) : arrV c N f = arrV c N g := by
  unfold arrV
  congr 2
  funext j
  exact h j.val j.isLt
/-- an array of references that is filled up to i -/
def zq (B : zB) (g : Nat → Nat) (i : Nat) : Nat → Option Nat := fun j => if j < i then some (B.1 + g j) else none
theorem zq_s (B : zB) (g : Nat → Nat) (i : Nat) : va_up (zq B g i) i (some (B.1 + g i)) = zq B g (i + 1) := by
  funext j
  simp only [va_up, zq]
  by_cases h1 : j = i
  · subst h1; simp
  · rw [if_neg h1]
    by_cases h2 : j < i
    · rw [if_pos h2, if_pos (by omega)]
    · rw [if_neg h2, if_neg (by omega)]
theorem zq_0 (B : zB) (g : Nat → Nat) : (fun _ => none) = zq B g 0 := by funext j; simp [zq]
theorem z_fill {o N t0 : Nat} {g : Nat → Nat} (k : Z X B μ n (va_up G o (.inl (B.2.2.1 t0, N, .inr (.inr (.inr (.inr (fun j => some (B.1 + g j)))))))) a w pc lv st) : Z X B μ n (va_up G o (.inl (B.2.2.1 t0, N, .inr (.inr (.inr (.inr (zq B g N))))))) a w pc lv st := by
  intro H locs ls hl hw hS hk
  refine k H locs ls hl ⟨hw.1, fun q hq => ?_⟩ hS hk
  have h := hw.2 q hq
  by_cases hqo : q = o
  · subst hqo
    rw [va_up_self] at h ⊢
    show H[B.1 + q]? = some (vp_cell _ _)
    have h2 : H[B.1 + q]? = some (vp_cell _ _) := h
    rw [h2, vp_cell_q, vp_cell_q]
    congr 1
    exact arrV_congr (fun j hj => by simp [zq, hj])
  · rw [va_up_ne _ _ hqo] at h ⊢
    exact h
theorem z_addr {q : Nat} {e : va_E} {H1 : Heap} (hP : va_P B.2.1 vwCl (zl B n G ++ [(q, e)]) H1) (hD : va_D (zA B) (zl B n G ++ [(q, e)])) (hz : H1.size ≤ B.1 + (n + 1)) : q = B.1 + n := by
  have hlen : (zl B n G).length = n := by simp [zl]
  have hlast : (zl B n G ++ [(q, e)])[n]? = some (q, e) := by rw [List.getElem?_append_right (by omega), hlen]; simp
  have h1 : q < H1.size := (hP n _ hlast).lt
  have h2 : B.1 ≤ q := hD.2 n _ hlast
  apply Classical.byContradiction
  intro hne
  have hk : q - B.1 < n := by omega
  have h3 : (zl B n G ++ [(q, e)])[q - B.1]? = some (B.1 + (q - B.1), G (q - B.1)) := by rw [List.getElem?_append_left (by omega)]; exact zl_get hk
  have h4 := hD.1 _ _ _ _ h3 hlast (by dsimp only; omega)
  omega
theorem va_RA_eq {U : State} {c1 c2 : ClassId} {ty : FieldType} (h1 : va_RA U c1 ty) (h2 : va_RA U c2 ty) : c1 = c2 := by
  cases ty with
  | object C =>
    obtain ⟨_, _, _, _, _, e1⟩ := h1
    obtain ⟨_, _, _, _, _, e2⟩ := h2
    exact Option.some.inj (e1.symm.trans e2)
  | _ => exact Option.some.inj (Eq.trans (Eq.symm (show U.vm.findClass _ = some c1 from h1)) h2)
theorem z_cls {t0 : Nat} {cA : ClassId} {ty : FieldType} {U : State} (hK : va_K B.2.1 vwCl (zTys B.2.2.1 ++ [(cA, ty)]) U) (ht : (zTys B.2.2.1)[t0]? = some (B.2.2.1 t0, ty)) : cA = B.2.2.1 t0 := by
  have h1 := (hK.2 8 (cA, ty) rfl).2
  have hlt : t0 < (zTys B.2.2.1).length := (List.getElem?_eq_some_iff.mp ht).1
  have h2 := (hK.2 t0 (B.2.2.1 t0, ty) (by rw [List.getElem?_append_left hlt]; exact ht)).2
  exact va_RA_eq h1 h2
theorem z_new (C : zC X B μ) {Cn : String} {T : u_T} {N ci index n2 a2 w2 : Nat} {fs : List Value} (ty : Nat → FieldType) (hty : ∀ k, k < N → parseFieldDescriptor (T k).2.2.1 = some (ty k)) (hin : ∀ w ∈ u_ws Cn T N, zT w) (hcl : zT (Cond.classLink μ.1.cls index Cn)) (hinst : zT (Cond.instantiable Cn N)) (hini : zT (Cond.initialized Cn)) (hc : vwCl[ci]? = some (Cn, T, N)) (hfs : ∀ j, j < N → defaultValue (ty j) = vp_V fs j) (hG : G n = .inr (ci, fs)) (hcells : a + 1 ≤ μ.2.2.2.2.cells) (hslots : w + N ≤ μ.2.2.2.2.slots) (d : decode μ.2.1 pc = .ok (.new index, 3)) (hn2 : n + 1 = n2) (ha2 : a + 1 = a2) (hw2 : w + N = w2) (k : Z X B μ n2 G a2 w2 (pc + 3) lv (.ref (B.1 + n) :: st)) : Z X B μ n G a w pc lv st := by
  subst hn2; subst ha2; subst hw2
  intro H locs ls hl hw hS hk
  refine va_new C.1 C.2.1 (C.ts hin) (fun _ h => h) ty hty C.2.2.2.1 (C.t hcl) (C.t hinst) (C.t hini) C.2.2.2.2.2.1.2.1 hw.P zl_D hS (fun q hq => Nat.le_trans C.2.2.2.2.2.2 hq) hc hfs hcells hslots d (fun q H1 hP hD hS1 => zsize (fun hz => ?_))
  have hq := z_addr hP hD (by omega)
  subst hq
  rw [zl_push, va_upI _ _ _ hG] at hP
  exact k H1 locs ls hl (zw.of hP (by omega) (by omega)) hS1 (by omega)
theorem z_newa (C : zC X B μ) {atype : ArrayType} {ty : FieldType} {n2 a2 w2 : Nat} (t0 : Nat) (harr : zT (Cond.arrayClass (newarray.typeOf atype))) (hty : newarray.typeOf atype = ty) (ht : (zTys B.2.2.1)[t0]? = some (B.2.2.1 t0, ty)) {nn : Int32} {N' : Nat} (hdf : defaultValue ty = .int 0) (hn : ¬ nn < 0) (hN : nn.toNatClampNeg = N') (hbytes : N' * componentBytes ty ≤ 536870912) (hG : G n = .inl (B.2.2.1 t0, N', .inl (fun _ => 0))) (hcells : a + 1 ≤ μ.2.2.2.2.cells) (hslots : w + N' ≤ μ.2.2.2.2.slots) (d : decode μ.2.1 pc = .ok (.newarray atype, 2)) (hn2 : n + 1 = n2) (ha2 : a + 1 = a2) (hw2 : w + N' = w2) (k : Z X B μ n2 G a2 w2 (pc + 2) lv (.ref (B.1 + n) :: st)) : Z X B μ n G a w pc lv (.int nn :: st) := by
  subst hn2; subst ha2; subst hw2
  intro H locs ls hl hw hS hk
  refine va_newa C.1 C.2.1 (C.t harr) hty C.2.2.2.2.2.1.2.1 hw.P zl_D hS (fun q hq => Nat.le_trans C.2.2.2.2.2.2 hq) (a0 := (N', .inl (fun _ => 0))) (fun cA => by rw [vp_cell_i, hdf]) hn hN hbytes hcells hslots d (fun q cA H1 hK hP hD hS1 => zsize (fun hz => ?_))
  have hq := z_addr hP hD (by omega)
  subst hq
  have hc := z_cls hK ht
  subst hc
  rw [zl_push, va_upI _ _ _ hG] at hP
  exact k H1 locs ls hl (zw.of hP (by omega) (by omega)) hS1 (by omega)
theorem z_anew (C : zC X B μ) {Cn : String} {index n2 a2 w2 : Nat} (t0 : Nat) (hcl : zT (Cond.classLink μ.1.cls index Cn)) (hov : Cn ∈ [RX0, RX1, RX4, RX5, RX8]) (ht : (zTys B.2.2.1)[t0]? = some (B.2.2.1 t0, .object Cn)) {nn : Int32} {N' : Nat} (hn : ¬ nn < 0) (hN : nn.toNatClampNeg = N') (hbytes : N' * 4 ≤ 536870912) (hG : G n = .inl (B.2.2.1 t0, N', .inr (.inr (.inr (.inr (fun _ => none)))))) (hcells : a + 1 ≤ μ.2.2.2.2.cells) (hslots : w + N' ≤ μ.2.2.2.2.slots) (d : decode μ.2.1 pc = .ok (.anewarray index, 3)) (hn2 : n + 1 = n2) (ha2 : a + 1 = a2) (hw2 : w + N' = w2) (k : Z X B μ n2 G a2 w2 (pc + 3) lv (.ref (B.1 + n) :: st)) : Z X B μ n G a w pc lv (.int nn :: st) := by
  subst hn2; subst ha2; subst hw2
  intro H locs ls hl hw hS hk
  refine va_newq C.1 C.2.1 C.2.2.2.1 (C.t hcl) (C.2.2.2.2.2.1.2.2.2.2.2.2.2.2 Cn hov) C.2.2.2.2.2.1.2.1 hw.P zl_D hS (fun q hq => Nat.le_trans C.2.2.2.2.2.2 hq) hn hN hbytes hcells hslots d (fun q cA H1 hK hP hD hS1 => zsize (fun hz => ?_))
  have hq := z_addr hP hD (by omega)
  subst hq
  have hc := z_cls hK ht
  subst hc
  rw [zl_push, va_upI _ _ _ hG] at hP
  exact k H1 locs ls hl (zw.of hP (by omega) (by omega)) hS1 (by omega)
theorem z_aast (C : zC X B μ) {o v N ci : Nat} {r : vw_C} {vs : List Value} {f : Nat → Option Nat} {i : Int32} (t0 : Nat) (ho : o < n) (hG : G o = .inl (B.2.2.1 t0, N, .inr (.inr (.inr (.inr f))))) (ht : (zTys B.2.2.1)[t0]? = some (B.2.2.1 t0, .object r.1)) (hv0 : v < n) (hv : G v = .inr (ci, vs)) (hc : vwCl[ci]? = some r) (hi : vp_in i N) (d : decode μ.2.1 pc = .ok (.aastore, 1)) (k : Z X B μ n (va_up G o (.inl (B.2.2.1 t0, N, .inr (.inr (.inr (.inr (va_up f i.toNatClampNeg (some (B.1 + v))))))))) a w (pc + 1) lv st) : Z X B μ n G a w pc lv (.ref (B.1 + v) :: .int i :: .ref (B.1 + o) :: st) :=
  fun H locs ls hl hw hS hk => va_astq C.1 C.2.1 C.2.2.2.2.2.1.2.1 hw.P zl_D hS o t0 v ci (zl_at ho hG) ht (zl_at hv0 hv) hc hi d (fun H1 locs1 hP hD hS1 => zsize (fun hz => k H1 locs1 ls hl (zw.of (by rw [← zl_set]; exact hP) (by omega) (by omega)) hS1 hk))
theorem z_aastO (C : zC X B μ) {o v N ci : Nat} {r : vw_C} {vs : List Value} {f : Nat → Option Nat} {i : Int32} (t0 : Nat) (ho : o < n) (hG : G o = .inl (B.2.2.1 t0, N, .inr (.inr (.inr (.inr f))))) (ht : (zTys B.2.2.1)[t0]? = some (B.2.2.1 t0, .object RX5)) (hca : r.1 ∈ [RX7, RX10, RX6, RX3, RX2]) (hv0 : v < n) (hv : G v = .inr (ci, vs)) (hc : vwCl[ci]? = some r) (hi : vp_in i N) (d : decode μ.2.1 pc = .ok (.aastore, 1)) (k : Z X B μ n (va_up G o (.inl (B.2.2.1 t0, N, .inr (.inr (.inr (.inr (va_up f i.toNatClampNeg (some (B.1 + v))))))))) a w (pc + 1) lv st) : Z X B μ n G a w pc lv (.ref (B.1 + v) :: .int i :: .ref (B.1 + o) :: st) :=
  fun H locs ls hl hw hS hk => va_astqO C.1 C.2.1 C.2.2.2.2.2.1.2.1 hw.P zl_D hS o t0 v ci (zl_at ho hG) ht (C.2.2.2.2.2.1.2.2.2.2.2.2.2.1 _ hca) (zl_at hv0 hv) hc hi d (fun H1 locs1 hP hD hS1 => zsize (fun hz => k H1 locs1 ls hl (zw.of (by rw [← zl_set]; exact hP) (by omega) (by omega)) hS1 hk))
theorem z_obj (C : zC X B μ) {idx o : Nat} (hlink : zT (Cond.methodLink μ.1.cls idx Lib.objectInit)) (hfr : 1 ≤ μ.2.2.2.2.frames) (hlo : (st.map fun v => v.category).sum + 12 ≤ μ.2.2.2.2.locals) (d : decode μ.2.1 pc = .ok (.invokespecial idx, 3)) (k : Z X B μ n G a w (pc + 3) lv st) : Z X B μ n G a w pc lv (.ref o :: st) :=
  fun H locs ls hl hw hS hk => W.objInit C.1 C.2.1 C.2.2.2.1 (C.t hlink) (C.t tw_26) (C.t tw_27) rfl (by rw [C.2.2.1]; exact hl.1) rfl d hfr (by show 2 * 0 + _ + 12 ≤ _; omega) (k H locs ls hl hw hS hk)
/-- the end of a constructor: the store G2 -/
def zRi (G2 : Nat → va_E) : Option Value → Nat → (Nat → va_E) → Prop := fun v _ G => v = none ∧ G = G2
theorem z_callI (C : zC X B μ) {l : Launch} (hl : X.2.1 = l) {κ : zM} {mc ms index o n2 a2 w2 : Nat} {rest : List Value} {G2 : Nat → va_E} (hM : zMet l B κ mc ms n G [.ref (B.1 + o)] (zRi G2)) (cw : CallB μ.2.2.2.2 (xS X) (xA X) μ.1.cls index κ.1 κ.2.1 κ.2.2.1 none (zWs κ) κ.2.2.2.2 mc ms 0) (hnm : κ.1.name = "<init>") (hin : zT (.instanceMethod κ.1)) (hW : (rest.map fun v => v.category).sum ≤ 8) (d : decode μ.2.1 pc = .ok (.invokespecial index, 3)) (hf : a + mc ≤ μ.2.2.2.2.cells ∧ w + ms ≤ μ.2.2.2.2.slots) (hn2 : n + mc = n2) (ha2 : a + mc = a2) (hw2 : w + ms = w2) (kk : Z X B μ n2 G2 a2 w2 (pc + 3) lv rest) : Z X B μ n G a w pc lv (.ref (B.1 + o) :: rest) := by
  subst hl; subst hn2; subst ha2; subst hw2
  exact z_run (mc := mc) (ms := ms) (rest := rest) (fun H locs ls hls hw hS => va_runI (As := []) (rest := rest) C.fix hM ⟨cw, hnm, C.t hin⟩ ⟨zPre_blind, zPre_at C hw hS _⟩ rfl rfl hls.1 rfl (lv_room hW) d hf) (fun v G' q => by obtain ⟨rfl, rfl⟩ := q; exact kk)
theorem z_callIN (C : zC X B μ) {l : Launch} (hl : X.2.1 = l) {κ : zM} {mc ms index o n2 a2 w2 : Nat} {rest : List Value} {G2 : Nat → va_E} (hM : zMet l B κ mc ms n G [.ref (B.1 + o)] (zRi G2)) (cw : va_CN μ.2.2.2.2 (xS X) (xA X) μ.1.cls index κ.1 RX11 κ.2.1 κ.2.2.1 none (zWs κ) κ.2.2.2.2 mc ms 0) (hnm : κ.1.name = "<init>") (hin : zT (.instanceMethod κ.1)) (hW : (rest.map fun v => v.category).sum ≤ 8) (d : decode μ.2.1 pc = .ok (.invokespecial index, 3)) (hf : a + mc ≤ μ.2.2.2.2.cells ∧ w + ms ≤ μ.2.2.2.2.slots) (hn2 : n + mc = n2) (ha2 : a + mc = a2) (hw2 : w + ms = w2) (kk : Z X B μ n2 G2 a2 w2 (pc + 3) lv rest) : Z X B μ n G a w pc lv (.ref (B.1 + o) :: rest) := by
  subst hl; subst hn2; subst ha2; subst hw2
  exact z_run (mc := mc) (ms := ms) (rest := rest) (fun H locs ls hls hw hS => va_runIN (As := []) (rest := rest) C.fix hM ⟨cw, hnm, C.t hin⟩ ⟨zPre_blind, zPre_at C hw hS _⟩ rfl rfl hls.1 rfl (lv_room hW) d hf) (fun v G' q => by obtain ⟨rfl, rfl⟩ := q; exact kk)
end ZNEW
def z0 : zS := fun _ _ => 0
def zt1 : zL := fun k j => if k = 0 ∧ j = 8 then 1 else if k = 113 ∧ j = 5 then 1 else 0
abbrev mX0_init : zM := (yX0_init, cX0_init, 1, none, { frames := 1, cells := 0, slots := 0, locals := 12 })
set_option maxRecDepth 100000 in
set_option maxHeartbeats 4000000 in
theorem c_X0_init (l : Launch) (B : zB) (n : Nat) (G : Nat → va_E) (o : Nat) : zMet l B mX0_init 0 0 n G [.ref (B.1 + o)] (zRi G) := by
  refine z_met (by decide) (Nat.le_of_ble_eq_true rfl) ?_
  intro X hl C E hnm
  show Z X B mX0_init n G 0 0 0 [(0, .ref (B.1 + o))] []
  refine z_aload_n C dX0_init_0 0 rfl rfl ?_
  refine z_obj C tw_116 (Nat.le_of_ble_eq_true rfl) (Nat.le_of_ble_eq_true rfl) dX0_init_1 ?_
  exact z_vret C E rfl dX0_init_4 rfl (Nat.le_refl _) ⟨rfl, rfl⟩
abbrev mX4_init : zM := (yX4_init, cX4_init, 1, none, { frames := 1, cells := 0, slots := 0, locals := 12 })
set_option maxRecDepth 100000 in
set_option maxHeartbeats 4000000 in
theorem c_X4_init (l : Launch) (B : zB) (n : Nat) (G : Nat → va_E) (o : Nat) : zMet l B mX4_init 0 0 n G [.ref (B.1 + o)] (zRi G) := by
  refine z_met (by decide) (Nat.le_of_ble_eq_true rfl) ?_
  intro X hl C E hnm
  show Z X B mX4_init n G 0 0 0 [(0, .ref (B.1 + o))] []
  refine z_aload_n C dX4_init_0 0 rfl rfl ?_
  refine z_obj C tw_144 (Nat.le_of_ble_eq_true rfl) (Nat.le_of_ble_eq_true rfl) dX4_init_1 ?_
  exact z_vret C E rfl dX4_init_4 rfl (Nat.le_refl _) ⟨rfl, rfl⟩
abbrev mX5_init : zM := (yX5_init, cX5_init, 1, none, { frames := 1, cells := 0, slots := 0, locals := 12 })
set_option maxRecDepth 100000 in
set_option maxHeartbeats 4000000 in
theorem c_X5_init (l : Launch) (B : zB) (n : Nat) (G : Nat → va_E) (o : Nat) : zMet l B mX5_init 0 0 n G [.ref (B.1 + o)] (zRi G) := by
  refine z_met (by decide) (Nat.le_of_ble_eq_true rfl) ?_
  intro X hl C E hnm
  show Z X B mX5_init n G 0 0 0 [(0, .ref (B.1 + o))] []
  refine z_aload_n C dX5_init_0 0 rfl rfl ?_
  refine z_obj C tw_34 (Nat.le_of_ble_eq_true rfl) (Nat.le_of_ble_eq_true rfl) dX5_init_1 ?_
  exact z_vret C E rfl dX5_init_4 rfl (Nat.le_refl _) ⟨rfl, rfl⟩
abbrev mX8_init : zM := (yX8_init, cX8_init, 1, none, { frames := 1, cells := 0, slots := 0, locals := 12 })
set_option maxRecDepth 100000 in
set_option maxHeartbeats 4000000 in
theorem c_X8_init (l : Launch) (B : zB) (n : Nat) (G : Nat → va_E) (o : Nat) : zMet l B mX8_init 0 0 n G [.ref (B.1 + o)] (zRi G) := by
  refine z_met (by decide) (Nat.le_of_ble_eq_true rfl) ?_
  intro X hl C E hnm
  show Z X B mX8_init n G 0 0 0 [(0, .ref (B.1 + o))] []
  refine z_aload_n C dX8_init_0 0 rfl rfl ?_
  refine z_obj C tw_82 (Nat.le_of_ble_eq_true rfl) (Nat.le_of_ble_eq_true rfl) dX8_init_1 ?_
  exact z_vret C E rfl dX8_init_4 rfl (Nat.le_refl _) ⟨rfl, rfl⟩
abbrev mX7_init : zM := (yX7_init, cX7_init, 1, none, { frames := 2, cells := 0, slots := 0, locals := 32 })
set_option maxRecDepth 100000 in
set_option maxHeartbeats 4000000 in
theorem c_X7_init (l : Launch) (B : zB) (n : Nat) (G : Nat → va_E) (o : Nat) : zMet l B mX7_init 0 0 n G [.ref (B.1 + o)] (zRi G) := by
  refine z_met (by decide) (Nat.le_of_ble_eq_true rfl) ?_
  intro X hl C E hnm
  show Z X B mX7_init n G 0 0 0 [(0, .ref (B.1 + o))] []
  refine z_aload_n C dX7_init_0 0 rfl rfl ?_
  refine z_callIN C hl (o := o) (c_X5_init l B n G o) (zCN (nA := 0) C rfl rfl tw_33 tw_2 (by decide +kernel) (by decide +kernel) ⟨Nat.le_of_ble_eq_true rfl, Nat.le_of_ble_eq_true rfl⟩) rfl tw_32 (Nat.le_of_ble_eq_true rfl) dX7_init_1 ⟨Nat.le_of_ble_eq_true rfl, Nat.le_of_ble_eq_true rfl⟩ (n2 := n) (a2 := 0) (w2 := 0) rfl rfl rfl ?_
  exact z_vret C E rfl dX7_init_4 rfl (Nat.le_refl _) ⟨rfl, rfl⟩
abbrev mX10_init : zM := (yX10_init, cX10_init, 1, none, { frames := 2, cells := 0, slots := 0, locals := 32 })
set_option maxRecDepth 100000 in
set_option maxHeartbeats 4000000 in
theorem c_X10_init (l : Launch) (B : zB) (n : Nat) (G : Nat → va_E) (o : Nat) : zMet l B mX10_init 0 0 n G [.ref (B.1 + o)] (zRi G) := by
  refine z_met (by decide) (Nat.le_of_ble_eq_true rfl) ?_
  intro X hl C E hnm
  show Z X B mX10_init n G 0 0 0 [(0, .ref (B.1 + o))] []
  refine z_aload_n C dX10_init_0 0 rfl rfl ?_
  refine z_callIN C hl (o := o) (c_X5_init l B n G o) (zCN (nA := 0) C rfl rfl tw_33 tw_2 (by decide +kernel) (by decide +kernel) ⟨Nat.le_of_ble_eq_true rfl, Nat.le_of_ble_eq_true rfl⟩) rfl tw_32 (Nat.le_of_ble_eq_true rfl) dX10_init_1 ⟨Nat.le_of_ble_eq_true rfl, Nat.le_of_ble_eq_true rfl⟩ (n2 := n) (a2 := 0) (w2 := 0) rfl rfl rfl ?_
  exact z_vret C E rfl dX10_init_4 rfl (Nat.le_refl _) ⟨rfl, rfl⟩
abbrev mX6_init : zM := (yX6_init, cX6_init, 1, none, { frames := 2, cells := 0, slots := 0, locals := 32 })
set_option maxRecDepth 100000 in
set_option maxHeartbeats 4000000 in
theorem c_X6_init (l : Launch) (B : zB) (n : Nat) (G : Nat → va_E) (o : Nat) : zMet l B mX6_init 0 0 n G [.ref (B.1 + o)] (zRi G) := by
  refine z_met (by decide) (Nat.le_of_ble_eq_true rfl) ?_
  intro X hl C E hnm
  show Z X B mX6_init n G 0 0 0 [(0, .ref (B.1 + o))] []
  refine z_aload_n C dX6_init_0 0 rfl rfl ?_
  refine z_callIN C hl (o := o) (c_X5_init l B n G o) (zCN (nA := 0) C rfl rfl tw_33 tw_2 (by decide +kernel) (by decide +kernel) ⟨Nat.le_of_ble_eq_true rfl, Nat.le_of_ble_eq_true rfl⟩) rfl tw_32 (Nat.le_of_ble_eq_true rfl) dX6_init_1 ⟨Nat.le_of_ble_eq_true rfl, Nat.le_of_ble_eq_true rfl⟩ (n2 := n) (a2 := 0) (w2 := 0) rfl rfl rfl ?_
  exact z_vret C E rfl dX6_init_4 rfl (Nat.le_refl _) ⟨rfl, rfl⟩
abbrev mX3_init : zM := (yX3_init, cX3_init, 1, none, { frames := 3, cells := 0, slots := 0, locals := 52 })
set_option maxRecDepth 100000 in
set_option maxHeartbeats 4000000 in
theorem c_X3_init (l : Launch) (B : zB) (n : Nat) (G : Nat → va_E) (o : Nat) : zMet l B mX3_init 0 0 n G [.ref (B.1 + o)] (zRi G) := by
  refine z_met (by decide) (Nat.le_of_ble_eq_true rfl) ?_
  intro X hl C E hnm
  show Z X B mX3_init n G 0 0 0 [(0, .ref (B.1 + o))] []
  refine z_aload_n C dX3_init_0 0 rfl rfl ?_
  refine z_callIN C hl (o := o) (c_X10_init l B n G o) (zCN (nA := 0) C rfl rfl tw_47 tw_4 (by decide +kernel) (by decide +kernel) ⟨Nat.le_of_ble_eq_true rfl, Nat.le_of_ble_eq_true rfl⟩) rfl tw_46 (Nat.le_of_ble_eq_true rfl) dX3_init_1 ⟨Nat.le_of_ble_eq_true rfl, Nat.le_of_ble_eq_true rfl⟩ (n2 := n) (a2 := 0) (w2 := 0) rfl rfl rfl ?_
  exact z_vret C E rfl dX3_init_4 rfl (Nat.le_refl _) ⟨rfl, rfl⟩
abbrev mX2_init : zM := (yX2_init, cX2_init, 1, none, { frames := 3, cells := 0, slots := 0, locals := 52 })
set_option maxRecDepth 100000 in
set_option maxHeartbeats 4000000 in
theorem c_X2_init (l : Launch) (B : zB) (n : Nat) (G : Nat → va_E) (o : Nat) : zMet l B mX2_init 0 0 n G [.ref (B.1 + o)] (zRi G) := by
  refine z_met (by decide) (Nat.le_of_ble_eq_true rfl) ?_
  intro X hl C E hnm
  show Z X B mX2_init n G 0 0 0 [(0, .ref (B.1 + o))] []
  refine z_aload_n C dX2_init_0 0 rfl rfl ?_
  refine z_callIN C hl (o := o) (c_X7_init l B n G o) (zCN (nA := 0) C rfl rfl tw_40 tw_3 (by decide +kernel) (by decide +kernel) ⟨Nat.le_of_ble_eq_true rfl, Nat.le_of_ble_eq_true rfl⟩) rfl tw_39 (Nat.le_of_ble_eq_true rfl) dX2_init_1 ⟨Nat.le_of_ble_eq_true rfl, Nat.le_of_ble_eq_true rfl⟩ (n2 := n) (a2 := 0) (w2 := 0) rfl rfl rfl ?_
  exact z_vret C E rfl dX2_init_4 rfl (Nat.le_refl _) ⟨rfl, rfl⟩
abbrev mX9_init : zM := (yX9_init, cX9_init, 1, none, { frames := 1, cells := 1, slots := 150, locals := 12 })
set_option maxRecDepth 100000 in
set_option maxHeartbeats 4000000 in
theorem c_X9_init_111 (l : Launch) (B : zB) (G : Nat → va_E) (hG : ∀ k, 111 ≤ k → k < 113 → G k = zg B z0 zt1 k) : zMet l B mX9_init 1 150 112 (va_up G 111 (.inr (9, [.null, .int 0, .int 0, .int 0, .int 0, .int 0]))) [.ref (B.1 + 111)] (zRi G) := by
  refine z_met (by decide) (Nat.le_of_ble_eq_true rfl) ?_
  intro X hl C E hnm
  show Z X B mX9_init 112 (va_up G 111 (.inr (9, [.null, .int 0, .int 0, .int 0, .int 0, .int 0]))) 0 0 0 [(0, .ref (B.1 + 111))] []
  refine z_aload_n C dX9_init_0 0 rfl rfl ?_
  refine z_obj C tw_201 (Nat.le_of_ble_eq_true rfl) (Nat.le_of_ble_eq_true rfl) dX9_init_1 ?_
  refine z_aload_n C dX9_init_4 0 rfl rfl ?_
  refine z_sipush C dX9_init_5 ks_150 ?_
  refine z_newa C (atype := .byte) (ty := .byte) 1 tw_224 rfl rfl rfl (by decide) (N' := 150) (by decide) (by decide) (hG 112 (by decide) (by decide)) (Nat.le_of_ble_eq_true rfl) (Nat.le_of_ble_eq_true rfl) dX9_init_8 (n2 := 113) (a2 := 1) (w2 := 150) rfl rfl rfl ?_
  refine z_putF C hnm (ci := 9) (o := 111) (j := 0) (fs := [.null, .int 0, .int 0, .int 0, .int 0, .int 0]) (ty := tyX9 0) tyX9 tyX9_ok nmX9 zc_9 rfl (by decide) tw_202 rfl rfl rfl (by decide +kernel) rfl rfl (by decide) rfl (Nat.le_of_ble_eq_true rfl) dX9_init_10 ?_
  refine z_G (G2 := (va_up G 111 (.inr (9, [.ref (B.1 + 112), .int 0, .int 0, .int 0, .int 0, .int 0])))) (va_upA _ _ _ _) ?_
  refine z_G (G2 := G) (va_upI _ _ _ (hG 111 (by decide) (by decide))) ?_
  exact z_vret C E rfl dX9_init_13 rfl (Nat.le_refl _) ⟨rfl, rfl⟩
