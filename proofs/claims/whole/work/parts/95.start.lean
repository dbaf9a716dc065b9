set_option maxRecDepth 100000 in
set_option maxHeartbeats 4000000 in
theorem whole_start {p : Program} {e : Env} {s : State} {m : MethodId} {below : List Frame} {meth : Method} {c : Code} (l : Launch) {b L : Nat} {xs : Nat → Int32} (hL : L ≤ 320) (C0 : lw_At p s m meth c b L xs) : W p l e room_1 s m #[Value.ref b] below meth c s.heap [] 0 0 (lw_Z below #[Value.ref b] s) (entryFrame m ([Value.ref b] : List Value).toArray 4) := by
  obtain ⟨hexec, hcode, hret, hml, hown, hts, hX, hbl, hlk, hgv⟩ := C0
  obtain ⟨B, hB1, hE⟩ := e_all hts hgv
  refine zEntry [Value.ref b] (n := 4) (Nat.le_of_ble_eq_true rfl) (P := fun g => W p l e room_1 s m #[Value.ref b] below meth c s.heap [] 0 0 (lw_Z below #[Value.ref b] s) g) (fun ls hls => ?_)
  have hbB : b < B.1 := by rw [hB1]; exact hbl
  obtain ⟨X, eX⟩ : ∃ X : zX, X = (p, l, e, s, m, #[Value.ref b], below, meth, c, lw_Z below #[Value.ref b] s) := ⟨_, rfl⟩
  have hl : X.2.1 = l := by rw [eX]
  have C : zC X B mLaw := by
    rw [eX]
    exact ⟨hexec, hcode, hml, hown, hlk, hE, by rw [hB1]; exact Nat.le_refl _⟩
  have hX2 : va_X b L xs (xS X) (xS X).heap := by rw [eX]; exact hX
  have hbl2 : b < (xS X).heap.size := by rw [eX]; exact hbl
  have fin : ∀ (s0 : zS) (t0 : zL) (i : Nat), lZ X B s0 t0 1004 (lLv B b i) [] := by
    intro s0 t0 i
    refine z_iconst C dL_law_1004 ki_1 ?_
    intro H locs ls2 hl2 hw hS hk
    subst eX
    refine va_forget (fun q hq => ?_) (W.widen (k := 600000) (n := 7302250) (by decide) (by decide) (lw_ret hexec hcode hret hlk dL_law_1005))
    have := hS.2.2 q hq
    show s.heap.size ≤ q.base
    rw [← hB1]
    exact this
  have body : Z X B mLaw 0 (va_up (zg B z0 zt1) 0 (.inr (11, [.null, .null, .null, .null, .null, .null, .null, .long 0, .long 0, .int 0, .int 0, .int 0]))) 0 0 0 [(0, .ref b)] [] := by
    refine z_new C (ci := 11) (fs := [.null, .null, .null, .null, .null, .null, .null, .long 0, .long 0, .int 0, .int 0, .int 0]) tyX11 tyX11_ok zc_11 tw_20 tw_21 tw_1 rfl (by decide) rfl (Nat.le_of_ble_eq_true rfl) (Nat.le_of_ble_eq_true rfl) dL_law_0 (n2 := 1) (a2 := 1) (w2 := 12) rfl rfl rfl ?_
    refine z_dup C dL_law_3 rfl ?_
    refine z_callI C hl (o := 0) (c_X11_init l B) (zCB (nA := 0) C rfl rfl tw_24 tw_1 tw_22 (by decide +kernel) ⟨Nat.le_of_ble_eq_true rfl, Nat.le_of_ble_eq_true rfl⟩) rfl tw_23 (Nat.le_of_ble_eq_true rfl) dL_law_4 ⟨Nat.le_of_ble_eq_true rfl, Nat.le_of_ble_eq_true rfl⟩ (n2 := 113) (a2 := 113) (w2 := 700) rfl rfl rfl ?_
    refine z_astore_n C [(1, .ref (B.1 + 0)), (0, .ref b)] dL_law_7 rfl (by decide) rfl ?_
    refine z_GG (G2 := va_up (zg B z0 zt1) 113 (.inr (12, [.null, .null, .null, .null, .long 0, .long 0, .null, .null, .null, .int 0, .int 0, .null, .int 0, .int 0, .int 0, .int 0, .int 0, .null, .null]))) (fun k hk => (va_up_ne _ _ (Nat.ne_of_lt hk)).symm) ?_
    refine z_new C (ci := 12) (fs := [.null, .null, .null, .null, .long 0, .long 0, .null, .null, .null, .int 0, .int 0, .null, .int 0, .int 0, .int 0, .int 0, .int 0, .null, .null]) tyX12 tyX12_ok zc_12 tw_735 tw_736 tw_13 rfl (by decide) rfl (Nat.le_of_ble_eq_true rfl) (Nat.le_of_ble_eq_true rfl) dL_law_8 (n2 := 114) (a2 := 114) (w2 := 719) rfl rfl rfl ?_
    refine z_dup C dL_law_11 rfl ?_
    refine z_callI C hl (o := 113) (c_X12_init l B) (zCB (nA := 0) C rfl rfl tw_739 tw_13 tw_737 (by decide +kernel) ⟨Nat.le_of_ble_eq_true rfl, Nat.le_of_ble_eq_true rfl⟩) rfl tw_738 (Nat.le_of_ble_eq_true rfl) dL_law_12 ⟨Nat.le_of_ble_eq_true rfl, Nat.le_of_ble_eq_true rfl⟩ (n2 := 124) (a2 := 124) (w2 := 1267) rfl rfl rfl ?_
    refine z_astore_n C [(2, .ref (B.1 + 113)), (1, .ref (B.1 + 0)), (0, .ref b)] dL_law_15 rfl (by decide) rfl ?_
    refine z_iconst C dL_law_16 ki_0 ?_
    refine z_istore_n C (lLv B b 0) dL_law_17 rfl (by decide) rfl ?_
    exact l_loop hl C hX2 hbl2 hbB hL fin L 0 z0 zt1 (by omega) (by decide) jI_0
  subst eX
  exact body s.heap [] ls hls ⟨by rw [hB1]; rfl, fun k hk => absurd hk (Nat.not_lt_zero k)⟩ va_S.rf (by rw [hB1])
