section ENV
variable {s : State} {b : Nat}
theorem e_prim {ty : FieldType} (h : (Cond.arrayClass ty).before #[Value.ref b] s = true) (hp : ∀ c, s.vm.findClass ("[" ++ ty.toString) = some c → va_RA s c ty) : ∃ cA, ArrOfT s cA ty ∧ va_RA s cA ty := by
  obtain ⟨c, k, comp, h1, h2, h3⟩ := Cond.arrayClass_spec h
  exact ⟨c, fun n z => ⟨fun k h => (by cases h), k, h2, comp, h3⟩, hp c h1⟩
theorem e_over {C : String} (h : (Cond.arrayOver (.object C)).before #[Value.ref b] s = true) : ∃ cA, ArrOfT s cA (.object C) ∧ va_RA s cA (.object C) := by
  obtain ⟨comp, c, k, h1, -, h3, h4, h5⟩ := Cond.arrayOver_spec h
  exact ⟨c, fun n z => ⟨fun k h => (by cases h), k, h3, comp, h4⟩, k, comp, h3, h4, h1, h5⟩
theorem e_cls (hts : ∀ w ∈ lw_tbl, w.before #[Value.ref b] s = true) : ∃ D : va_G, ∀ (c : Nat) (q : vw_C), vwCl[c]? = some q → u_Kn s q.1 q.2.1 q.2.2 (D.1 c) (D.2 c) := by
  have h0 : ∀ c : Nat, ∃ r : ClassId × (Nat → Nat), ∀ q : vw_C, vwCl[c]? = some q → u_Kn s q.1 q.2.1 q.2.2 r.1 r.2 := by
    intro c
    by_cases hc : c < 13
    · rcases (show c = 0 ∨ c = 1 ∨ c = 2 ∨ c = 3 ∨ c = 4 ∨ c = 5 ∨ c = 6 ∨ c = 7 ∨ c = 8 ∨ c = 9 ∨ c = 10 ∨ c = 11 ∨ c = 12 by omega) with rfl | rfl | rfl | rfl | rfl | rfl | rfl | rfl | rfl | rfl | rfl | rfl | rfl
      · obtain ⟨cC, iS, hK⟩ := u_known (ws := lw_tbl) (C := RX0) (T := TX0) (N := 4) hts (fun w hw => (zc_0 w hw).1) (hts _ tw_112.1)
        exact ⟨(cC, iS), fun q hq => by cases hq; exact hK⟩
      · obtain ⟨cC, iS, hK⟩ := u_known (ws := lw_tbl) (C := RX1) (T := TX1) (N := 7) hts (fun w hw => (zc_1 w hw).1) (hts _ tw_72.1)
        exact ⟨(cC, iS), fun q hq => by cases hq; exact hK⟩
      · obtain ⟨cC, iS, hK⟩ := u_known (ws := lw_tbl) (C := RX2) (T := TX2) (N := 0) hts (fun w hw => (zc_2 w hw).1) (hts _ tw_65.1)
        exact ⟨(cC, iS), fun q hq => by cases hq; exact hK⟩
      · obtain ⟨cC, iS, hK⟩ := u_known (ws := lw_tbl) (C := RX3) (T := TX3) (N := 0) hts (fun w hw => (zc_3 w hw).1) (hts _ tw_58.1)
        exact ⟨(cC, iS), fun q hq => by cases hq; exact hK⟩
      · obtain ⟨cC, iS, hK⟩ := u_known (ws := lw_tbl) (C := RX4) (T := TX4) (N := 4) hts (fun w hw => (zc_4 w hw).1) (hts _ tw_140.1)
        exact ⟨(cC, iS), fun q hq => by cases hq; exact hK⟩
      · obtain ⟨cC, iS, hK⟩ := u_known (ws := lw_tbl) (C := RX5) (T := TX5) (N := 0) hts (fun w hw => (zc_5 w hw).1) (hts _ tw_30.1)
        exact ⟨(cC, iS), fun q hq => by cases hq; exact hK⟩
      · obtain ⟨cC, iS, hK⟩ := u_known (ws := lw_tbl) (C := RX6) (T := TX6) (N := 0) hts (fun w hw => (zc_6 w hw).1) (hts _ tw_51.1)
        exact ⟨(cC, iS), fun q hq => by cases hq; exact hK⟩
      · obtain ⟨cC, iS, hK⟩ := u_known (ws := lw_tbl) (C := RX7) (T := TX7) (N := 0) hts (fun w hw => (zc_7 w hw).1) (hts _ tw_37.1)
        exact ⟨(cC, iS), fun q hq => by cases hq; exact hK⟩
      · obtain ⟨cC, iS, hK⟩ := u_known (ws := lw_tbl) (C := RX8) (T := TX8) (N := 6) hts (fun w hw => (zc_8 w hw).1) (hts _ tw_78.1)
        exact ⟨(cC, iS), fun q hq => by cases hq; exact hK⟩
      · obtain ⟨cC, iS, hK⟩ := u_known (ws := lw_tbl) (C := RX9) (T := TX9) (N := 6) hts (fun w hw => (zc_9 w hw).1) (hts _ tw_197.1)
        exact ⟨(cC, iS), fun q hq => by cases hq; exact hK⟩
      · obtain ⟨cC, iS, hK⟩ := u_known (ws := lw_tbl) (C := RX10) (T := TX10) (N := 0) hts (fun w hw => (zc_10 w hw).1) (hts _ tw_44.1)
        exact ⟨(cC, iS), fun q hq => by cases hq; exact hK⟩
      · obtain ⟨cC, iS, hK⟩ := u_known (ws := lw_tbl) (C := RX11) (T := TX11) (N := 12) hts (fun w hw => (zc_11 w hw).1) (hts _ tw_21.1)
        exact ⟨(cC, iS), fun q hq => by cases hq; exact hK⟩
      · obtain ⟨cC, iS, hK⟩ := u_known (ws := lw_tbl) (C := RX12) (T := TX12) (N := 19) hts (fun w hw => (zc_12 w hw).1) (hts _ tw_736.1)
        exact ⟨(cC, iS), fun q hq => by cases hq; exact hK⟩
    · exact ⟨(0, fun _ => 0), fun q hq => by
        have : c < vwCl.length := (List.getElem?_eq_some_iff.mp hq).1
        exact absurd this hc⟩
  obtain ⟨f, hf⟩ := Classical.axiomOfChoice h0
  exact ⟨(fun c => (f c).1, fun c => (f c).2), hf⟩
theorem e_arr (hts : ∀ w ∈ lw_tbl, w.before #[Value.ref b] s = true) : ∃ cA : Nat → ClassId, ∀ (k : Nat) (q : ClassId × FieldType), (zTys cA)[k]? = some q → ArrOfT s q.1 q.2 ∧ va_RA s q.1 q.2 := by
  obtain ⟨c0, h0⟩ := e_prim (ty := .int) (hts _ tw_802.1) (fun _ h => h)
  obtain ⟨c1, h1⟩ := e_prim (ty := .byte) (hts _ tw_224.1) (fun _ h => h)
  obtain ⟨c2, h2⟩ := e_prim (ty := .boolean) (hts _ tw_223.1) (fun _ h => h)
  obtain ⟨c3, h3⟩ := e_over (C := RX0) (hts _ (List.mem_append_right _ (List.mem_of_getElem? (i := 111) (by decide +kernel))))
  obtain ⟨c4, h4⟩ := e_over (C := RX1) (hts _ (List.mem_append_right _ (List.mem_of_getElem? (i := 193) (by decide +kernel))))
  obtain ⟨c5, h5⟩ := e_over (C := RX4) (hts _ (List.mem_append_right _ (List.mem_of_getElem? (i := 139) (by decide +kernel))))
  obtain ⟨c6, h6⟩ := e_over (C := RX5) (hts _ (List.mem_append_right _ (List.mem_of_getElem? (i := 29) (by decide +kernel))))
  obtain ⟨c7, h7⟩ := e_over (C := RX8) (hts _ (List.mem_append_right _ (List.mem_of_getElem? (i := 166) (by decide +kernel))))
  refine ⟨fun k => [c0, c1, c2, c3, c4, c5, c6, c7].getD k c0, fun k q hq => ?_⟩
  by_cases hk : k < 8
  · rcases (show k = 0 ∨ k = 1 ∨ k = 2 ∨ k = 3 ∨ k = 4 ∨ k = 5 ∨ k = 6 ∨ k = 7 by omega) with rfl | rfl | rfl | rfl | rfl | rfl | rfl | rfl
    · cases hq; exact h0
    · cases hq; exact h1
    · cases hq; exact h2
    · cases hq; exact h3
    · cases hq; exact h4
    · cases hq; exact h5
    · cases hq; exact h6
    · cases hq; exact h7
  · have : k < (zTys (fun k => [c0, c1, c2, c3, c4, c5, c6, c7].getD k c0)).length := (List.getElem?_eq_some_iff.mp hq).1
    exact absurd this hk
theorem e_ex : ∀ i, i < 5 → Cond.exactly (.string RX1 (zsI i)) "java/lang/String" ∈ flatC (Jvm.Cond.and given_1 narrow_1) := by decide +kernel
theorem e_co : ∀ i, i < 5 → Cond.eq (.field (.string RX1 (zsI i)) "java/lang/String" "coder" "B") (.int 0) ∈ flatC (Jvm.Cond.and given_1 narrow_1) := by decide +kernel
theorem e_ar : ∀ i, i < 5 → Cond.arrayOf (.field (.string RX1 (zsI i)) "java/lang/String" "value" "[B") .byte ∈ flatC (Jvm.Cond.and given_1 narrow_1) := by decide +kernel
theorem e_le : ∀ i, i < 5 → Cond.eq (.length (.field (.string RX1 (zsI i)) "java/lang/String" "value" "[B")) (.int (Int32.ofNat (zsL.getD i 0))) ∈ flatC (Jvm.Cond.and given_1 narrow_1) := by decide +kernel
theorem e_el : ∀ i, i < 5 → ∀ j, j < zsL.getD i 0 → Cond.eq (.elem (.field (.string RX1 (zsI i)) "java/lang/String" "value" "[B") (.int (Int32.ofNat j))) (.int ((zsB.getD i []).getD j 0)) ∈ flatC (Jvm.Cond.and given_1 narrow_1) := by decide +kernel
theorem e_ne : ∀ i, i < 5 → ∀ j, j < 5 → i < j → Cond.not (Cond.eq (.string RX1 (zsI i)) (.string RX1 (zsI j))) ∈ flatC (Jvm.Cond.and given_1 narrow_1) := by decide +kernel
theorem e_cs : Cond.eq (.static "java/lang/String" "COMPACT_STRINGS" "Z") (.int 1) ∈ flatC (Jvm.Cond.and given_1 narrow_1) := by decide +kernel
theorem e_si : Cond.isRef (.static "jdk/internal/util/Preconditions" "SIOOBE_FORMATTER" "Ljava/util/function/BiFunction;") ∈ flatC (Jvm.Cond.and given_1 narrow_1) := by decide +kernel
theorem e_sr (hts : ∀ w ∈ lw_tbl, w.before #[Value.ref b] s = true) : ∀ i, i < 5 → (Cond.stringRef RX1 (zsI i) (zsT i)).before #[Value.ref b] s = true := by
  intro i hi
  rcases (show i = 0 ∨ i = 1 ∨ i = 2 ∨ i = 3 ∨ i = 4 by omega) with rfl | rfl | rfl | rfl | rfl
  · exact hts (Cond.stringRef "VetoHouse$House" 101 "house") (List.mem_append_right _ (List.mem_of_getElem? (i := 344) (by decide +kernel)))
  · exact hts (Cond.stringRef "VetoHouse$House" 111 "deputy") (List.mem_append_right _ (List.mem_of_getElem? (i := 410) (by decide +kernel)))
  · exact hts (Cond.stringRef "VetoHouse$House" 115 "love") (List.mem_append_right _ (List.mem_of_getElem? (i := 416) (by decide +kernel)))
  · exact hts (Cond.stringRef "VetoHouse$House" 119 "hate") (List.mem_append_right _ (List.mem_of_getElem? (i := 432) (by decide +kernel)))
  · exact hts (Cond.stringRef "VetoHouse$House" 120 "law") (List.mem_append_right _ (List.mem_of_getElem? (i := 433) (by decide +kernel)))
theorem e_nest (hts : ∀ w ∈ lw_tbl, w.before #[Value.ref b] s = true) : ∀ q ∈ zNest, va_Nw (.methodLinkNest q.1 q.2.1 q.2.2 RX11) s := by
  unfold zNest
  exact List.forall_mem_cons.mpr ⟨va_Nw.of rfl (hts (Cond.methodLinkNest RX11 12 yX7_init RX11) (List.mem_append_right _ (List.mem_of_getElem? (i := 38) (by decide +kernel)))), List.forall_mem_cons.mpr ⟨va_Nw.of rfl (hts (Cond.methodLinkNest RX11 15 yX10_init RX11) (List.mem_append_right _ (List.mem_of_getElem? (i := 45) (by decide +kernel)))), List.forall_mem_cons.mpr ⟨va_Nw.of rfl (hts (Cond.methodLinkNest RX11 18 yX6_init RX11) (List.mem_append_right _ (List.mem_of_getElem? (i := 52) (by decide +kernel)))), List.forall_mem_cons.mpr ⟨va_Nw.of rfl (hts (Cond.methodLinkNest RX11 21 yX3_init RX11) (List.mem_append_right _ (List.mem_of_getElem? (i := 59) (by decide +kernel)))), List.forall_mem_cons.mpr ⟨va_Nw.of rfl (hts (Cond.methodLinkNest RX11 24 yX2_init RX11) (List.mem_append_right _ (List.mem_of_getElem? (i := 66) (by decide +kernel)))), List.forall_mem_cons.mpr ⟨va_Nw.of rfl (hts (Cond.methodLinkNest RX11 51 yX8_init RX11) (List.mem_append_right _ (List.mem_of_getElem? (i := 195) (by decide +kernel)))), List.forall_mem_cons.mpr ⟨va_Nw.of rfl (hts (Cond.methodLinkNest RX11 9 yX5_init RX11) (List.mem_append_right _ (List.mem_of_getElem? (i := 31) (by decide +kernel)))), List.forall_mem_cons.mpr ⟨va_Nw.of rfl (hts (Cond.methodLinkNest RX1 11 yX8_init RX11) (List.mem_append_right _ (List.mem_of_getElem? (i := 79) (by decide +kernel)))), List.forall_mem_cons.mpr ⟨va_Nw.of rfl (hts (Cond.methodLinkNest RX1 24 yX0_init RX11) (List.mem_append_right _ (List.mem_of_getElem? (i := 113) (by decide +kernel)))), List.forall_mem_cons.mpr ⟨va_Nw.of rfl (hts (Cond.methodLinkNest RX1 31 yX4_init RX11) (List.mem_append_right _ (List.mem_of_getElem? (i := 141) (by decide +kernel)))), List.forall_mem_cons.mpr ⟨va_Nw.of rfl (hts (Cond.methodLinkNest RX2 1 yX7_init RX11) (List.mem_append_right _ (List.mem_of_getElem? (i := 69) (by decide +kernel)))), List.forall_mem_cons.mpr ⟨va_Nw.of rfl (hts (Cond.methodLinkNest RX3 1 yX10_init RX11) (List.mem_append_right _ (List.mem_of_getElem? (i := 62) (by decide +kernel)))), List.forall_mem_cons.mpr ⟨va_Nw.of rfl (hts (Cond.methodLinkNest RX6 1 yX5_init RX11) (List.mem_append_right _ (List.mem_of_getElem? (i := 55) (by decide +kernel)))), List.forall_mem_cons.mpr ⟨va_Nw.of rfl (hts (Cond.methodLinkNest RX7 1 yX5_init RX11) (List.mem_append_right _ (List.mem_of_getElem? (i := 41) (by decide +kernel)))), List.forall_mem_cons.mpr ⟨va_Nw.of rfl (hts (Cond.methodLinkNest RX9 55 yX11_bitOf RX11) (List.mem_append_right _ (List.mem_of_getElem? (i := 429) (by decide +kernel)))), List.forall_mem_cons.mpr ⟨va_Nw.of rfl (hts (Cond.methodLinkNest RX10 1 yX5_init RX11) (List.mem_append_right _ (List.mem_of_getElem? (i := 48) (by decide +kernel)))), fun _ h => absurd h List.not_mem_nil⟩⟩⟩⟩⟩⟩⟩⟩⟩⟩⟩⟩⟩⟩⟩⟩
theorem e_cast (hts : ∀ w ∈ lw_tbl, w.before #[Value.ref b] s = true) : ∀ C ∈ [RX7, RX10, RX6, RX3, RX2], va_Nw (.castable C RX5) s := by
  exact List.forall_mem_cons.mpr ⟨va_Nw.of rfl (hts (Cond.castable RX7 RX5) (List.mem_append_right _ (List.mem_of_getElem? (i := 1109) (by decide +kernel)))), List.forall_mem_cons.mpr ⟨va_Nw.of rfl (hts (Cond.castable RX10 RX5) (List.mem_append_right _ (List.mem_of_getElem? (i := 1110) (by decide +kernel)))), List.forall_mem_cons.mpr ⟨va_Nw.of rfl (hts (Cond.castable RX6 RX5) (List.mem_append_right _ (List.mem_of_getElem? (i := 1111) (by decide +kernel)))), List.forall_mem_cons.mpr ⟨va_Nw.of rfl (hts (Cond.castable RX3 RX5) (List.mem_append_right _ (List.mem_of_getElem? (i := 1112) (by decide +kernel)))), List.forall_mem_cons.mpr ⟨va_Nw.of rfl (hts (Cond.castable RX2 RX5) (List.mem_append_right _ (List.mem_of_getElem? (i := 1113) (by decide +kernel)))), fun _ h => absurd h List.not_mem_nil⟩⟩⟩⟩⟩
theorem e_ao (hts : ∀ w ∈ lw_tbl, w.before #[Value.ref b] s = true) : ∀ C ∈ [RX0, RX1, RX4, RX5, RX8], va_AO C s := by
  exact List.forall_mem_cons.mpr ⟨va_AO.of (hts (Cond.arrayOver (.object RX0)) (List.mem_append_right _ (List.mem_of_getElem? (i := 111) (by decide +kernel)))), List.forall_mem_cons.mpr ⟨va_AO.of (hts (Cond.arrayOver (.object RX1)) (List.mem_append_right _ (List.mem_of_getElem? (i := 193) (by decide +kernel)))), List.forall_mem_cons.mpr ⟨va_AO.of (hts (Cond.arrayOver (.object RX4)) (List.mem_append_right _ (List.mem_of_getElem? (i := 139) (by decide +kernel)))), List.forall_mem_cons.mpr ⟨va_AO.of (hts (Cond.arrayOver (.object RX5)) (List.mem_append_right _ (List.mem_of_getElem? (i := 29) (by decide +kernel)))), List.forall_mem_cons.mpr ⟨va_AO.of (hts (Cond.arrayOver (.object RX8)) (List.mem_append_right _ (List.mem_of_getElem? (i := 166) (by decide +kernel)))), fun _ h => absurd h List.not_mem_nil⟩⟩⟩⟩⟩
theorem e_all (hts : ∀ w ∈ lw_tbl, w.before #[Value.ref b] s = true) (hgv : (Jvm.Cond.and given_1 narrow_1).before #[Value.ref b] s = true) : ∃ B : zB, B.1 = s.heap.size ∧ zEnv B s s.heap := by
  have hs := flat_of_before _ hgv
  have hA : ∀ a : Nat, a < s.heap.size → ¬ (fun q : Nat => s.heap.size ≤ q) a := fun a h z => Nat.lt_irrefl _ (Nat.lt_of_lt_of_le h z)
  obtain ⟨D, hD⟩ := e_cls hts
  obtain ⟨cA, hcA⟩ := e_arr hts
  obtain ⟨adK, adV, hS, hK⟩ := vk_Sof (N := 5) (tm := fun i => .string RX1 (zsI i)) (len := zsL) (byt := zsB) (A := fun q : Nat => s.heap.size ≤ q) (by decide) (fun i hi => hs _ (e_ex i hi)) (fun i hi => hs _ (e_co i hi)) (fun i hi => hs _ (e_ar i hi)) (fun i hi => hs _ (e_le i hi)) (fun i hi j hj => hs _ (e_el i hi j hj)) (fun i j hi hj hij => by
    rcases Nat.lt_or_gt_of_ne hij with h | h
    · exact Or.inl (hs _ (e_ne i hi j hj h))
    · exact Or.inr (hs _ (e_ne j hj i hi h))) hA
  refine ⟨(s.heap.size, D, cA, adK, adV), rfl, fun w hw a' => word_at (State.WarmedH.refl s) (good_of_word hw.2) (hts w hw.1), ⟨hD, hcA⟩, fun i hi => vk_R.of (e_sr hts i hi) (hK i hi), hS, ?_, ?_, e_nest hts, e_cast hts, e_ao hts⟩
  · exact va_Zof (hts _ (List.mem_append_right _ (List.mem_of_getElem? (i := 358) (by decide +kernel)))) (hts _ tw_15.1) (va_eqt (hs _ e_cs)) hA
  · exact va_Zqof (hts _ (List.mem_append_right _ (List.mem_of_getElem? (i := 374) (by decide +kernel)))) (hts _ tw_17.1) (hs _ e_si) hA
end ENV
