/-! super.m(..) where the superclass inherits m from its own superclass -/
theorem zq_sub {vm : Vm} {c p : ClassId} {k : Class} (hk : vm.classes[c]? = some k) (hs : k.super = some p) : vm.isSubclass c p = true := by
  have hl : 0 < vm.classes.size := Nat.lt_of_le_of_lt (Nat.zero_le _) (Array.getElem?_eq_some_iff.mp hk).1
  unfold Vm.isSubclass
  obtain ⟨n, hn⟩ : ∃ n, vm.classes.size + 1 = n + 2 := ⟨vm.classes.size - 1, by omega⟩
  rw [hn]
  simp [Vm.isSubclassAux, hk, hs]
section ZQ
variable {p : Program} {l : Launch} {e : Env} {R : Room} {s : State} {m : MethodId} {args : Array Value} {below : List Frame} {meth : Method} {c : Code}
theorem zq_call {T : State} {locs : List Loc} {cells slots : Nat} (X : Stand p l e R s m args below meth c T locs cells slots) (hexec : p.tables.exec = Jvm.exec) {own : String} {index : Nat} {x y : MethodName} {bytes : ByteArray} {maxL : Nat} {ret : Option FieldType}
    (hown : s.vm.findClass own = some m.cls) (hlink : (Cond.methodLink own index x).before args s = true) (hsame : (Cond.sameMethod x.cls y.cls x.name x.desc).before args s = true) (hyx : y = ⟨y.cls, x.name, x.desc⟩) (hsup : (Cond.superclass own x.cls).before args s = true) (hsup2 : (Cond.superclass x.cls y.cls).before args s = true)
    (hinst : (Cond.instanceMethod y).before args s = true) (hcode : (Cond.code y bytes maxL ret).before args s = true) (hno : x.name ≠ "<init>")
    {W : Nat} {Pre : Pt → Array Value → Prop} {Post : Pt → Array Value → Option Value → Pt → Prop} (hK : Back l R p e below s args y 3 W Pre Post)
    {b : Addr} {cellB : Cell} {kB : Class} (hcell : T.heap[b]? = some cellB) (hobj : cellB.vm.isStatics = false) (hkB : s.vm.classes[cellB.cls]? = some kB)
    {g : JFrame} (hg : g.method = m) (hsize : g.locals.size = c.maxLocals) {argsL rest : List Value} (hlen : ∀ sig, parseMethodDescriptor y.desc = some sig → argsL.length = sig.parameters.length)
    (hstack : g.stack = argsL.reverse ++ .ref b :: rest) (hW : 2 * g.monitorRoom + (rest.map fun v => v.category).sum ≤ W) (hdg : decode c.code g.pc = .ok (.invokespecial index, 3))
    (hpre : ∀ vm₁, s.WarmedH vm₁ → Pre ⟨T.setVm vm₁, locs, cells, slots⟩ (Value.ref b :: argsL).toArray) :
    ∃ (v : Option Value) (vm₁ : Vm) (B : Pt), s.WarmedH vm₁ ∧ Stand p l e R s m args below meth c B.U B.locs B.cells B.slots ∧ Post ⟨T.setVm vm₁, locs, cells, slots⟩ (Value.ref b :: argsL).toArray v B ∧
      ∀ target, Steps p.tables e below (B.U.setTop { g with pc := g.pc + 3, stack := v.toList ++ rest }) target → Steps p.tables e below (T.setTop g) target := by
  obtain ⟨mk, methM, hnamed, hmethM, hstM, habM⟩ := Cond.instanceMethod_spec hinst
  obtain ⟨methM', cM, hmethM', -, -, -, -, -, -, hsigM⟩ := Cond.code_spec hnamed hcode
  cases hmethM.symm.trans hmethM'
  obtain ⟨ps, dk, kp, hps, hdk, hkp, hsuper, -, -, hnid⟩ := Cond.superclass_spec hown hsup
  obtain ⟨p2, k2, kp2, hp2, hk2, hkp2, hsuper2, -, -, -⟩ := Cond.superclass_spec hps hsup2
  have hn : s.methodNamed? ⟨y.cls, x.name, x.desc⟩ = some mk := by rw [← hyx]; exact hnamed
  have hpm : p2 = mk.cls := Option.some.inj (hp2.symm.trans (findClass_of_methodNamed hnamed))
  have hsub : s.vm.isSubclass ps mk.cls = true := by rw [← hpm]; exact zq_sub hk2 hsuper2
  obtain ⟨vm₁, X₁, hstep₁⟩ := X.invokespecialUp hexec hown hlink hsame hn hmethM hstM habM hno hdk hnid hps hsuper hsub (a := b) (cell := cellB) hcell
    (fun z h => by rw [h] at hobj; cases hobj) hkB (g := g) hg (argsL := argsL) (rest := rest) (hlen _ hsigM) hstack hdg
  obtain ⟨v, B, X', hpost, hsteps⟩ := hK m meth c ⟨T.setVm vm₁, locs, cells, slots⟩ { g with stack := rest } (.invokespecial index) mk (Value.ref b :: argsL).toArray X₁ hg hsize hdg hW (X₁.named hnamed) (hpre vm₁ X₁.warmed)
  exact ⟨v, vm₁, B, X₁.warmed, X', hpost, fun target h => hstep₁ _ (by rw [doInvoke_state]; exact hsteps.trans h)⟩
end ZQ
section ZQF
variable {X : zX} {B : zB} {μ : zM} {s : zS} {t : zL} {w pc : Nat} {lv : List (Nat × Value)} {st : List Value}
theorem f_callQr (C : zC X B μ) {l : Launch} (hl : X.2.1 = l) {κ : zM} {x : MethodName} {index : Nat} (nA : Nat) {As rest : List Value} {v0 : Value} {s2 : zS} {t2 : zL} {o : Nat} (hM : zD l B κ s t (.ref (B.1 + o) :: As) (some v0) s2 t2) {ci : Nat} {q : vw_C} {fs : List Value} (ho : o < 124) (hG : zg B s t o = .inr (ci, fs)) (hc : vwCl[ci]? = some q)
    (hrc : κ.2.2.2.2.cells = 0) (hrs : κ.2.2.2.2.slots = 0) (hcode : zT (.code κ.1 κ.2.1 κ.2.2.1 κ.2.2.2.1)) (hini : zT (.initialized κ.1.cls)) (hlink : zT (.methodLink μ.1.cls index x)) (hsame : zT (.sameMethod x.cls κ.1.cls x.name x.desc)) (hyx : κ.1 = ⟨κ.1.cls, x.name, x.desc⟩) (hsup : zT (.superclass μ.1.cls x.cls)) (hsup2 : zT (.superclass x.cls κ.1.cls)) (hinst : zT (.instanceMethod κ.1)) (hd : x.name ≠ "<init>" ∧ (parseMethodDescriptor κ.1.desc).map (fun d => d.parameters.length) = some nA) (hR : κ.2.2.2.2.frames + 1 ≤ μ.2.2.2.2.frames ∧ 8 + (κ.2.2.1 + 11) + κ.2.2.2.2.locals ≤ μ.2.2.2.2.locals)
    (hn : As.length = nA) (hst : st = As.reverse ++ .ref (B.1 + o) :: rest) (hW : (rest.map fun v => v.category).sum ≤ 8) (d : decode μ.2.1 pc = .ok (.invokespecial index, 3)) (hw0 : w ≤ μ.2.2.2.2.slots) (kk : Z X B μ 124 (zg B s2 t2) 0 w (pc + 3) lv (v0 :: rest)) : Z X B μ 124 (zg B s t) 0 w pc lv st := by
  subst hl
  refine z_run (Q := zR B (some v0) s2 t2) (mc := 0) (ms := 0) (rest := rest) (fun H locs ls hls hw hS => ?_) (fun v G q => by obtain ⟨rfl, rfl⟩ := q; exact kk)
  have hws : ∀ w ∈ zWs κ, ∀ (a' : Array Value) (U : State), (xS X).WarmedH U.vm → w.before a' U = true := fun w hw a' U hW => by
    rw [List.mem_singleton.mp hw]
    exact word_at hW (good_of_word hcode.2) (C.t hcode)
  have hK := back_of (bytes := κ.2.1) (maxL := κ.2.2.1) (ret := κ.2.2.2.1) (R := μ.2.2.2.2) (p := X.1) (e := X.2.2.1) (below := xB X) (sargs := xA X) (len := 3) (W := 8) (s := xS X) hM zPre_blind hrc hrs hR.1 hR.2 hws List.mem_cons_self (fun a' U hW => word_at hW (good_of_word hini.2) (C.t hini))
  obtain ⟨cellB, hcB, hoB, hclB⟩ := z_recv C hw ho hG hc
  obtain ⟨hfc, kB, hkB, -⟩ := (C.2.2.2.2.2.1.2.1.1 ci q hc).2
  have ecl := Option.some.inj (hfc.symm.trans hclB)
  rw [ecl] at hkB
  intro T hT X0
  obtain ⟨v, vm₁, ⟨U', l2, c2, s2'⟩, hW₁, X', ⟨g', mk, t', L, e1, e2, hq, h1, hL, h2, h3⟩, stp⟩ := zq_call X0 C.1 (bytes := κ.2.1) (maxL := κ.2.2.1) (ret := κ.2.2.2.1) C.2.2.2.1 (C.t hlink) (C.t hsame) hyx (C.t hsup) (C.t hsup2) (C.t hinst) (C.t hcode) hd.1 hK (by rw [hT]; exact hcB) hoB hkB (g := F0 (xM X) pc ls st) rfl (hls.1.trans C.2.2.1.symm) (argsL := As) (rest := rest) (fun sig h => by
    have h2 := hd.2
    rw [h] at h2
    exact hn.trans (Option.some.inj h2).symm) hst (lv_room hW) (by rw [C.2.1]; exact d)
    (fun vm₁ hW₁ => ⟨Nat.zero_le _, hw0, zPre_at C hw hS _ (T.setVm vm₁) hT hW₁⟩)
  dsimp only [Pt.U, Pt.locs, Pt.cells, Pt.slots] at X' e1 e2 h1 h2 h3 stp
  subst h1; subst h2; subst h3
  exact ⟨v, (T.setVm vm₁).calling g' mk (Value.ref (B.1 + o) :: As).toArray, t', U', L, hT, X', hL, e1, e2, hq, stp⟩
end ZQF
