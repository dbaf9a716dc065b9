/-! A walk over ONE store: every cell that the law makes has a number k (its address is base + k); the store G says what each holds. Z: the machine at pc, with locals lv and stack st, over the store G, comes to the method's end. -/
abbrev zB : Type := Nat × va_G × (Nat → ClassId) × (Nat → Nat) × (Nat → Nat)
abbrev zX : Type := Program × Launch × Env × State × MethodId × Array Value × List Frame × Method × Code × (State → Prop)
abbrev zM : Type := MethodName × ByteArray × Nat × Option FieldType × Room
abbrev xS (X : zX) : State := X.2.2.2.1
abbrev xM (X : zX) : MethodId := X.2.2.2.2.1
abbrev xA (X : zX) : Array Value := X.2.2.2.2.2.1
abbrev xB (X : zX) : List Frame := X.2.2.2.2.2.2.1
abbrev xH (X : zX) : Method := X.2.2.2.2.2.2.2.1
abbrev xC (X : zX) : Code := X.2.2.2.2.2.2.2.2.1
abbrev xQ (X : zX) : State → Prop := X.2.2.2.2.2.2.2.2.2
def zA (B : zB) : Nat → Prop := fun q => B.1 ≤ q
def zTys (cA : Nat → ClassId) : List (ClassId × FieldType) := [(cA 0, .int), (cA 1, .byte), (cA 2, .boolean), (cA 3, .object RX0), (cA 4, .object RX1), (cA 5, .object RX4), (cA 6, .object RX5), (cA 7, .object RX8)]
def zw (B : zB) (n : Nat) (G : Nat → va_E) (H : Heap) : Prop := H.size = B.1 + n ∧ ∀ k, k < n → va_at B.2.1 vwCl (B.1 + k, G k) H
def zsI : Nat → Nat := fun i => [101, 111, 115, 119, 120].getD i 0
def zsT : Nat → String := fun i => ["house", "deputy", "love", "hate", "law"].getD i ""
def zsL : List Nat := [5, 6, 4, 4, 3]
def zsB : List (List Int32) := [[104, 111, 117, 115, 101], [100, 101, 112, 117, 116, 121], [108, 111, 118, 101], [104, 97, 116, 101], [108, 97, 119]]
/-- the links between nest mates -/
def zNest : List (String × Nat × MethodName) := [(RX11, 12, yX7_init), (RX11, 15, yX10_init), (RX11, 18, yX6_init), (RX11, 21, yX3_init), (RX11, 24, yX2_init), (RX11, 51, yX8_init), (RX11, 9, yX5_init), (RX1, 11, yX8_init), (RX1, 24, yX0_init), (RX1, 31, yX4_init), (RX2, 1, yX7_init), (RX3, 1, yX10_init), (RX6, 1, yX5_init), (RX7, 1, yX5_init), (RX9, 55, yX11_bitOf), (RX10, 1, yX5_init)]
/-- what holds of the machine's tables and of the cells that were there before -/
def zTab (U : State) : Prop := ∀ w, zT w → ∀ a' : Array Value, w.before a' U = true
def zEnv (B : zB) (U : State) (H : Heap) : Prop := zTab U ∧ va_K B.2.1 vwCl (zTys B.2.2.1) U ∧ (∀ i, i < 5 → vk_R RX1 (zsI i) (zsT i) (B.2.2.2.1 i) U) ∧ vk_S 5 zsL zsB B.2.2.2.1 B.2.2.2.2 (zA B) U H ∧ va_Z "java/lang/String" "COMPACT_STRINGS" "Z" (.int 1) (zA B) U H ∧ va_Zq "jdk/internal/util/Preconditions" "SIOOBE_FORMATTER" "Ljava/util/function/BiFunction;" (zA B) U H ∧ (∀ q ∈ zNest, va_Nw (.methodLinkNest q.1 q.2.1 q.2.2 RX11) U) ∧ (∀ C ∈ [RX7, RX10, RX6, RX3, RX2], va_Nw (.castable C RX5) U) ∧ ∀ C ∈ [RX0, RX1, RX4, RX5, RX8], va_AO C U
theorem zEnv.warm {B : zB} {s U : State} {H : Heap} (h : zEnv B s H) (hW : s.WarmedH U.vm) : zEnv B U H :=
  ⟨fun w hw a' => word_at hW (good_of_word hw.2) (h.1 w hw #[]), va_K.moved hW.alike h.2.1, fun i hi => (h.2.2.1 i hi).warm hW, h.2.2.2.1.moved hW.alike, h.2.2.2.2.1.moved hW.alike, h.2.2.2.2.2.1.moved hW.alike, fun q hq => (h.2.2.2.2.2.2.1 q hq).warmM hW, fun C hC => (h.2.2.2.2.2.2.2.1 C hC).warmC hW, fun C hC => (h.2.2.2.2.2.2.2.2 C hC).moved hW.alike⟩
theorem zEnv.same {B : zB} {s U : State} {H : Heap} (h : zEnv B s H) (hv : U.vm = s.vm) : zEnv B U H := h.warm (by rw [hv]; exact State.WarmedH.refl s)
theorem zEnv.kept {B : zB} {s : State} {H H1 : Heap} (h : zEnv B s H) (hq : ∀ a : Nat, a < H.size → ¬ zA B a → H1[a]? = H[a]?) : zEnv B s H1 :=
  ⟨h.1, h.2.1, h.2.2.1, h.2.2.2.1.kept hq, h.2.2.2.2.1.kept hq, h.2.2.2.2.2.1.kept hq, h.2.2.2.2.2.2⟩
def zC (X : zX) (B : zB) (μ : zM) : Prop := X.1.tables.exec = Jvm.exec ∧ (xC X).code = μ.2.1 ∧ (xC X).maxLocals = μ.2.2.1 ∧ (xS X).vm.findClass μ.1.cls = some (xM X).cls ∧ (xH X).locks = false ∧ zEnv B (xS X) (xS X).heap ∧ B.1 ≤ (xS X).heap.size
theorem zC.t {X : zX} {B : zB} {μ : zM} (C : zC X B μ) {w : Cond} (h : zT w) : w.before (xA X) (xS X) = true := C.2.2.2.2.2.1.1 w h _
theorem zC.ts {X : zX} {B : zB} {μ : zM} (C : zC X B μ) {ws : List Cond} (h : ∀ w ∈ ws, zT w) : ∀ w ∈ ws, w.before (xA X) (xS X) = true := fun w hw => C.t (h w hw)
theorem zC.fix {X : zX} {B : zB} {μ : zM} (C : zC X B μ) : CallFix X.1 (xM X) (xC X) μ.2.1 μ.2.2.1 (xS X) (xA X) [] μ.1.cls := ⟨C.1, C.2.1, C.2.2.1, C.2.2.2.1, fun _ h => by cases h⟩
abbrev zWW (X : zX) (R : Room) (H : Heap) (locs : List Loc) (k w : Nat) (g : JFrame) : Prop := W X.1 X.2.1 X.2.2.1 R (xS X) (xM X) (xA X) (xB X) (xH X) (xC X) H locs k w (xQ X) g
def Z (X : zX) (B : zB) (μ : zM) (n : Nat) (G : Nat → va_E) (a w pc : Nat) (lv : List (Nat × Value)) (st : List Value) : Prop :=
  ∀ (H : Heap) (locs : List Loc) (ls : Array Slot), lv_has ls μ.2.2.1 lv → zw B n G H → va_S (zA B) (xS X).heap H locs → (xS X).heap.size + a = B.1 + n → zWW X μ.2.2.2.2 H locs a w (F0 (xM X) pc ls st)
/-- the store as a list of cells -/
def zl (B : zB) (n : Nat) (G : Nat → va_E) : va_W := (List.range n).map (fun k => (B.1 + k, G k))
theorem zl_get {B : zB} {n k : Nat} {G : Nat → va_E} (h : k < n) : (zl B n G)[k]? = some (B.1 + k, G k) := by simp [zl, h]
theorem zl_at {B : zB} {n k : Nat} {G : Nat → va_E} {e : va_E} (h : k < n) (hG : G k = e) : (zl B n G)[k]? = some (B.1 + k, e) := by rw [zl_get h, hG]
theorem zl_set {B : zB} {n k : Nat} {G : Nat → va_E} {e : va_E} : (zl B n G).set k (B.1 + k, e) = zl B n (va_up G k e) := by
  apply List.ext_getElem?
  intro i
  by_cases hi : i < n
  · by_cases hk : i = k
    · subst hk
      simp [zl, hi, va_up]
    · rw [List.getElem?_set_ne (Ne.symm hk), zl_get hi, zl_get hi, va_up_ne _ _ hk]
  · have h1 : ((zl B n G).set k (B.1 + k, e))[i]? = none := by simp [zl]; omega
    have h2 : (zl B n (va_up G k e))[i]? = none := by simp [zl]; omega
    rw [h1, h2]
theorem zl_push {B : zB} {n : Nat} {G : Nat → va_E} {e : va_E} : zl B n G ++ [(B.1 + n, e)] = zl B (n + 1) (va_up G n e) := by
  unfold zl
  rw [List.range_succ, List.map_append]
  congr 1
  · apply List.map_congr_left
    intro k hk
    rw [va_up_ne _ _ (Nat.ne_of_lt (List.mem_range.mp hk))]
  · simp [va_up]
theorem zw.P {B : zB} {n : Nat} {G : Nat → va_E} {H : Heap} (h : zw B n G H) : va_P B.2.1 vwCl (zl B n G) H := by
  intro k q hq
  by_cases hk : k < n
  · rw [zl_get hk] at hq
    cases hq
    exact h.2 k hk
  · have : (zl B n G)[k]? = none := by simp [zl]; omega
    rw [this] at hq
    cases hq
theorem zl_D {B : zB} {n : Nat} {G : Nat → va_E} : va_D (zA B) (zl B n G) := by
  have key : ∀ (k : Nat) (q : Nat × va_E), (zl B n G)[k]? = some q → q.1 = B.1 + k := by
    intro k q hq
    by_cases hk : k < n
    · rw [zl_get hk] at hq
      cases hq
      rfl
    · have : (zl B n G)[k]? = none := by simp [zl]; omega
      rw [this] at hq
      cases hq
  refine ⟨fun i j x y hx hy hxy => ?_, fun k q hq => ?_⟩
  · rw [key i x hx, key j y hy] at hxy
    omega
  · show B.1 ≤ q.1
    rw [key k q hq]
    omega
theorem zw.of {B : zB} {n : Nat} {G : Nat → va_E} {H : Heap} (hP : va_P B.2.1 vwCl (zl B n G) H) (hn : 0 < n) (hz : H.size ≤ B.1 + n) : zw B n G H := by
  refine ⟨?_, fun k hk => hP k _ (zl_get hk)⟩
  have h := (hP (n - 1) _ (zl_get (by omega))).lt
  dsimp only at h
  omega
theorem zsize {p : Program} {l : Launch} {e : Env} {R : Room} {s : State} {m : MethodId} {args : Array Value} {below : List Frame} {meth : Method} {c : Code} {H : Heap} {locs : List Loc} {a w : Nat} {Q : State → Prop} {g : JFrame} (k : H.size ≤ s.heap.size + a → W p l e R s m args below meth c H locs a w Q g) : W p l e R s m args below meth c H locs a w Q g :=
  fun T hT X => k (by rw [← hT]; exact X.heapSize) T hT X
/-- the contract of a method: from the store G, with the arguments as, it comes back with Q of its answer and the new store; mc cells of ms slots are new -/
def zPre (B : zB) (n : Nat) (G : Nat → va_E) (U : State) : Prop := zw B n G U.heap ∧ zEnv B U U.heap
abbrev zWs (μ : zM) : List Cond := [Cond.code μ.1 μ.2.1 μ.2.2.1 μ.2.2.2.1]
def zMet (l : Launch) (B : zB) (μ : zM) (mc ms n : Nat) (G : Nat → va_E) (as : List Value) (Q : Option Value → Nat → (Nat → va_E) → Prop) : Prop :=
  Met l μ.1 (zWs μ) μ.2.2.2.2 (va_Pc as (zPre B n G)) (fun _ st oc t => (∃ (v : Option Value) (n' : Nat) (G' : Nat → va_E), oc = .returned v ∧ Q v n' G' ∧ zw B n' G' t.heap ∧ n' = n + mc) ∧ va_F (zA B) st t) mc ms (zA B)
/-- how a method's walk may end -/
def zE (X : zX) (B : zB) (μ : zM) (n mc ms : Nat) (Q : Option Value → Nat → (Nat → va_E) → Prop) : Prop :=
  (xH X).sig.returnType = μ.2.2.2.1 ∧ xQ X = MQ (xB X) (fun _ st oc t => (∃ (v : Option Value) (n' : Nat) (G' : Nat → va_E), oc = .returned v ∧ Q v n' G' ∧ zw B n' G' t.heap ∧ n' = n + mc) ∧ va_F (zA B) st t) (xA X) (xS X) mc ms (zA B) ∧ (xS X).heap.size = B.1 + n
theorem zEntry (as : List Value) {m : MethodId} {n : Nat} (h : (lg_sl as).length ≤ n) {P : JFrame → Prop} (k : ∀ ls : Array Slot, lv_has ls n (lv_args 0 as) → P (F0 m 0 ls [])) : P (entryFrame m as.toArray n) := by
  have hl := lv_entry as (n := n) h
  rw [lg_entry_eq]
  exact k _ hl
theorem z_met {l : Launch} {B : zB} {μ : zM} {mc ms n : Nat} {G : Nat → va_E} {as : List Value} {Q : Option Value → Nat → (Nat → va_E) → Prop}
    (hy : plainName μ.1.cls = true) (hl : (lg_sl as).length ≤ μ.2.2.1)
    (body : ∀ X : zX, X.2.1 = l → zC X B μ → zE X B μ n mc ms Q → (xH X).name = μ.1.name → Z X B μ n G 0 0 0 (lv_args 0 as) []) : zMet l B μ mc ms n G as Q := by
  refine Met.ofW (cc := μ.2.1) (maxL := μ.2.2.1) (ret := μ.2.2.2.1) hy rfl ?_
  intro p e s m args below meth c s₁ Bo hml hv
  obtain ⟨rfl, hz, hE⟩ := hv
  have hown : s.vm.findClass μ.1.cls = some m.cls := findClass_of_methodNamed Bo.named
  refine zEntry as hl (P := fun g => W p l e (headSpec (zWs μ) μ.2.2.2.2).room s m as.toArray below meth c s.heap [] 0 0 _ g) (fun ls hls => ?_)
  exact body (p, l, e, s, m, as.toArray, below, meth, c, _) rfl ⟨Bo.exec, Bo.bytes, hml, hown, Bo.notSynchronized, hE, by rw [hz.1]; exact Nat.le_add_right _ _⟩ ⟨Bo.returns, rfl, hz.1⟩ (name_of_methodNamed Bo.named Bo.method).1 s.heap [] ls hls hz va_S.rf (by rw [hz.1]; rfl)

section ZROWS
variable {X : zX} {B : zB} {μ : zM} {n : Nat} {G : Nat → va_E} {a w pc : Nat} {lv : List (Nat × Value)} {st : List Value}
theorem z_iconst (C : zC X B μ) {c : Int} {v : Int32} (d : decode μ.2.1 pc = .ok (.iconst c, 1)) (hv : Int32.ofInt c = v) (k : Z X B μ n G a w (pc + 1) lv (.int v :: st)) : Z X B μ n G a w pc lv st := fun H locs ls hl hw hS hk => lv_iconst C.1 C.2.1 d hv (k H locs ls hl hw hS hk)
theorem z_bipush (C : zC X B μ) {c : Int} {v : Int32} (d : decode μ.2.1 pc = .ok (.bipush c, 2)) (hv : (Int8.ofInt c).toInt32 = v) (k : Z X B μ n G a w (pc + 2) lv (.int v :: st)) : Z X B μ n G a w pc lv st := fun H locs ls hl hw hS hk => lv_bipush C.1 C.2.1 d hv (k H locs ls hl hw hS hk)
theorem z_sipush (C : zC X B μ) {c : Int} {v : Int32} (d : decode μ.2.1 pc = .ok (.sipush c, 3)) (hv : (Int16.ofInt c).toInt32 = v) (k : Z X B μ n G a w (pc + 3) lv (.int v :: st)) : Z X B μ n G a w pc lv st := fun H locs ls hl hw hS hk => lv_sipush C.1 C.2.1 d hv (k H locs ls hl hw hS hk)
theorem z_lconst (C : zC X B μ) {c : Fin 2} {v : Int64} (d : decode μ.2.1 pc = .ok (.lconst c, 1)) (hv : Int64.ofNat (c : Nat) = v) (k : Z X B μ n G a w (pc + 1) lv (.long v :: st)) : Z X B μ n G a w pc lv st := fun H locs ls hl hw hS hk => lv_lconst C.1 C.2.1 d hv (k H locs ls hl hw hS hk)
theorem z_null (C : zC X B μ)  (d : decode μ.2.1 pc = .ok (.aconst_null, 1)) (k : Z X B μ n G a w (pc + 1) lv (.null :: st)) : Z X B μ n G a w pc lv st := fun H locs ls hl hw hS hk => lv_null C.1 C.2.1 d (k H locs ls hl hw hS hk)
theorem z_iload_n (C : zC X B μ) {c : Fin 4} {i : Nat} {x : Int32} (d : decode μ.2.1 pc = .ok (.iload_n c, 1)) (q : Nat) (hq : lv[q]? = some (i, .int x)) (hi : (c : Nat) = i) (k : Z X B μ n G a w (pc + 1) lv (.int x :: st)) : Z X B μ n G a w pc lv st := fun H locs ls hl hw hS hk => lv_iload_n C.1 C.2.1 d hi (lv_at hl q hq) (k H locs ls hl hw hS hk)
theorem z_iload (C : zC X B μ) {i : Nat} {x : Int32} (d : decode μ.2.1 pc = .ok (.iload i, 2)) (q : Nat) (hq : lv[q]? = some (i, .int x)) (k : Z X B μ n G a w (pc + 2) lv (.int x :: st)) : Z X B μ n G a w pc lv st := fun H locs ls hl hw hS hk => lv_iload C.1 C.2.1 d (lv_at hl q hq) (k H locs ls hl hw hS hk)
theorem z_lload_n (C : zC X B μ) {c : Fin 4} {i : Nat} {x : Int64} (d : decode μ.2.1 pc = .ok (.lload_n c, 1)) (q : Nat) (hq : lv[q]? = some (i, .long x)) (hi : (c : Nat) = i) (k : Z X B μ n G a w (pc + 1) lv (.long x :: st)) : Z X B μ n G a w pc lv st := fun H locs ls hl hw hS hk => lv_lload_n C.1 C.2.1 d hi (lv_at hl q hq) (k H locs ls hl hw hS hk)
theorem z_lload (C : zC X B μ) {i : Nat} {x : Int64} (d : decode μ.2.1 pc = .ok (.lload i, 2)) (q : Nat) (hq : lv[q]? = some (i, .long x)) (k : Z X B μ n G a w (pc + 2) lv (.long x :: st)) : Z X B μ n G a w pc lv st := fun H locs ls hl hw hS hk => lv_lload C.1 C.2.1 d (lv_at hl q hq) (k H locs ls hl hw hS hk)
theorem z_aload_n (C : zC X B μ) {c : Fin 4} {i : Nat} {x : Nat} (d : decode μ.2.1 pc = .ok (.aload_n c, 1)) (q : Nat) (hq : lv[q]? = some (i, .ref x)) (hi : (c : Nat) = i) (k : Z X B μ n G a w (pc + 1) lv (.ref x :: st)) : Z X B μ n G a w pc lv st := fun H locs ls hl hw hS hk => lv_aload_n C.1 C.2.1 d hi (lv_at hl q hq) (k H locs ls hl hw hS hk)
theorem z_aload (C : zC X B μ) {i : Nat} {x : Nat} (d : decode μ.2.1 pc = .ok (.aload i, 2)) (q : Nat) (hq : lv[q]? = some (i, .ref x)) (k : Z X B μ n G a w (pc + 2) lv (.ref x :: st)) : Z X B μ n G a w pc lv st := fun H locs ls hl hw hS hk => lv_aload C.1 C.2.1 d (lv_at hl q hq) (k H locs ls hl hw hS hk)
theorem z_aload_nN (C : zC X B μ) {c : Fin 4} {i : Nat} (d : decode μ.2.1 pc = .ok (.aload_n c, 1)) (q : Nat) (hq : lv[q]? = some (i, .null)) (hi : (c : Nat) = i) (k : Z X B μ n G a w (pc + 1) lv (.null :: st)) : Z X B μ n G a w pc lv st := fun H locs ls hl hw hS hk => lv_aload_nN C.1 C.2.1 d hi (lv_at hl q hq) (k H locs ls hl hw hS hk)
theorem z_aloadN (C : zC X B μ) {i : Nat} (d : decode μ.2.1 pc = .ok (.aload i, 2)) (q : Nat) (hq : lv[q]? = some (i, .null)) (k : Z X B μ n G a w (pc + 2) lv (.null :: st)) : Z X B μ n G a w pc lv st := fun H locs ls hl hw hS hk => lv_aloadN C.1 C.2.1 d (lv_at hl q hq) (k H locs ls hl hw hS hk)
theorem z_istore_n (C : zC X B μ) {c : Fin 4} {i : Nat} {x : Int32} (lv' : List (Nat × Value)) (d : decode μ.2.1 pc = .ok (.istore_n c, 1)) (hi : (c : Nat) = i) (hn : i < μ.2.2.1) (hl' : (i, Value.int x) :: lv.filter (fun q => !(q.1 == i) && !(q.1 + 1 == i && q.2.category == 2)) = lv') (k : Z X B μ n G a w (pc + 1) lv' st) : Z X B μ n G a w pc lv (.int x :: st) := fun H locs ls hl hw hS hk => lv_istore_n C.1 C.2.1 d hi hl hn hl' (fun ls' h' => k H locs ls' h' hw hS hk)
theorem z_istore (C : zC X B μ) {i : Nat} {x : Int32} (lv' : List (Nat × Value)) (d : decode μ.2.1 pc = .ok (.istore i, 2)) (hn : i < μ.2.2.1) (hl' : (i, Value.int x) :: lv.filter (fun q => !(q.1 == i) && !(q.1 + 1 == i && q.2.category == 2)) = lv') (k : Z X B μ n G a w (pc + 2) lv' st) : Z X B μ n G a w pc lv (.int x :: st) := fun H locs ls hl hw hS hk => lv_istore C.1 C.2.1 d hl hn hl' (fun ls' h' => k H locs ls' h' hw hS hk)
theorem z_lstore_n (C : zC X B μ) {c : Fin 4} {i : Nat} {x : Int64} (lv' : List (Nat × Value)) (d : decode μ.2.1 pc = .ok (.lstore_n c, 1)) (hi : (c : Nat) = i) (hn : i + 1 < μ.2.2.1) (hl' : (i, Value.long x) :: lv.filter (fun q => !(q.1 == i) && (!(q.1 == i + 1) && !(q.1 + 1 == i && q.2.category == 2))) = lv') (k : Z X B μ n G a w (pc + 1) lv' st) : Z X B μ n G a w pc lv (.long x :: st) := fun H locs ls hl hw hS hk => lv_lstore_n C.1 C.2.1 d hi hl hn hl' (fun ls' h' => k H locs ls' h' hw hS hk)
theorem z_lstore (C : zC X B μ) {i : Nat} {x : Int64} (lv' : List (Nat × Value)) (d : decode μ.2.1 pc = .ok (.lstore i, 2)) (hn : i + 1 < μ.2.2.1) (hl' : (i, Value.long x) :: lv.filter (fun q => !(q.1 == i) && (!(q.1 == i + 1) && !(q.1 + 1 == i && q.2.category == 2))) = lv') (k : Z X B μ n G a w (pc + 2) lv' st) : Z X B μ n G a w pc lv (.long x :: st) := fun H locs ls hl hw hS hk => lv_lstore C.1 C.2.1 d hl hn hl' (fun ls' h' => k H locs ls' h' hw hS hk)
theorem z_astore_n (C : zC X B μ) {c : Fin 4} {i : Nat} {x : Nat} (lv' : List (Nat × Value)) (d : decode μ.2.1 pc = .ok (.astore_n c, 1)) (hi : (c : Nat) = i) (hn : i < μ.2.2.1) (hl' : (i, Value.ref x) :: lv.filter (fun q => !(q.1 == i) && !(q.1 + 1 == i && q.2.category == 2)) = lv') (k : Z X B μ n G a w (pc + 1) lv' st) : Z X B μ n G a w pc lv (.ref x :: st) := fun H locs ls hl hw hS hk => lv_astore_n C.1 C.2.1 d hi hl hn hl' (fun ls' h' => k H locs ls' h' hw hS hk)
theorem z_astore (C : zC X B μ) {i : Nat} {x : Nat} (lv' : List (Nat × Value)) (d : decode μ.2.1 pc = .ok (.astore i, 2)) (hn : i < μ.2.2.1) (hl' : (i, Value.ref x) :: lv.filter (fun q => !(q.1 == i) && !(q.1 + 1 == i && q.2.category == 2)) = lv') (k : Z X B μ n G a w (pc + 2) lv' st) : Z X B μ n G a w pc lv (.ref x :: st) := fun H locs ls hl hw hS hk => lv_astore C.1 C.2.1 d hl hn hl' (fun ls' h' => k H locs ls' h' hw hS hk)
theorem z_astore_nN (C : zC X B μ) {c : Fin 4} {i : Nat} (lv' : List (Nat × Value)) (d : decode μ.2.1 pc = .ok (.astore_n c, 1)) (hi : (c : Nat) = i) (hn : i < μ.2.2.1) (hl' : (i, Value.null) :: lv.filter (fun q => !(q.1 == i) && !(q.1 + 1 == i && q.2.category == 2)) = lv') (k : Z X B μ n G a w (pc + 1) lv' st) : Z X B μ n G a w pc lv (.null :: st) := fun H locs ls hl hw hS hk => lv_astore_nN C.1 C.2.1 d hi hl hn hl' (fun ls' h' => k H locs ls' h' hw hS hk)
theorem z_astoreN (C : zC X B μ) {i : Nat} (lv' : List (Nat × Value)) (d : decode μ.2.1 pc = .ok (.astore i, 2)) (hn : i < μ.2.2.1) (hl' : (i, Value.null) :: lv.filter (fun q => !(q.1 == i) && !(q.1 + 1 == i && q.2.category == 2)) = lv') (k : Z X B μ n G a w (pc + 2) lv' st) : Z X B μ n G a w pc lv (.null :: st) := fun H locs ls hl hw hS hk => lv_astoreN C.1 C.2.1 d hl hn hl' (fun ls' h' => k H locs ls' h' hw hS hk)
theorem z_iinc (C : zC X B μ) {i : Nat} {c : Int} {x v : Int32} (lv' : List (Nat × Value)) (d : decode μ.2.1 pc = .ok (.iinc i c, 3)) (q : Nat) (hq : lv[q]? = some (i, .int x)) (hv : x + Int32.ofInt c = v) (hn : i < μ.2.2.1) (hl' : (i, Value.int v) :: lv.filter (fun q => !(q.1 == i) && !(q.1 + 1 == i && q.2.category == 2)) = lv') (k : Z X B μ n G a w (pc + 3) lv' st) : Z X B μ n G a w pc lv st := fun H locs ls hl hw hS hk => lv_iinc (k := q) C.1 C.2.1 d hl hq hv hn hl' (fun ls' h' => k H locs ls' h' hw hS hk)
theorem z_iadd (C : zC X B μ) {x y : Int32} (d : decode μ.2.1 pc = .ok (.iadd, 1)) (k : Z X B μ n G a w (pc + 1) lv (.int (x + y) :: st)) : Z X B μ n G a w pc lv (.int y :: .int x :: st) := fun H locs ls hl hw hS hk => lv_iadd C.1 C.2.1 d (k H locs ls hl hw hS hk)
theorem z_isub (C : zC X B μ) {x y : Int32} (d : decode μ.2.1 pc = .ok (.isub, 1)) (k : Z X B μ n G a w (pc + 1) lv (.int (x - y) :: st)) : Z X B μ n G a w pc lv (.int y :: .int x :: st) := fun H locs ls hl hw hS hk => lv_isub C.1 C.2.1 d (k H locs ls hl hw hS hk)
theorem z_imul (C : zC X B μ) {x y : Int32} (d : decode μ.2.1 pc = .ok (.imul, 1)) (k : Z X B μ n G a w (pc + 1) lv (.int (x * y) :: st)) : Z X B μ n G a w pc lv (.int y :: .int x :: st) := fun H locs ls hl hw hS hk => lv_imul C.1 C.2.1 d (k H locs ls hl hw hS hk)
theorem z_iand (C : zC X B μ) {x y : Int32} (d : decode μ.2.1 pc = .ok (.iand, 1)) (k : Z X B μ n G a w (pc + 1) lv (.int (x &&& y) :: st)) : Z X B μ n G a w pc lv (.int y :: .int x :: st) := fun H locs ls hl hw hS hk => lv_iand C.1 C.2.1 d (k H locs ls hl hw hS hk)
theorem z_ior (C : zC X B μ) {x y : Int32} (d : decode μ.2.1 pc = .ok (.ior, 1)) (k : Z X B μ n G a w (pc + 1) lv (.int (x ||| y) :: st)) : Z X B μ n G a w pc lv (.int y :: .int x :: st) := fun H locs ls hl hw hS hk => lv_ior C.1 C.2.1 d (k H locs ls hl hw hS hk)
theorem z_ixor (C : zC X B μ) {x y : Int32} (d : decode μ.2.1 pc = .ok (.ixor, 1)) (k : Z X B μ n G a w (pc + 1) lv (.int (x ^^^ y) :: st)) : Z X B μ n G a w pc lv (.int y :: .int x :: st) := fun H locs ls hl hw hS hk => lv_ixor C.1 C.2.1 d (k H locs ls hl hw hS hk)
theorem z_ishl (C : zC X B μ) {x y : Int32} (d : decode μ.2.1 pc = .ok (.ishl, 1)) (k : Z X B μ n G a w (pc + 1) lv (.int (x <<< (y &&& 31)) :: st)) : Z X B μ n G a w pc lv (.int y :: .int x :: st) := fun H locs ls hl hw hS hk => lv_ishl C.1 C.2.1 d (k H locs ls hl hw hS hk)
theorem z_ishr (C : zC X B μ) {x y : Int32} (d : decode μ.2.1 pc = .ok (.ishr, 1)) (k : Z X B μ n G a w (pc + 1) lv (.int (x >>> (y &&& 31)) :: st)) : Z X B μ n G a w pc lv (.int y :: .int x :: st) := fun H locs ls hl hw hS hk => lv_ishr C.1 C.2.1 d (k H locs ls hl hw hS hk)
theorem z_idiv (C : zC X B μ) {x y : Int32} (d : decode μ.2.1 pc = .ok (.idiv, 1)) (hne : ¬ y = 0) (k : Z X B μ n G a w (pc + 1) lv (.int (x / y) :: st)) : Z X B μ n G a w pc lv (.int y :: .int x :: st) := fun H locs ls hl hw hS hk => lv_idiv C.1 C.2.1 d hne (k H locs ls hl hw hS hk)
theorem z_irem (C : zC X B μ) {x y : Int32} (d : decode μ.2.1 pc = .ok (.irem, 1)) (hne : ¬ y = 0) (k : Z X B μ n G a w (pc + 1) lv (.int (x - x / y * y) :: st)) : Z X B μ n G a w pc lv (.int y :: .int x :: st) := fun H locs ls hl hw hS hk => lv_irem C.1 C.2.1 d hne (k H locs ls hl hw hS hk)
theorem z_ladd (C : zC X B μ) {x y : Int64} (d : decode μ.2.1 pc = .ok (.ladd, 1)) (k : Z X B μ n G a w (pc + 1) lv (.long (x + y) :: st)) : Z X B μ n G a w pc lv (.long y :: .long x :: st) := fun H locs ls hl hw hS hk => lv_ladd C.1 C.2.1 d (k H locs ls hl hw hS hk)
theorem z_lsub (C : zC X B μ) {x y : Int64} (d : decode μ.2.1 pc = .ok (.lsub, 1)) (k : Z X B μ n G a w (pc + 1) lv (.long (x - y) :: st)) : Z X B μ n G a w pc lv (.long y :: .long x :: st) := fun H locs ls hl hw hS hk => lv_lsub C.1 C.2.1 d (k H locs ls hl hw hS hk)
theorem z_lmul (C : zC X B μ) {x y : Int64} (d : decode μ.2.1 pc = .ok (.lmul, 1)) (k : Z X B μ n G a w (pc + 1) lv (.long (x * y) :: st)) : Z X B μ n G a w pc lv (.long y :: .long x :: st) := fun H locs ls hl hw hS hk => lv_lmul C.1 C.2.1 d (k H locs ls hl hw hS hk)
theorem z_ldiv (C : zC X B μ) {x y : Int64} (d : decode μ.2.1 pc = .ok (.ldiv, 1)) (hne : ¬ y = 0) (k : Z X B μ n G a w (pc + 1) lv (.long (x / y) :: st)) : Z X B μ n G a w pc lv (.long y :: .long x :: st) := fun H locs ls hl hw hS hk => lv_ldiv C.1 C.2.1 d hne (k H locs ls hl hw hS hk)
theorem z_lrem (C : zC X B μ) {x y : Int64} (d : decode μ.2.1 pc = .ok (.lrem, 1)) (hne : ¬ y = 0) (k : Z X B μ n G a w (pc + 1) lv (.long (x - x / y * y) :: st)) : Z X B μ n G a w pc lv (.long y :: .long x :: st) := fun H locs ls hl hw hS hk => lv_lrem C.1 C.2.1 d hne (k H locs ls hl hw hS hk)
theorem z_ineg (C : zC X B μ) {x : Int32} (d : decode μ.2.1 pc = .ok (.ineg, 1)) (k : Z X B μ n G a w (pc + 1) lv (.int (-x) :: st)) : Z X B μ n G a w pc lv (.int x :: st) := fun H locs ls hl hw hS hk => lv_ineg C.1 C.2.1 d (k H locs ls hl hw hS hk)
theorem z_lcmp (C : zC X B μ) {x y : Int64} (d : decode μ.2.1 pc = .ok (.lcmp, 1)) (k : Z X B μ n G a w (pc + 1) lv (.int (lg_cmp x y) :: st)) : Z X B μ n G a w pc lv (.long y :: .long x :: st) := fun H locs ls hl hw hS hk => W.lcmp C.1 C.2.1 d (k H locs ls hl hw hS hk)
theorem z_i2l (C : zC X B μ) {x : Int32} (d : decode μ.2.1 pc = .ok (.i2l, 1)) (k : Z X B μ n G a w (pc + 1) lv (.long (x.toInt64) :: st)) : Z X B μ n G a w pc lv (.int x :: st) := fun H locs ls hl hw hS hk => lv_i2l C.1 C.2.1 d rfl (k H locs ls hl hw hS hk)
theorem z_l2i (C : zC X B μ) {x : Int64} (d : decode μ.2.1 pc = .ok (.l2i, 1)) (k : Z X B μ n G a w (pc + 1) lv (.int (x.toInt32) :: st)) : Z X B μ n G a w pc lv (.long x :: st) := fun H locs ls hl hw hS hk => lv_l2i C.1 C.2.1 d rfl (k H locs ls hl hw hS hk)
theorem z_i2b (C : zC X B μ) {x : Int32} (d : decode μ.2.1 pc = .ok (.i2b, 1)) (k : Z X B μ n G a w (pc + 1) lv (.int (x.toInt8.toInt32) :: st)) : Z X B μ n G a w pc lv (.int x :: st) := fun H locs ls hl hw hS hk => lv_i2b C.1 C.2.1 d rfl (k H locs ls hl hw hS hk)
theorem z_i2c (C : zC X B μ) {x : Int32} (d : decode μ.2.1 pc = .ok (.i2c, 1)) (k : Z X B μ n G a w (pc + 1) lv (.int ((x.toUInt32 % 65536).toInt32) :: st)) : Z X B μ n G a w pc lv (.int x :: st) := fun H locs ls hl hw hS hk => lv_i2c C.1 C.2.1 d rfl (k H locs ls hl hw hS hk)
theorem z_iushr (C : zC X B μ) {x y v : Int32} (d : decode μ.2.1 pc = .ok (.iushr, 1)) (hv : (x.toUInt32 >>> (y.toUInt32 &&& Int32.toUInt32 31)).toInt32 = v) (k : Z X B μ n G a w (pc + 1) lv (.int v :: st)) : Z X B μ n G a w pc lv (.int y :: .int x :: st) := fun H locs ls hl hw hS hk => lv_iushr C.1 C.2.1 d hv (k H locs ls hl hw hS hk)
theorem z_dup (C : zC X B μ) {va : Value} (d : decode μ.2.1 pc = .ok (.dup, 1)) (hva : va.category = 1) (k : Z X B μ n G a w (pc + 1) lv (va :: va :: st)) : Z X B μ n G a w pc lv (va :: st) := fun H locs ls hl hw hS hk => lv_dup C.1 C.2.1 d hva (k H locs ls hl hw hS hk)
theorem z_pop (C : zC X B μ) {va : Value} (d : decode μ.2.1 pc = .ok (.pop, 1)) (hva : va.category = 1) (k : Z X B μ n G a w (pc + 1) lv st) : Z X B μ n G a w pc lv (va :: st) := fun H locs ls hl hw hS hk => lv_pop C.1 C.2.1 d hva (k H locs ls hl hw hS hk)
theorem z_dup2 (C : zC X B μ) {va vb : Value} (d : decode μ.2.1 pc = .ok (.dup2, 1)) (hva : va.category = 1) (hvb : vb.category = 1) (k : Z X B μ n G a w (pc + 1) lv (va :: vb :: va :: vb :: st)) : Z X B μ n G a w pc lv (va :: vb :: st) := fun H locs ls hl hw hS hk => lv_dup2_11 C.1 C.2.1 d hva hvb (k H locs ls hl hw hS hk)
theorem z_dup_x1 (C : zC X B μ) {va vb : Value} (d : decode μ.2.1 pc = .ok (.dup_x1, 1)) (hva : va.category = 1) (hvb : vb.category = 1) (k : Z X B μ n G a w (pc + 1) lv (va :: vb :: va :: st)) : Z X B μ n G a w pc lv (va :: vb :: st) := fun H locs ls hl hw hS hk => lv_dup_x1 C.1 C.2.1 d hva hvb (k H locs ls hl hw hS hk)
theorem z_if_eq (C : zC X B μ) {x : Int32} {off : Int} (tgt : Nat) (d : decode μ.2.1 pc = .ok (.ifCond .eq off, 3)) (ht : (pc : Int) + off = (tgt : Int)) (kt : x = 0 → Z X B μ n G a w tgt lv st) (kf : ¬ x = 0 → Z X B μ n G a w (pc + 3) lv st) : Z X B μ n G a w pc lv (.int x :: st) := fun H locs ls hl hw hS hk => lv_if_eq C.1 C.2.1 d ht (fun c => kt c H locs ls hl hw hS hk) (fun c => kf c H locs ls hl hw hS hk)
theorem z_icmp_eq (C : zC X B μ) {x y : Int32} {off : Int} (tgt : Nat) (d : decode μ.2.1 pc = .ok (.if_icmp .eq off, 3)) (ht : (pc : Int) + off = (tgt : Int)) (kt : x = y → Z X B μ n G a w tgt lv st) (kf : ¬ x = y → Z X B μ n G a w (pc + 3) lv st) : Z X B μ n G a w pc lv (.int y :: .int x :: st) := fun H locs ls hl hw hS hk => lv_icmp_eq C.1 C.2.1 d ht (fun c => kt c H locs ls hl hw hS hk) (fun c => kf c H locs ls hl hw hS hk)
theorem z_if_ne (C : zC X B μ) {x : Int32} {off : Int} (tgt : Nat) (d : decode μ.2.1 pc = .ok (.ifCond .ne off, 3)) (ht : (pc : Int) + off = (tgt : Int)) (kt : ¬ x = 0 → Z X B μ n G a w tgt lv st) (kf : x = 0 → Z X B μ n G a w (pc + 3) lv st) : Z X B μ n G a w pc lv (.int x :: st) := fun H locs ls hl hw hS hk => lv_if_ne C.1 C.2.1 d ht (fun c => kt c H locs ls hl hw hS hk) (fun c => kf c H locs ls hl hw hS hk)
theorem z_icmp_ne (C : zC X B μ) {x y : Int32} {off : Int} (tgt : Nat) (d : decode μ.2.1 pc = .ok (.if_icmp .ne off, 3)) (ht : (pc : Int) + off = (tgt : Int)) (kt : ¬ x = y → Z X B μ n G a w tgt lv st) (kf : x = y → Z X B μ n G a w (pc + 3) lv st) : Z X B μ n G a w pc lv (.int y :: .int x :: st) := fun H locs ls hl hw hS hk => lv_icmp_ne C.1 C.2.1 d ht (fun c => kt c H locs ls hl hw hS hk) (fun c => kf c H locs ls hl hw hS hk)
theorem z_if_lt (C : zC X B μ) {x : Int32} {off : Int} (tgt : Nat) (d : decode μ.2.1 pc = .ok (.ifCond .lt off, 3)) (ht : (pc : Int) + off = (tgt : Int)) (kt : x < 0 → Z X B μ n G a w tgt lv st) (kf : ¬ x < 0 → Z X B μ n G a w (pc + 3) lv st) : Z X B μ n G a w pc lv (.int x :: st) := fun H locs ls hl hw hS hk => lv_if_lt C.1 C.2.1 d ht (fun c => kt c H locs ls hl hw hS hk) (fun c => kf c H locs ls hl hw hS hk)
theorem z_icmp_lt (C : zC X B μ) {x y : Int32} {off : Int} (tgt : Nat) (d : decode μ.2.1 pc = .ok (.if_icmp .lt off, 3)) (ht : (pc : Int) + off = (tgt : Int)) (kt : x < y → Z X B μ n G a w tgt lv st) (kf : ¬ x < y → Z X B μ n G a w (pc + 3) lv st) : Z X B μ n G a w pc lv (.int y :: .int x :: st) := fun H locs ls hl hw hS hk => lv_icmp_lt C.1 C.2.1 d ht (fun c => kt c H locs ls hl hw hS hk) (fun c => kf c H locs ls hl hw hS hk)
theorem z_if_ge (C : zC X B μ) {x : Int32} {off : Int} (tgt : Nat) (d : decode μ.2.1 pc = .ok (.ifCond .ge off, 3)) (ht : (pc : Int) + off = (tgt : Int)) (kt : 0 ≤ x → Z X B μ n G a w tgt lv st) (kf : ¬ 0 ≤ x → Z X B μ n G a w (pc + 3) lv st) : Z X B μ n G a w pc lv (.int x :: st) := fun H locs ls hl hw hS hk => lv_if_ge C.1 C.2.1 d ht (fun c => kt c H locs ls hl hw hS hk) (fun c => kf c H locs ls hl hw hS hk)
theorem z_icmp_ge (C : zC X B μ) {x y : Int32} {off : Int} (tgt : Nat) (d : decode μ.2.1 pc = .ok (.if_icmp .ge off, 3)) (ht : (pc : Int) + off = (tgt : Int)) (kt : y ≤ x → Z X B μ n G a w tgt lv st) (kf : ¬ y ≤ x → Z X B μ n G a w (pc + 3) lv st) : Z X B μ n G a w pc lv (.int y :: .int x :: st) := fun H locs ls hl hw hS hk => lv_icmp_ge C.1 C.2.1 d ht (fun c => kt c H locs ls hl hw hS hk) (fun c => kf c H locs ls hl hw hS hk)
theorem z_if_gt (C : zC X B μ) {x : Int32} {off : Int} (tgt : Nat) (d : decode μ.2.1 pc = .ok (.ifCond .gt off, 3)) (ht : (pc : Int) + off = (tgt : Int)) (kt : 0 < x → Z X B μ n G a w tgt lv st) (kf : ¬ 0 < x → Z X B μ n G a w (pc + 3) lv st) : Z X B μ n G a w pc lv (.int x :: st) := fun H locs ls hl hw hS hk => lv_if_gt C.1 C.2.1 d ht (fun c => kt c H locs ls hl hw hS hk) (fun c => kf c H locs ls hl hw hS hk)
theorem z_icmp_gt (C : zC X B μ) {x y : Int32} {off : Int} (tgt : Nat) (d : decode μ.2.1 pc = .ok (.if_icmp .gt off, 3)) (ht : (pc : Int) + off = (tgt : Int)) (kt : y < x → Z X B μ n G a w tgt lv st) (kf : ¬ y < x → Z X B μ n G a w (pc + 3) lv st) : Z X B μ n G a w pc lv (.int y :: .int x :: st) := fun H locs ls hl hw hS hk => lv_icmp_gt C.1 C.2.1 d ht (fun c => kt c H locs ls hl hw hS hk) (fun c => kf c H locs ls hl hw hS hk)
theorem z_if_le (C : zC X B μ) {x : Int32} {off : Int} (tgt : Nat) (d : decode μ.2.1 pc = .ok (.ifCond .le off, 3)) (ht : (pc : Int) + off = (tgt : Int)) (kt : x ≤ 0 → Z X B μ n G a w tgt lv st) (kf : ¬ x ≤ 0 → Z X B μ n G a w (pc + 3) lv st) : Z X B μ n G a w pc lv (.int x :: st) := fun H locs ls hl hw hS hk => lv_if_le C.1 C.2.1 d ht (fun c => kt c H locs ls hl hw hS hk) (fun c => kf c H locs ls hl hw hS hk)
theorem z_icmp_le (C : zC X B μ) {x y : Int32} {off : Int} (tgt : Nat) (d : decode μ.2.1 pc = .ok (.if_icmp .le off, 3)) (ht : (pc : Int) + off = (tgt : Int)) (kt : x ≤ y → Z X B μ n G a w tgt lv st) (kf : ¬ x ≤ y → Z X B μ n G a w (pc + 3) lv st) : Z X B μ n G a w pc lv (.int y :: .int x :: st) := fun H locs ls hl hw hS hk => lv_icmp_le C.1 C.2.1 d ht (fun c => kt c H locs ls hl hw hS hk) (fun c => kf c H locs ls hl hw hS hk)
theorem z_goto (C : zC X B μ) {off : Int} (tgt : Nat) (d : decode μ.2.1 pc = .ok (.goto off, 3)) (ht : (pc : Int) + off = (tgt : Int)) (k : Z X B μ n G a w tgt lv st) : Z X B μ n G a w pc lv st := fun H locs ls hl hw hS hk => lv_goto C.1 C.2.1 d ht (k H locs ls hl hw hS hk)
theorem z_ifnonnull (C : zC X B μ) {x : Nat} {off : Int} (tgt : Nat) (d : decode μ.2.1 pc = .ok (.ifnonnull off, 3)) (ht : (pc : Int) + off = (tgt : Int)) (k : Z X B μ n G a w tgt lv st) : Z X B μ n G a w pc lv (.ref x :: st) := fun H locs ls hl hw hS hk => lv_ifnonnull C.1 C.2.1 d ht (k H locs ls hl hw hS hk)
theorem z_ifnonnullN (C : zC X B μ) {off : Int} (d : decode μ.2.1 pc = .ok (.ifnonnull off, 3)) (k : Z X B μ n G a w (pc + 3) lv st) : Z X B μ n G a w pc lv (.null :: st) := fun H locs ls hl hw hS hk => lv_ifnonnullN C.1 C.2.1 d (k H locs ls hl hw hS hk)
theorem z_ifnull (C : zC X B μ) {x : Nat} {off : Int} (d : decode μ.2.1 pc = .ok (.ifnull off, 3)) (k : Z X B μ n G a w (pc + 3) lv st) : Z X B μ n G a w pc lv (.ref x :: st) := fun H locs ls hl hw hS hk => lv_ifnull C.1 C.2.1 d (k H locs ls hl hw hS hk)
theorem z_ifnullN (C : zC X B μ) {off : Int} (tgt : Nat) (d : decode μ.2.1 pc = .ok (.ifnull off, 3)) (ht : (pc : Int) + off = (tgt : Int)) (k : Z X B μ n G a w tgt lv st) : Z X B μ n G a w pc lv (.null :: st) := fun H locs ls hl hw hS hk => lv_ifnullN C.1 C.2.1 d ht (k H locs ls hl hw hS hk)
theorem z_ldc (C : zC X B μ) {i : Nat} {v : Int32} (d : decode μ.2.1 pc = .ok (.ldc i, 2)) (hm : zT (Cond.constant μ.1.cls i v)) (k : Z X B μ n G a w (pc + 2) lv (.int v :: st)) : Z X B μ n G a w pc lv st := fun H locs ls hl hw hS hk => lv_ldc C.1 C.2.1 C.2.2.2.1 (C.t hm) d (k H locs ls hl hw hS hk)
theorem z_ldcw (C : zC X B μ) {i : Nat} {v : Int32} (d : decode μ.2.1 pc = .ok (.ldc_w i, 3)) (hm : zT (Cond.constant μ.1.cls i v)) (k : Z X B μ n G a w (pc + 3) lv (.int v :: st)) : Z X B μ n G a w pc lv st := fun H locs ls hl hw hS hk => lv_ldcw C.1 C.2.1 C.2.2.2.1 (C.t hm) d (k H locs ls hl hw hS hk)
theorem z_ldc2 (C : zC X B μ) {i : Nat} {v : Int64} (d : decode μ.2.1 pc = .ok (.ldc2_w i, 3)) (hm : zT (Cond.constantLong μ.1.cls i v)) (k : Z X B μ n G a w (pc + 3) lv (.long v :: st)) : Z X B μ n G a w pc lv st := fun H locs ls hl hw hS hk => lv_ldc2 C.1 C.2.1 C.2.2.2.1 (C.t hm) d (k H locs ls hl hw hS hk)
theorem z_tableOut (C : zC X B μ) {dflt lo hi : Int} {offs : Array Int} {len : Nat} {x : Int32} (tgt : Nat) (d : decode μ.2.1 pc = .ok (.tableswitch dflt lo hi offs, len)) (h : x.toInt < lo ∨ hi < x.toInt) (ht : (pc : Int) + dflt = (tgt : Int)) (k : Z X B μ n G a w tgt lv st) : Z X B μ n G a w pc lv (.int x :: st) := fun H locs ls hl hw hS hk => lv_tableOut C.1 C.2.1 d h ht (k H locs ls hl hw hS hk)
theorem z_tableIn (C : zC X B μ) {dflt lo hi : Int} {offs : Array Int} {len : Nat} {x : Int32} {off : Int} (tgt : Nat) (d : decode μ.2.1 pc = .ok (.tableswitch dflt lo hi offs, len)) (h1 : ¬ x.toInt < lo) (h2 : ¬ hi < x.toInt) (ho : offs[(x.toInt - lo).toNat]? = some off) (ht : (pc : Int) + off = (tgt : Int)) (k : Z X B μ n G a w tgt lv st) : Z X B μ n G a w pc lv (.int x :: st) := fun H locs ls hl hw hS hk => lv_tableIn C.1 C.2.1 d h1 h2 ho ht (k H locs ls hl hw hS hk)
theorem z_lookup (C : zC X B μ) {dflt : Int} {ps : Array (Int × Int)} {len : Nat} {x : Int32} {off : Int} (tgt : Nat) (d : decode μ.2.1 pc = .ok (.lookupswitch dflt ps, len)) (hp : (ps.toList.zip (ps.toList.drop 1)).all (fun (a, next) => a.1 < next.1) = true) (ho : Op.lookupswitch.offset ps.toList dflt x.toInt = off) (ht : (pc : Int) + off = (tgt : Int)) (k : Z X B μ n G a w tgt lv st) : Z X B μ n G a w pc lv (.int x :: st) := fun H locs ls hl hw hS hk => lv_lookup C.1 C.2.1 d hp ho ht (k H locs ls hl hw hS hk)
theorem z_lv {lv2 : List (Nat × Value)} (ks : List Nat) (h : lv_pick lv ks = lv2) (k : Z X B μ n G a w pc lv2 st) : Z X B μ n G a w pc lv st := fun H locs ls hl hw hS hk => k H locs ls (lv_sub hl ks h) hw hS hk
theorem z_G {G2 : Nat → va_E} (h : G = G2) (k : Z X B μ n G2 a w pc lv st) : Z X B μ n G a w pc lv st := h ▸ k
theorem z_get (C : zC X B μ) {Cn ref : String} {T : u_T} {N ci index : Nat} {fs : List Value} {o j : Nat} {v : Value} (hin : ∀ w ∈ u_ws Cn T N, zT w) (hc : vwCl[ci]? = some (Cn, T, N)) (hj : j < N) (hm : zT (Cond.fieldLink μ.1.cls index ref (T j).2.1 (T j).2.2.1)) (hs : (T j).1 = ref) (ho : o < n) (hG : G o = .inr (ci, fs)) (hv : fs[j]? = some v) (d : decode μ.2.1 pc = .ok (.getfield index, 3)) (k : Z X B μ n G a w (pc + 3) lv (v :: st)) : Z X B μ n G a w pc lv (.ref (B.1 + o) :: st) :=
  fun H locs ls hl hw hS hk => va_get C.1 C.2.1 (C.ts hin) (fun _ h => h) C.2.2.2.1 C.2.2.2.2.2.1.2.1 hw.P o (zl_at ho hG) hc j hj (C.t hm) (fun _ h => hs ▸ h) hv d (k H locs ls hl hw hS hk)
theorem z_put (C : zC X B μ) {Cn ref : String} {T : u_T} {N ci index : Nat} {fs : List Value} {o j : Nat} {v : Value} {ty : FieldType} (ty0 : Nat → FieldType) (hty : ∀ k, k < N → parseFieldDescriptor (T k).2.2.1 = some (ty0 k)) (hnm : ∀ a, a < N → ∀ b, b < N → a ≠ b → (T a).2.1 ≠ (T b).2.1) (hin : ∀ w ∈ u_ws Cn T N, zT w) (hc : vwCl[ci]? = some (Cn, T, N)) (hj : j < N) (hm : zT (Cond.fieldLink μ.1.cls index ref (T j).2.1 (T j).2.2.1)) (hs : (T j).1 = ref) (hf : (T j).2.2.2 = false) (hd : parseFieldDescriptor (T j).2.2.1 = some ty) (hna : narrow ty v = v) (hft : fits ty v = true) (ho : o < n) (hG : G o = .inr (ci, fs)) (hjl : j < fs.length) (d : decode μ.2.1 pc = .ok (.putfield index, 3)) (k : Z X B μ n (va_up G o (.inr (ci, fs.set j v))) a w (pc + 3) lv st) : Z X B μ n G a w pc lv (v :: .ref (B.1 + o) :: st) :=
  fun H locs ls hl hw hS hk => va_put C.1 C.2.1 (C.ts hin) (fun _ h => h) ty0 hty hnm C.2.2.2.1 C.2.2.2.2.2.1.2.1 hw.P zl_D hS o (zl_at ho hG) hc j hj (C.t hm) (fun _ h => hs ▸ h) hf hd hna hft hjl d (fun H1 locs1 hP hD hS1 => zsize (fun hz => k H1 locs1 ls hl (zw.of (by rw [← zl_set]; exact hP) (by omega) (by omega)) hS1 hk))
theorem z_putF (C : zC X B μ) (hin2 : (xH X).name = "<init>") {Cn ref : String} {T : u_T} {N ci index : Nat} {fs : List Value} {o j : Nat} {v : Value} {ty : FieldType} (ty0 : Nat → FieldType) (hty : ∀ k, k < N → parseFieldDescriptor (T k).2.2.1 = some (ty0 k)) (hnm : ∀ a, a < N → ∀ b, b < N → a ≠ b → (T a).2.1 ≠ (T b).2.1) (hin : ∀ w ∈ u_ws Cn T N, zT w) (hc : vwCl[ci]? = some (Cn, T, N)) (hj : j < N) (hm : zT (Cond.fieldLink μ.1.cls index ref (T j).2.1 (T j).2.2.1)) (hs : (T j).1 = ref) (hf : (T j).2.2.2 = true) (hdecl : (T j).1 = μ.1.cls) (hd : parseFieldDescriptor (T j).2.2.1 = some ty) (hna : narrow ty v = v) (hft : fits ty v = true) (ho : o < n) (hG : G o = .inr (ci, fs)) (hjl : j < fs.length) (d : decode μ.2.1 pc = .ok (.putfield index, 3)) (k : Z X B μ n (va_up G o (.inr (ci, fs.set j v))) a w (pc + 3) lv st) : Z X B μ n G a w pc lv (v :: .ref (B.1 + o) :: st) :=
  fun H locs ls hl hw hS hk => va_putF C.1 C.2.1 (C.ts hin) (fun _ h => h) ty0 hty hnm C.2.2.2.1 C.2.2.2.2.2.1.2.1 hw.P zl_D hS o (zl_at ho hG) hc j hj (C.t hm) (fun _ h => hs ▸ h) hf hin2 hdecl hd hna hft hjl d (fun H1 locs1 hP hD hS1 => zsize (fun hz => k H1 locs1 ls hl (zw.of (by rw [← zl_set]; exact hP) (by omega) (by omega)) hS1 hk))
theorem z_iald (C : zC X B μ) {o N : Nat} {f : Nat → Int32} {i : Int32} (ho : o < n) (hG : G o = .inl (B.2.2.1 0, N, .inl f)) (hi : vp_in i N) (d : decode μ.2.1 pc = .ok (.iaload, 1)) (k : Z X B μ n G a w (pc + 1) lv (.int (f i.toNatClampNeg) :: st)) : Z X B μ n G a w pc lv (.int i :: .ref (B.1 + o) :: st) :=
  fun H locs ls hl hw hS hk => va_iald C.1 C.2.1 C.2.2.2.2.2.1.2.1 hw.P o 0 (zl_at ho hG) rfl hi d (k H locs ls hl hw hS hk)
theorem z_bald (C : zC X B μ) {o N : Nat} {f : Nat → Int32} {i : Int32} (ho : o < n) (hG : G o = .inl (B.2.2.1 1, N, .inl f)) (hi : vp_in i N) (d : decode μ.2.1 pc = .ok (.baload, 1)) (k : Z X B μ n G a w (pc + 1) lv (.int (f i.toNatClampNeg) :: st)) : Z X B μ n G a w pc lv (.int i :: .ref (B.1 + o) :: st) :=
  fun H locs ls hl hw hS hk => va_bald C.1 C.2.1 C.2.2.2.2.2.1.2.1 hw.P o 1 (zl_at ho hG) rfl hi d (k H locs ls hl hw hS hk)
theorem z_zald (C : zC X B μ) {o N : Nat} {f : Nat → Int32} {i : Int32} (ho : o < n) (hG : G o = .inl (B.2.2.1 2, N, .inl f)) (hi : vp_in i N) (d : decode μ.2.1 pc = .ok (.baload, 1)) (k : Z X B μ n G a w (pc + 1) lv (.int (f i.toNatClampNeg) :: st)) : Z X B μ n G a w pc lv (.int i :: .ref (B.1 + o) :: st) :=
  fun H locs ls hl hw hS hk => va_zald C.1 C.2.1 C.2.2.2.2.2.1.2.1 hw.P o 2 (zl_at ho hG) rfl hi d (k H locs ls hl hw hS hk)
theorem z_iast (C : zC X B μ) {o N : Nat} {f : Nat → Int32} {i x : Int32} (ho : o < n) (hG : G o = .inl (B.2.2.1 0, N, .inl f)) (hi : vp_in i N) (d : decode μ.2.1 pc = .ok (.iastore, 1)) (k : Z X B μ n (va_up G o (.inl (B.2.2.1 0, N, .inl (upd f i.toNatClampNeg x)))) a w (pc + 1) lv st) : Z X B μ n G a w pc lv (.int x :: .int i :: .ref (B.1 + o) :: st) :=
  fun H locs ls hl hw hS hk => va_iast C.1 C.2.1 C.2.2.2.2.2.1.2.1 hw.P zl_D hS o 0 (zl_at ho hG) rfl hi d (fun H1 locs1 hP hD hS1 => zsize (fun hz => k H1 locs1 ls hl (zw.of (by rw [← zl_set]; exact hP) (by omega) (by omega)) hS1 hk))
theorem z_bast (C : zC X B μ) {o N : Nat} {f : Nat → Int32} {i x : Int32} (ho : o < n) (hG : G o = .inl (B.2.2.1 1, N, .inl f)) (hi : vp_in i N) (d : decode μ.2.1 pc = .ok (.bastore, 1)) (k : Z X B μ n (va_up G o (.inl (B.2.2.1 1, N, .inl (upd f i.toNatClampNeg (vp_nar .byte x))))) a w (pc + 1) lv st) : Z X B μ n G a w pc lv (.int x :: .int i :: .ref (B.1 + o) :: st) :=
  fun H locs ls hl hw hS hk => va_bast C.1 C.2.1 C.2.2.2.2.2.1.2.1 hw.P zl_D hS o 1 (zl_at ho hG) rfl hi d (fun H1 locs1 hP hD hS1 => zsize (fun hz => k H1 locs1 ls hl (zw.of (by rw [← zl_set]; exact hP) (by omega) (by omega)) hS1 hk))
theorem z_zast (C : zC X B μ) {o N : Nat} {f : Nat → Int32} {i x : Int32} (ho : o < n) (hG : G o = .inl (B.2.2.1 2, N, .inl f)) (hi : vp_in i N) (d : decode μ.2.1 pc = .ok (.bastore, 1)) (k : Z X B μ n (va_up G o (.inl (B.2.2.1 2, N, .inl (upd f i.toNatClampNeg (vp_nar .boolean x))))) a w (pc + 1) lv st) : Z X B μ n G a w pc lv (.int x :: .int i :: .ref (B.1 + o) :: st) :=
  fun H locs ls hl hw hS hk => va_zast C.1 C.2.1 C.2.2.2.2.2.1.2.1 hw.P zl_D hS o 2 (zl_at ho hG) rfl hi d (fun H1 locs1 hP hD hS1 => zsize (fun hz => k H1 locs1 ls hl (zw.of (by rw [← zl_set]; exact hP) (by omega) (by omega)) hS1 hk))
theorem z_alen (C : zC X B μ) {o : Nat} {x : vp_A} {v : Int32} (t0 : Nat) {ty : FieldType} (ho : o < n) (hG : G o = .inl (B.2.2.1 t0, x)) (ht : (zTys B.2.2.1)[t0]? = some (B.2.2.1 t0, ty)) (hv : Int32.ofNat x.1 = v) (d : decode μ.2.1 pc = .ok (.arraylength, 1)) (k : Z X B μ n G a w (pc + 1) lv (.int v :: st)) : Z X B μ n G a w pc lv (.ref (B.1 + o) :: st) :=
  fun H locs ls hl hw hS hk => va_alen C.1 C.2.1 C.2.2.2.2.2.1.2.1 hw.P o t0 (zl_at ho hG) ht hv d (k H locs ls hl hw hS hk)
theorem z_aald (C : zC X B μ) {o N r : Nat} {f : Nat → Option Nat} {i : Int32} (t0 : Nat) {Cn : String} (ho : o < n) (hG : G o = .inl (B.2.2.1 t0, N, .inr (.inr (.inr (.inr f))))) (ht : (zTys B.2.2.1)[t0]? = some (B.2.2.1 t0, .object Cn)) (hi : vp_in i N) (hr : f i.toNatClampNeg = some r) (d : decode μ.2.1 pc = .ok (.aaload, 1)) (k : Z X B μ n G a w (pc + 1) lv (.ref r :: st)) : Z X B μ n G a w pc lv (.int i :: .ref (B.1 + o) :: st) :=
  fun H locs ls hl hw hS hk => va_aldq C.1 C.2.1 C.2.2.2.2.2.1.2.1 hw.P o t0 (zl_at ho hG) ht hi d (by rw [hr]; exact k H locs ls hl hw hS hk)
theorem z_iret (C : zC X B μ) {n0 mc ms : Nat} {Q : Option Value → Nat → (Nat → va_E) → Prop} (E : zE X B μ n0 mc ms Q) (hret : μ.2.2.2.1 = some .int) {v : Int32} (d : decode μ.2.1 pc = .ok (.ireturn, 1)) (hn : n = n0 + mc) (hw2 : w ≤ ms) (q : Q (some (.int v)) n G) : Z X B μ n G a w pc lv [.int v] := by
  intro H locs ls hl hw hS hk
  obtain ⟨e1, e2, e3⟩ := E
  rw [hret] at e1
  show W _ _ _ _ _ _ _ _ _ _ _ _ _ _ (xQ X) _
  rw [e2]
  refine W.widen (k := mc) (n := ms) (by omega) hw2 ?_
  exact W.iret (v := v) C.1 C.2.1 e1 (fun t ht _ => ⟨⟨_, n, G, rfl, q, by rw [ht]; exact hw, hn⟩, hS.F ht⟩) hS.2.2 d C.2.2.2.2.1
theorem z_lret (C : zC X B μ) {n0 mc ms : Nat} {Q : Option Value → Nat → (Nat → va_E) → Prop} (E : zE X B μ n0 mc ms Q) (hret : μ.2.2.2.1 = some .long) {v : Int64} (d : decode μ.2.1 pc = .ok (.lreturn, 1)) (hn : n = n0 + mc) (hw2 : w ≤ ms) (q : Q (some (.long v)) n G) : Z X B μ n G a w pc lv [.long v] := by
  intro H locs ls hl hw hS hk
  obtain ⟨e1, e2, e3⟩ := E
  rw [hret] at e1
  show W _ _ _ _ _ _ _ _ _ _ _ _ _ _ (xQ X) _
  rw [e2]
  refine W.widen (k := mc) (n := ms) (by omega) hw2 ?_
  exact W.lret (v := v) C.1 C.2.1 e1 (fun t ht _ => ⟨⟨_, n, G, rfl, q, by rw [ht]; exact hw, hn⟩, hS.F ht⟩) hS.2.2 d C.2.2.2.2.1
theorem z_zret (C : zC X B μ) {n0 mc ms : Nat} {ty : FieldType} {Q : Option Value → Nat → (Nat → va_E) → Prop} (E : zE X B μ n0 mc ms Q) (hret : μ.2.2.2.1 = some ty) {v : Int32} (d : decode μ.2.1 pc = .ok (.ireturn, 1)) (hv : narrow ty (.int v) = .int v) (hn : n = n0 + mc) (hw2 : w ≤ ms) (q : Q (some (.int v)) n G) : Z X B μ n G a w pc lv [.int v] := by
  intro H locs ls hl hw hS hk
  obtain ⟨e1, e2, e3⟩ := E
  rw [hret] at e1
  show W _ _ _ _ _ _ _ _ _ _ _ _ _ _ (xQ X) _
  rw [e2]
  refine W.widen (k := mc) (n := ms) (by omega) hw2 ?_
  exact W.zret (v := v) C.1 C.2.1 e1 hv (fun t ht _ => ⟨⟨_, n, G, rfl, q, by rw [ht]; exact hw, hn⟩, hS.F ht⟩) hS.2.2 d C.2.2.2.2.1
theorem z_aret (C : zC X B μ) {n0 mc ms : Nat} {rt : String} {Q : Option Value → Nat → (Nat → va_E) → Prop} (E : zE X B μ n0 mc ms Q) (hret : μ.2.2.2.1 = some (.object rt)) {v : Value} (d : decode μ.2.1 pc = .ok (.areturn, 1)) (hv : v = .null ∨ ∃ a, v = .ref a) (hn : n = n0 + mc) (hw2 : w ≤ ms) (q : Q (some v) n G) : Z X B μ n G a w pc lv [v] := by
  intro H locs ls hl hw hS hk
  obtain ⟨e1, e2, e3⟩ := E
  rw [hret] at e1
  show W _ _ _ _ _ _ _ _ _ _ _ _ _ _ (xQ X) _
  rw [e2]
  refine W.widen (k := mc) (n := ms) (by omega) hw2 ?_
  exact W.aret (v := v) C.1 C.2.1 e1 (Or.inl ⟨_, rfl⟩) hv (fun t ht _ => ⟨⟨_, n, G, rfl, q, by rw [ht]; exact hw, hn⟩, hS.F ht⟩) hS.2.2 d C.2.2.2.2.1
theorem z_vret (C : zC X B μ) {n0 mc ms : Nat} {Q : Option Value → Nat → (Nat → va_E) → Prop} (E : zE X B μ n0 mc ms Q) (hret : μ.2.2.2.1 = none) (d : decode μ.2.1 pc = .ok (.return_, 1)) (hn : n = n0 + mc) (hw2 : w ≤ ms) (q : Q none n G) : Z X B μ n G a w pc lv [] := by
  intro H locs ls hl hw hS hk
  obtain ⟨e1, e2, e3⟩ := E
  rw [hret] at e1
  show W _ _ _ _ _ _ _ _ _ _ _ _ _ _ (xQ X) _
  rw [e2]
  refine W.widen (k := mc) (n := ms) (by omega) hw2 ?_
  exact W.vret C.1 C.2.1 e1 (fun t ht _ => ⟨⟨_, n, G, rfl, q, by rw [ht]; exact hw, hn⟩, hS.F ht⟩) hS.2.2 d C.2.2.2.2.1
/-- behind a call -/
theorem z_run {mc ms : Nat} {Q : Option Value → Nat → (Nat → va_E) → Prop} {rest : List Value} (hr : ∀ (H : Heap) (locs : List Loc) (ls : Array Slot), lv_has ls μ.2.2.1 lv → zw B n G H → va_S (zA B) (xS X).heap H locs → va_Run X.1 X.2.1 X.2.2.1 μ.2.2.2.2 (xS X) (xM X) (xA X) (xB X) (xH X) (xC X) H locs a w mc ms (F0 (xM X) pc ls st) rest (fun st oc t => (∃ (v : Option Value) (n' : Nat) (G' : Nat → va_E), oc = .returned v ∧ Q v n' G' ∧ zw B n' G' t.heap ∧ n' = n + mc) ∧ va_F (zA B) st t) (zA B))
    (kk : ∀ (v : Option Value) (G' : Nat → va_E), Q v (n + mc) G' → Z X B μ (n + mc) G' (a + mc) (w + ms) (pc + 3) lv (v.toList ++ rest)) : Z X B μ n G a w pc lv st := by
  intro H locs ls hl hw hS hk T hT X0
  obtain ⟨v, st₀, t, T', L, h0, X', hL, e1, e2, ⟨⟨v', n', G', hv, hq, hz, hn⟩, hz1, hk1⟩, stp⟩ := hr H locs ls hl hw hS T hT X0
  cases hv
  subst hn
  rw [h0] at hz1 hk1
  obtain ⟨t2, a1, b1⟩ := kk v G' hq T'.heap (locs ++ L) ls hl (by rw [e1]; exact hz)
    ⟨Nat.le_trans hS.1 (by rw [e1]; exact hz1), fun q h1 h2 => by rw [e1, hk1 q (Nat.lt_of_lt_of_le h1 hS.1) h2]; exact hS.2.1 q h1 h2, fun q hq => by
      rcases List.mem_append.mp hq with h | h
      · exact hS.2.2 q h
      · exact hL q h⟩ (by omega) T' rfl X'
  exact ⟨t2, stp t2 a1, b1⟩
theorem zPre_blind {as : List Value} : FrameBlind (va_Pc as (zPre B n G)) := fun ar U g mk q => ⟨q.1, q.2.1, q.2.2.same rfl⟩
theorem zPre_at (C : zC X B μ) {H : Heap} {locs : List Loc} (hw : zw B n G H) (hS : va_S (zA B) (xS X).heap H locs) (as : List Value) : ∀ U : State, U.heap = H → (xS X).WarmedH U.vm → va_Pc as (zPre B n G) as.toArray U :=
  fun U hU hW => ⟨rfl, by rw [hU]; exact hw, by rw [hU]; exact (C.2.2.2.2.2.1.warm hW).kept hS.2.1⟩
theorem z_recv (C : zC X B μ) {H : Heap} (hw : zw B n G H) {o ci : Nat} {q : vw_C} {fs : List Value} (ho : o < n) (hG : G o = .inr (ci, fs)) (hc : vwCl[ci]? = some q) : ∃ cell : Cell, H[B.1 + o]? = some cell ∧ cell.vm.isStatics = false ∧ (xS X).vm.findClass q.1 = some cell.cls :=
  va_recv C.2.2.2.2.2.1.2.1 hw.P hc (zl_at ho hG)
end ZROWS
