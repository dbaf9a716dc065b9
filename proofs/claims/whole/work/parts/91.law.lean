abbrev mLaw : zM := (yL_law, cL_law, 4, ret, room_1)
section LAW
variable {X : zX} {B : zB} {μ : zM} {n : Nat} {G : Nat → va_E} {a w pc : Nat} {lv : List (Nat × Value)} {st : List Value} {s : zS} {t : zL}
theorem z_sld (C : zC X B μ) {b L : Nat} {xs : Nat → Int32} (hX : va_X b L xs (xS X) (xS X).heap) (hbl : b < (xS X).heap.size) (hbB : b < B.1) {i : Nat} (hi : i < L) (hL : L ≤ 320) (d : decode μ.2.1 pc = .ok (.iaload, 1)) (k : Z X B μ n G a w (pc + 1) lv (.int (xs i) :: st)) : Z X B μ n G a w pc lv (.int (nI i) :: .ref b :: st) :=
  fun H locs ls hl hw hS hk => va_sld C.1 C.2.1 hX hbl (fun z : B.1 ≤ b => absurd z (by omega)) hS (vp_in_nI hi (by omega)) d (by rw [nI_clamp (by omega)]; exact k H locs ls hl hw hS hk)
theorem z_slen (C : zC X B μ) {b L : Nat} {xs : Nat → Int32} (hX : va_X b L xs (xS X) (xS X).heap) (hbl : b < (xS X).heap.size) (hbB : b < B.1) (d : decode μ.2.1 pc = .ok (.arraylength, 1)) (k : Z X B μ n G a w (pc + 1) lv (.int (nI L) :: st)) : Z X B μ n G a w pc lv (.ref b :: st) :=
  fun H locs ls hl hw hS hk => va_slen C.1 C.2.1 hX hbl (fun z : B.1 ≤ b => absurd z (by omega)) hS d (k H locs ls hl hw hS hk)
theorem l_callV (C : zC X B μ) {l : Launch} (hl : X.2.1 = l) {κ : zM} {nA index o : Nat} {As rest : List Value} {v0 : Value} {s2 : zS} {t2 : zL} (hM : zD l B κ s t (.ref (B.1 + o) :: As) (some v0) s2 t2) {ci : Nat} {q : vw_C} {fs : List Value} (ho : o < 124) (hG : zg B s t o = .inr (ci, fs)) (hc : vwCl[ci]? = some q) (cw : CallB μ.2.2.2.2 (xS X) (xA X) μ.1.cls index κ.1 κ.2.1 κ.2.2.1 κ.2.2.2.1 (zWs κ) κ.2.2.2.2 0 0 nA) (hin : zT (.instanceMethod κ.1)) (hsel : zT (.selects q.1 κ.1 κ.1)) (hn : As.length = nA) (hst : st = As.reverse ++ .ref (B.1 + o) :: rest) (hW : (rest.map fun v => v.category).sum ≤ 8) (d : decode μ.2.1 pc = .ok (.invokevirtual index, 3)) (hf : a ≤ μ.2.2.2.2.cells ∧ w ≤ μ.2.2.2.2.slots) (kk : Z X B μ 124 (zg B s2 t2) a w (pc + 3) lv (v0 :: rest)) : Z X B μ 124 (zg B s t) a w pc lv st := by
  subst hl
  exact z_run (mc := 0) (ms := 0) (rest := rest) (fun H locs ls hls hw hS => va_runV (As := As) (rest := rest) C.fix hM ⟨cw, C.t hin, C.t hsel⟩ ⟨zPre_blind, z_recv C hw ho hG hc, zPre_at C hw hS _⟩ rfl hn hls.1 hst (lv_room hW) d hf) (fun v G q => by obtain ⟨rfl, rfl⟩ := q; exact kk)
end LAW
/-- where a step of the law begins and ends -/
abbrev lLv (B : zB) (b : Nat) (i : Nat) : List (Nat × Value) := [(3, .int (nI i)), (2, .ref (B.1 + 113)), (1, .ref (B.1 + 0)), (0, .ref b)]
abbrev lZ (X : zX) (B : zB) (s : zS) (t : zL) (pc : Nat) (lv : List (Nat × Value)) (st : List Value) : Prop := Z X B mLaw 124 (zg B s t) 124 1267 pc lv st
theorem lg_cmp_self (x : Int64) : lg_cmp x x = 0 := by
  unfold lg_cmp
  simp
set_option maxRecDepth 100000 in
set_option maxHeartbeats 4000000 in
theorem lc_0 {l : Launch} {X : zX} {B : zB} (hl : X.2.1 = l) (C : zC X B mLaw) {b L : Nat} {xs : Nat → Int32} (hX : va_X b L xs (xS X) (xS X).heap) (hbl : b < (xS X).heap.size) (hbB : b < B.1) (hL : L ≤ 320) {i : Nat} (hi : i + 5 ≤ L) {s : zS} {t : zL} (hJ : jI s t) (k : ∀ s2 t2, jI s2 t2 → lZ X B s2 t2 998 (lLv B b i) []) : lZ X B s t 184 (lLv B b i) [] := by
  obtain ⟨x, s1, t1, s2, t2, hc, hm, hJ2⟩ := k_house (l := l) (B := B) hJ (xs (i + 1))
  refine z_aload_n C dL_law_184 2 rfl rfl ?_
  refine z_aload_n C dL_law_185 3 rfl rfl ?_
  refine z_iload_n C dL_law_186 0 rfl rfl ?_
  refine z_iconst C dL_law_187 ki_1 ?_
  refine z_iadd C dL_law_188 ?_
  refine f_topi (y := nI (i + 1)) (nA (a := i) (b := 1) rfl rfl rfl) ?_
  refine z_sld C hX hbl hbB (i := i + 1) (by omega) hL dL_law_189 ?_
  refine l_callV C hl (As := [.int (xs (i + 1))]) (rest := []) hc zb_0 (zg_11 zk_0) rfl (zCB (nA := 1) C rfl rfl tw_265 tw_1 tw_262 (by decide +kernel) ⟨Nat.le_of_ble_eq_true rfl, Nat.le_of_ble_eq_true rfl⟩) tw_263 tw_264 rfl rfl (Nat.le_of_ble_eq_true rfl) dL_law_190 ⟨Nat.le_of_ble_eq_true rfl, Nat.le_of_ble_eq_true rfl⟩ ?_
  refine z_aload_n C dL_law_193 1 rfl rfl ?_
  refine z_aload_n C dL_law_194 3 rfl rfl ?_
  refine z_iload_n C dL_law_195 0 rfl rfl ?_
  refine z_iconst C dL_law_196 ki_1 ?_
  refine z_iadd C dL_law_197 ?_
  refine f_topi (y := nI (i + 1)) (nA (a := i) (b := 1) rfl rfl rfl) ?_
  refine z_sld C hX hbl hbB (i := i + 1) (by omega) hL dL_law_198 ?_
  refine l_callV C hl (As := [.int (xs (i + 1))]) (rest := [.int x]) hm zb_113 (zg_12 zk_113) rfl (zCB (nA := 1) C rfl rfl tw_806 tw_13 tw_803 (by decide +kernel) ⟨Nat.le_of_ble_eq_true rfl, Nat.le_of_ble_eq_true rfl⟩) tw_804 tw_805 rfl rfl (Nat.le_of_ble_eq_true rfl) dL_law_199 ⟨Nat.le_of_ble_eq_true rfl, Nat.le_of_ble_eq_true rfl⟩ ?_
  exact z_icmp_eq C 998 dL_law_202 (by decide) (fun _ => k s2 t2 hJ2) (fun hbr => absurd rfl hbr)
set_option maxRecDepth 100000 in
set_option maxHeartbeats 4000000 in
theorem lc_1 {l : Launch} {X : zX} {B : zB} (hl : X.2.1 = l) (C : zC X B mLaw) {b L : Nat} {xs : Nat → Int32} (hX : va_X b L xs (xS X) (xS X).heap) (hbl : b < (xS X).heap.size) (hbB : b < B.1) (hL : L ≤ 320) {i : Nat} (hi : i + 5 ≤ L) {s : zS} {t : zL} (hJ : jI s t) (k : ∀ s2 t2, jI s2 t2 → lZ X B s2 t2 998 (lLv B b i) []) : lZ X B s t 207 (lLv B b i) [] := by
  obtain ⟨x, s1, t1, s2, t2, hc, hm, hJ2⟩ := k_deputy (l := l) (B := B) hJ (xs (i + 1)) (xs (i + 2)) (xs (i + 3)) (xs (i + 4))
  refine z_aload_n C dL_law_207 2 rfl rfl ?_
  refine z_aload_n C dL_law_208 3 rfl rfl ?_
  refine z_iload_n C dL_law_209 0 rfl rfl ?_
  refine z_iconst C dL_law_210 ki_1 ?_
  refine z_iadd C dL_law_211 ?_
  refine f_topi (y := nI (i + 1)) (nA (a := i) (b := 1) rfl rfl rfl) ?_
  refine z_sld C hX hbl hbB (i := i + 1) (by omega) hL dL_law_212 ?_
  refine z_aload_n C dL_law_213 3 rfl rfl ?_
  refine z_iload_n C dL_law_214 0 rfl rfl ?_
  refine z_iconst C dL_law_215 ki_2 ?_
  refine z_iadd C dL_law_216 ?_
  refine f_topi (y := nI (i + 2)) (nA (a := i) (b := 2) rfl rfl rfl) ?_
  refine z_sld C hX hbl hbB (i := i + 2) (by omega) hL dL_law_217 ?_
  refine z_aload_n C dL_law_218 3 rfl rfl ?_
  refine z_iload_n C dL_law_219 0 rfl rfl ?_
  refine z_iconst C dL_law_220 ki_3 ?_
  refine z_iadd C dL_law_221 ?_
  refine f_topi (y := nI (i + 3)) (nA (a := i) (b := 3) rfl rfl rfl) ?_
  refine z_sld C hX hbl hbB (i := i + 3) (by omega) hL dL_law_222 ?_
  refine z_aload_n C dL_law_223 3 rfl rfl ?_
  refine z_iload_n C dL_law_224 0 rfl rfl ?_
  refine z_iconst C dL_law_225 ki_4 ?_
  refine z_iadd C dL_law_226 ?_
  refine f_topi (y := nI (i + 4)) (nA (a := i) (b := 4) rfl rfl rfl) ?_
  refine z_sld C hX hbl hbB (i := i + 4) (by omega) hL dL_law_227 ?_
  refine l_callV C hl (As := [.int (xs (i + 1)), .int (xs (i + 2)), .int (xs (i + 3)), .int (xs (i + 4))]) (rest := []) hc zb_0 (zg_11 zk_0) rfl (zCB (nA := 4) C rfl rfl tw_284 tw_1 tw_281 (by decide +kernel) ⟨Nat.le_of_ble_eq_true rfl, Nat.le_of_ble_eq_true rfl⟩) tw_282 tw_283 rfl rfl (Nat.le_of_ble_eq_true rfl) dL_law_228 ⟨Nat.le_of_ble_eq_true rfl, Nat.le_of_ble_eq_true rfl⟩ ?_
  refine z_aload_n C dL_law_231 1 rfl rfl ?_
  refine z_aload_n C dL_law_232 3 rfl rfl ?_
  refine z_iload_n C dL_law_233 0 rfl rfl ?_
  refine z_iconst C dL_law_234 ki_1 ?_
  refine z_iadd C dL_law_235 ?_
  refine f_topi (y := nI (i + 1)) (nA (a := i) (b := 1) rfl rfl rfl) ?_
  refine z_sld C hX hbl hbB (i := i + 1) (by omega) hL dL_law_236 ?_
  refine z_aload_n C dL_law_237 3 rfl rfl ?_
  refine z_iload_n C dL_law_238 0 rfl rfl ?_
  refine z_iconst C dL_law_239 ki_2 ?_
  refine z_iadd C dL_law_240 ?_
  refine f_topi (y := nI (i + 2)) (nA (a := i) (b := 2) rfl rfl rfl) ?_
  refine z_sld C hX hbl hbB (i := i + 2) (by omega) hL dL_law_241 ?_
  refine z_aload_n C dL_law_242 3 rfl rfl ?_
  refine z_iload_n C dL_law_243 0 rfl rfl ?_
  refine z_iconst C dL_law_244 ki_3 ?_
  refine z_iadd C dL_law_245 ?_
  refine f_topi (y := nI (i + 3)) (nA (a := i) (b := 3) rfl rfl rfl) ?_
  refine z_sld C hX hbl hbB (i := i + 3) (by omega) hL dL_law_246 ?_
  refine z_aload_n C dL_law_247 3 rfl rfl ?_
  refine z_iload_n C dL_law_248 0 rfl rfl ?_
  refine z_iconst C dL_law_249 ki_4 ?_
  refine z_iadd C dL_law_250 ?_
  refine f_topi (y := nI (i + 4)) (nA (a := i) (b := 4) rfl rfl rfl) ?_
  refine z_sld C hX hbl hbB (i := i + 4) (by omega) hL dL_law_251 ?_
  refine l_callV C hl (As := [.int (xs (i + 1)), .int (xs (i + 2)), .int (xs (i + 3)), .int (xs (i + 4))]) (rest := [.int x]) hm zb_113 (zg_12 zk_113) rfl (zCB (nA := 4) C rfl rfl tw_822 tw_13 tw_819 (by decide +kernel) ⟨Nat.le_of_ble_eq_true rfl, Nat.le_of_ble_eq_true rfl⟩) tw_820 tw_821 rfl rfl (Nat.le_of_ble_eq_true rfl) dL_law_252 ⟨Nat.le_of_ble_eq_true rfl, Nat.le_of_ble_eq_true rfl⟩ ?_
  exact z_icmp_eq C 998 dL_law_255 (by decide) (fun _ => k s2 t2 hJ2) (fun hbr => absurd rfl hbr)
set_option maxRecDepth 100000 in
set_option maxHeartbeats 4000000 in
theorem lc_2 {l : Launch} {X : zX} {B : zB} (hl : X.2.1 = l) (C : zC X B mLaw) {b L : Nat} {xs : Nat → Int32} (hX : va_X b L xs (xS X) (xS X).heap) (hbl : b < (xS X).heap.size) (hbB : b < B.1) (hL : L ≤ 320) {i : Nat} (hi : i + 5 ≤ L) {s : zS} {t : zL} (hJ : jI s t) (k : ∀ s2 t2, jI s2 t2 → lZ X B s2 t2 998 (lLv B b i) []) : lZ X B s t 260 (lLv B b i) [] := by
  obtain ⟨x, s1, t1, s2, t2, hc, hm, hJ2⟩ := k_type (l := l) (B := B) hJ (xs (i + 1))
  refine z_aload_n C dL_law_260 2 rfl rfl ?_
  refine z_aload_n C dL_law_261 3 rfl rfl ?_
  refine z_iload_n C dL_law_262 0 rfl rfl ?_
  refine z_iconst C dL_law_263 ki_1 ?_
  refine z_iadd C dL_law_264 ?_
  refine f_topi (y := nI (i + 1)) (nA (a := i) (b := 1) rfl rfl rfl) ?_
  refine z_sld C hX hbl hbB (i := i + 1) (by omega) hL dL_law_265 ?_
  refine l_callV C hl (As := [.int (xs (i + 1))]) (rest := []) hc zb_0 (zg_11 zk_0) rfl (zCB (nA := 1) C rfl rfl tw_295 tw_1 tw_292 (by decide +kernel) ⟨Nat.le_of_ble_eq_true rfl, Nat.le_of_ble_eq_true rfl⟩) tw_293 tw_294 rfl rfl (Nat.le_of_ble_eq_true rfl) dL_law_266 ⟨Nat.le_of_ble_eq_true rfl, Nat.le_of_ble_eq_true rfl⟩ ?_
  refine z_aload_n C dL_law_269 1 rfl rfl ?_
  refine z_aload_n C dL_law_270 3 rfl rfl ?_
  refine z_iload_n C dL_law_271 0 rfl rfl ?_
  refine z_iconst C dL_law_272 ki_1 ?_
  refine z_iadd C dL_law_273 ?_
  refine f_topi (y := nI (i + 1)) (nA (a := i) (b := 1) rfl rfl rfl) ?_
  refine z_sld C hX hbl hbB (i := i + 1) (by omega) hL dL_law_274 ?_
  refine l_callV C hl (As := [.int (xs (i + 1))]) (rest := [.int x]) hm zb_113 (zg_12 zk_113) rfl (zCB (nA := 1) C rfl rfl tw_1018 tw_13 tw_1015 (by decide +kernel) ⟨Nat.le_of_ble_eq_true rfl, Nat.le_of_ble_eq_true rfl⟩) tw_1016 tw_1017 rfl rfl (Nat.le_of_ble_eq_true rfl) dL_law_275 ⟨Nat.le_of_ble_eq_true rfl, Nat.le_of_ble_eq_true rfl⟩ ?_
  exact z_icmp_eq C 998 dL_law_278 (by decide) (fun _ => k s2 t2 hJ2) (fun hbr => absurd rfl hbr)
set_option maxRecDepth 100000 in
set_option maxHeartbeats 4000000 in
theorem lc_3 {l : Launch} {X : zX} {B : zB} (hl : X.2.1 = l) (C : zC X B mLaw) {b L : Nat} {xs : Nat → Int32} (hX : va_X b L xs (xS X) (xS X).heap) (hbl : b < (xS X).heap.size) (hbB : b < B.1) (hL : L ≤ 320) {i : Nat} (hi : i + 5 ≤ L) {s : zS} {t : zL} (hJ : jI s t) (k : ∀ s2 t2, jI s2 t2 → lZ X B s2 t2 998 (lLv B b i) []) : lZ X B s t 283 (lLv B b i) [] := by
  obtain ⟨x, s1, t1, s2, t2, hc, hm, hJ2⟩ := k_clear (l := l) (B := B) hJ
  refine z_aload_n C dL_law_283 2 rfl rfl ?_
  refine l_callV C hl (As := []) (rest := []) hc zb_0 (zg_11 zk_0) rfl (zCB (nA := 0) C rfl rfl tw_303 tw_1 tw_300 (by decide +kernel) ⟨Nat.le_of_ble_eq_true rfl, Nat.le_of_ble_eq_true rfl⟩) tw_301 tw_302 rfl rfl (Nat.le_of_ble_eq_true rfl) dL_law_284 ⟨Nat.le_of_ble_eq_true rfl, Nat.le_of_ble_eq_true rfl⟩ ?_
  refine z_aload_n C dL_law_287 1 rfl rfl ?_
  refine l_callV C hl (As := []) (rest := [.int x]) hm zb_113 (zg_12 zk_113) rfl (zCB (nA := 0) C rfl rfl tw_1023 tw_13 tw_1020 (by decide +kernel) ⟨Nat.le_of_ble_eq_true rfl, Nat.le_of_ble_eq_true rfl⟩) tw_1021 tw_1022 rfl rfl (Nat.le_of_ble_eq_true rfl) dL_law_288 ⟨Nat.le_of_ble_eq_true rfl, Nat.le_of_ble_eq_true rfl⟩ ?_
  exact z_icmp_eq C 998 dL_law_291 (by decide) (fun _ => k s2 t2 hJ2) (fun hbr => absurd rfl hbr)
set_option maxRecDepth 100000 in
set_option maxHeartbeats 4000000 in
theorem lc_4 {l : Launch} {X : zX} {B : zB} (hl : X.2.1 = l) (C : zC X B mLaw) {b L : Nat} {xs : Nat → Int32} (hX : va_X b L xs (xS X) (xS X).heap) (hbl : b < (xS X).heap.size) (hbB : b < B.1) (hL : L ≤ 320) {i : Nat} (hi : i + 5 ≤ L) {s : zS} {t : zL} (hJ : jI s t) (k : ∀ s2 t2, jI s2 t2 → lZ X B s2 t2 998 (lLv B b i) []) : lZ X B s t 296 (lLv B b i) [] := by
  obtain ⟨x, s1, t1, s2, t2, hc, hm, hJ2⟩ := k_read (l := l) (B := B) hJ
  refine z_aload_n C dL_law_296 2 rfl rfl ?_
  refine l_callV C hl (As := []) (rest := []) hc zb_0 (zg_11 zk_0) rfl (zCB (nA := 0) C rfl rfl tw_307 tw_1 tw_304 (by decide +kernel) ⟨Nat.le_of_ble_eq_true rfl, Nat.le_of_ble_eq_true rfl⟩) tw_305 tw_306 rfl rfl (Nat.le_of_ble_eq_true rfl) dL_law_297 ⟨Nat.le_of_ble_eq_true rfl, Nat.le_of_ble_eq_true rfl⟩ ?_
  refine z_aload_n C dL_law_300 1 rfl rfl ?_
  refine l_callV C hl (As := []) (rest := [.int x]) hm zb_113 (zg_12 zk_113) rfl (zCB (nA := 0) C rfl rfl tw_1027 tw_13 tw_1024 (by decide +kernel) ⟨Nat.le_of_ble_eq_true rfl, Nat.le_of_ble_eq_true rfl⟩) tw_1025 tw_1026 rfl rfl (Nat.le_of_ble_eq_true rfl) dL_law_301 ⟨Nat.le_of_ble_eq_true rfl, Nat.le_of_ble_eq_true rfl⟩ ?_
  exact z_icmp_eq C 998 dL_law_304 (by decide) (fun _ => k s2 t2 hJ2) (fun hbr => absurd rfl hbr)
set_option maxRecDepth 100000 in
set_option maxHeartbeats 4000000 in
theorem lc_5 {l : Launch} {X : zX} {B : zB} (hl : X.2.1 = l) (C : zC X B mLaw) {b L : Nat} {xs : Nat → Int32} (hX : va_X b L xs (xS X) (xS X).heap) (hbl : b < (xS X).heap.size) (hbB : b < B.1) (hL : L ≤ 320) {i : Nat} (hi : i + 5 ≤ L) {s : zS} {t : zL} (hJ : jI s t) (k : ∀ s2 t2, jI s2 t2 → lZ X B s2 t2 998 (lLv B b i) []) : lZ X B s t 309 (lLv B b i) [] := by
  obtain ⟨x, s1, t1, s2, t2, hc, hm, hJ2⟩ := k_moves (l := l) (B := B) hJ (xs (i + 1))
  refine z_aload_n C dL_law_309 2 rfl rfl ?_
  refine z_aload_n C dL_law_310 3 rfl rfl ?_
  refine z_iload_n C dL_law_311 0 rfl rfl ?_
  refine z_iconst C dL_law_312 ki_1 ?_
  refine z_iadd C dL_law_313 ?_
  refine f_topi (y := nI (i + 1)) (nA (a := i) (b := 1) rfl rfl rfl) ?_
  refine z_sld C hX hbl hbB (i := i + 1) (by omega) hL dL_law_314 ?_
  refine l_callV C hl (As := [.int (xs (i + 1))]) (rest := []) hc zb_0 (zg_11 zk_0) rfl (zCB (nA := 1) C rfl rfl tw_457 tw_1 tw_454 (by decide +kernel) ⟨Nat.le_of_ble_eq_true rfl, Nat.le_of_ble_eq_true rfl⟩) tw_455 tw_456 rfl rfl (Nat.le_of_ble_eq_true rfl) dL_law_315 ⟨Nat.le_of_ble_eq_true rfl, Nat.le_of_ble_eq_true rfl⟩ ?_
  refine z_aload_n C dL_law_318 1 rfl rfl ?_
  refine z_aload_n C dL_law_319 3 rfl rfl ?_
  refine z_iload_n C dL_law_320 0 rfl rfl ?_
  refine z_iconst C dL_law_321 ki_1 ?_
  refine z_iadd C dL_law_322 ?_
  refine f_topi (y := nI (i + 1)) (nA (a := i) (b := 1) rfl rfl rfl) ?_
  refine z_sld C hX hbl hbB (i := i + 1) (by omega) hL dL_law_323 ?_
  refine l_callV C hl (As := [.int (xs (i + 1))]) (rest := [.int x]) hm zb_113 (zg_12 zk_113) rfl (zCB (nA := 1) C rfl rfl tw_839 tw_13 tw_836 (by decide +kernel) ⟨Nat.le_of_ble_eq_true rfl, Nat.le_of_ble_eq_true rfl⟩) tw_837 tw_838 rfl rfl (Nat.le_of_ble_eq_true rfl) dL_law_324 ⟨Nat.le_of_ble_eq_true rfl, Nat.le_of_ble_eq_true rfl⟩ ?_
  exact z_icmp_eq C 998 dL_law_327 (by decide) (fun _ => k s2 t2 hJ2) (fun hbr => absurd rfl hbr)
set_option maxRecDepth 100000 in
set_option maxHeartbeats 4000000 in
theorem lc_6 {l : Launch} {X : zX} {B : zB} (hl : X.2.1 = l) (C : zC X B mLaw) {b L : Nat} {xs : Nat → Int32} (hX : va_X b L xs (xS X) (xS X).heap) (hbl : b < (xS X).heap.size) (hbB : b < B.1) (hL : L ≤ 320) {i : Nat} (hi : i + 5 ≤ L) {s : zS} {t : zL} (hJ : jI s t) (k : ∀ s2 t2, jI s2 t2 → lZ X B s2 t2 998 (lLv B b i) []) : lZ X B s t 332 (lLv B b i) [] := by
  obtain ⟨x, s1, t1, s2, t2, hc, hm, hJ2⟩ := k_end (l := l) (B := B) hJ
  refine z_aload_n C dL_law_332 2 rfl rfl ?_
  refine l_callV C hl (As := []) (rest := []) hc zb_0 (zg_11 zk_0) rfl (zCB (nA := 0) C rfl rfl tw_531 tw_1 tw_528 (by decide +kernel) ⟨Nat.le_of_ble_eq_true rfl, Nat.le_of_ble_eq_true rfl⟩) tw_529 tw_530 rfl rfl (Nat.le_of_ble_eq_true rfl) dL_law_333 ⟨Nat.le_of_ble_eq_true rfl, Nat.le_of_ble_eq_true rfl⟩ ?_
  refine z_aload_n C dL_law_336 1 rfl rfl ?_
  refine l_callV C hl (As := []) (rest := [.int x]) hm zb_113 (zg_12 zk_113) rfl (zCB (nA := 0) C rfl rfl tw_885 tw_13 tw_882 (by decide +kernel) ⟨Nat.le_of_ble_eq_true rfl, Nat.le_of_ble_eq_true rfl⟩) tw_883 tw_884 rfl rfl (Nat.le_of_ble_eq_true rfl) dL_law_337 ⟨Nat.le_of_ble_eq_true rfl, Nat.le_of_ble_eq_true rfl⟩ ?_
  exact z_icmp_eq C 998 dL_law_340 (by decide) (fun _ => k s2 t2 hJ2) (fun hbr => absurd rfl hbr)
set_option maxRecDepth 100000 in
set_option maxHeartbeats 4000000 in
theorem lc_7 {l : Launch} {X : zX} {B : zB} (hl : X.2.1 = l) (C : zC X B mLaw) {b L : Nat} {xs : Nat → Int32} (hX : va_X b L xs (xS X) (xS X).heap) (hbl : b < (xS X).heap.size) (hbB : b < B.1) (hL : L ≤ 320) {i : Nat} (hi : i + 5 ≤ L) {s : zS} {t : zL} (hJ : jI s t) (k : ∀ s2 t2, jI s2 t2 → lZ X B s2 t2 998 (lLv B b i) []) : lZ X B s t 345 (lLv B b i) [] := by
  obtain ⟨x, s1, t1, s2, t2, hc, hm, hJ2⟩ := k_buy (l := l) (B := B) hJ (xs (i + 1))
  refine z_aload_n C dL_law_345 2 rfl rfl ?_
  refine z_aload_n C dL_law_346 3 rfl rfl ?_
  refine z_iload_n C dL_law_347 0 rfl rfl ?_
  refine z_iconst C dL_law_348 ki_1 ?_
  refine z_iadd C dL_law_349 ?_
  refine f_topi (y := nI (i + 1)) (nA (a := i) (b := 1) rfl rfl rfl) ?_
  refine z_sld C hX hbl hbB (i := i + 1) (by omega) hL dL_law_350 ?_
  refine l_callV C hl (As := [.int (xs (i + 1))]) (rest := []) hc zb_0 (zg_11 zk_0) rfl (zCB (nA := 1) C rfl rfl tw_535 tw_1 tw_532 (by decide +kernel) ⟨Nat.le_of_ble_eq_true rfl, Nat.le_of_ble_eq_true rfl⟩) tw_533 tw_534 rfl rfl (Nat.le_of_ble_eq_true rfl) dL_law_351 ⟨Nat.le_of_ble_eq_true rfl, Nat.le_of_ble_eq_true rfl⟩ ?_
  refine z_aload_n C dL_law_354 1 rfl rfl ?_
  refine z_aload_n C dL_law_355 3 rfl rfl ?_
  refine z_iload_n C dL_law_356 0 rfl rfl ?_
  refine z_iconst C dL_law_357 ki_1 ?_
  refine z_iadd C dL_law_358 ?_
  refine f_topi (y := nI (i + 1)) (nA (a := i) (b := 1) rfl rfl rfl) ?_
  refine z_sld C hX hbl hbB (i := i + 1) (by omega) hL dL_law_359 ?_
  refine l_callV C hl (As := [.int (xs (i + 1))]) (rest := [.int x]) hm zb_113 (zg_12 zk_113) rfl (zCB (nA := 1) C rfl rfl tw_889 tw_13 tw_886 (by decide +kernel) ⟨Nat.le_of_ble_eq_true rfl, Nat.le_of_ble_eq_true rfl⟩) tw_887 tw_888 rfl rfl (Nat.le_of_ble_eq_true rfl) dL_law_360 ⟨Nat.le_of_ble_eq_true rfl, Nat.le_of_ble_eq_true rfl⟩ ?_
  exact z_icmp_eq C 998 dL_law_363 (by decide) (fun _ => k s2 t2 hJ2) (fun hbr => absurd rfl hbr)
set_option maxRecDepth 100000 in
set_option maxHeartbeats 4000000 in
theorem lc_8 {l : Launch} {X : zX} {B : zB} (hl : X.2.1 = l) (C : zC X B mLaw) {b L : Nat} {xs : Nat → Int32} (hX : va_X b L xs (xS X) (xS X).heap) (hbl : b < (xS X).heap.size) (hbB : b < B.1) (hL : L ≤ 320) {i : Nat} (hi : i + 5 ≤ L) {s : zS} {t : zL} (hJ : jI s t) (k : ∀ s2 t2, jI s2 t2 → lZ X B s2 t2 998 (lLv B b i) []) : lZ X B s t 368 (lLv B b i) [] := by
  obtain ⟨x, s1, t1, s2, t2, hc, hm, hJ2⟩ := k_lock (l := l) (B := B) hJ (xs (i + 1))
  refine z_aload_n C dL_law_368 2 rfl rfl ?_
  refine z_aload_n C dL_law_369 3 rfl rfl ?_
  refine z_iload_n C dL_law_370 0 rfl rfl ?_
  refine z_iconst C dL_law_371 ki_1 ?_
  refine z_iadd C dL_law_372 ?_
  refine f_topi (y := nI (i + 1)) (nA (a := i) (b := 1) rfl rfl rfl) ?_
  refine z_sld C hX hbl hbB (i := i + 1) (by omega) hL dL_law_373 ?_
  refine l_callV C hl (As := [.int (xs (i + 1))]) (rest := []) hc zb_0 (zg_11 zk_0) rfl (zCB (nA := 1) C rfl rfl tw_561 tw_1 tw_558 (by decide +kernel) ⟨Nat.le_of_ble_eq_true rfl, Nat.le_of_ble_eq_true rfl⟩) tw_559 tw_560 rfl rfl (Nat.le_of_ble_eq_true rfl) dL_law_374 ⟨Nat.le_of_ble_eq_true rfl, Nat.le_of_ble_eq_true rfl⟩ ?_
  refine z_aload_n C dL_law_377 1 rfl rfl ?_
  refine z_aload_n C dL_law_378 3 rfl rfl ?_
  refine z_iload_n C dL_law_379 0 rfl rfl ?_
  refine z_iconst C dL_law_380 ki_1 ?_
  refine z_iadd C dL_law_381 ?_
  refine f_topi (y := nI (i + 1)) (nA (a := i) (b := 1) rfl rfl rfl) ?_
  refine z_sld C hX hbl hbB (i := i + 1) (by omega) hL dL_law_382 ?_
  refine l_callV C hl (As := [.int (xs (i + 1))]) (rest := [.int x]) hm zb_113 (zg_12 zk_113) rfl (zCB (nA := 1) C rfl rfl tw_901 tw_13 tw_898 (by decide +kernel) ⟨Nat.le_of_ble_eq_true rfl, Nat.le_of_ble_eq_true rfl⟩) tw_899 tw_900 rfl rfl (Nat.le_of_ble_eq_true rfl) dL_law_383 ⟨Nat.le_of_ble_eq_true rfl, Nat.le_of_ble_eq_true rfl⟩ ?_
  exact z_icmp_eq C 998 dL_law_386 (by decide) (fun _ => k s2 t2 hJ2) (fun hbr => absurd rfl hbr)
set_option maxRecDepth 100000 in
set_option maxHeartbeats 4000000 in
theorem lc_9 {l : Launch} {X : zX} {B : zB} (hl : X.2.1 = l) (C : zC X B mLaw) {b L : Nat} {xs : Nat → Int32} (hX : va_X b L xs (xS X) (xS X).heap) (hbl : b < (xS X).heap.size) (hbB : b < B.1) (hL : L ≤ 320) {i : Nat} (hi : i + 5 ≤ L) {s : zS} {t : zL} (hJ : jI s t) (k : ∀ s2 t2, jI s2 t2 → lZ X B s2 t2 998 (lLv B b i) []) : lZ X B s t 391 (lLv B b i) [] := by
  obtain ⟨x, s1, t1, s2, t2, hc, hm, hJ2⟩ := k_undo (l := l) (B := B) hJ
  refine z_aload_n C dL_law_391 2 rfl rfl ?_
  refine l_callV C hl (As := []) (rest := []) hc zb_0 (zg_11 zk_0) rfl (zCB (nA := 0) C rfl rfl tw_565 tw_1 tw_562 (by decide +kernel) ⟨Nat.le_of_ble_eq_true rfl, Nat.le_of_ble_eq_true rfl⟩) tw_563 tw_564 rfl rfl (Nat.le_of_ble_eq_true rfl) dL_law_392 ⟨Nat.le_of_ble_eq_true rfl, Nat.le_of_ble_eq_true rfl⟩ ?_
  refine z_aload_n C dL_law_395 1 rfl rfl ?_
  refine l_callV C hl (As := []) (rest := [.int x]) hm zb_113 (zg_12 zk_113) rfl (zCB (nA := 0) C rfl rfl tw_905 tw_13 tw_902 (by decide +kernel) ⟨Nat.le_of_ble_eq_true rfl, Nat.le_of_ble_eq_true rfl⟩) tw_903 tw_904 rfl rfl (Nat.le_of_ble_eq_true rfl) dL_law_396 ⟨Nat.le_of_ble_eq_true rfl, Nat.le_of_ble_eq_true rfl⟩ ?_
  exact z_icmp_eq C 998 dL_law_399 (by decide) (fun _ => k s2 t2 hJ2) (fun hbr => absurd rfl hbr)
set_option maxRecDepth 100000 in
set_option maxHeartbeats 4000000 in
theorem lc_10 {l : Launch} {X : zX} {B : zB} (hl : X.2.1 = l) (C : zC X B mLaw) {b L : Nat} {xs : Nat → Int32} (hX : va_X b L xs (xS X) (xS X).heap) (hbl : b < (xS X).heap.size) (hbB : b < B.1) (hL : L ≤ 320) {i : Nat} (hi : i + 5 ≤ L) {s : zS} {t : zL} (hJ : jI s t) (k : ∀ s2 t2, jI s2 t2 → lZ X B s2 t2 998 (lLv B b i) []) : lZ X B s t 404 (lLv B b i) [] := by
  obtain ⟨x, s1, t1, s2, t2, hc, hm, hJ2⟩ := k_of (l := l) (B := B) hJ (xs (i + 1)) (xs (i + 2))
  refine z_aload_n C dL_law_404 2 rfl rfl ?_
  refine z_aload_n C dL_law_405 3 rfl rfl ?_
  refine z_iload_n C dL_law_406 0 rfl rfl ?_
  refine z_iconst C dL_law_407 ki_1 ?_
  refine z_iadd C dL_law_408 ?_
  refine f_topi (y := nI (i + 1)) (nA (a := i) (b := 1) rfl rfl rfl) ?_
  refine z_sld C hX hbl hbB (i := i + 1) (by omega) hL dL_law_409 ?_
  refine z_aload_n C dL_law_410 3 rfl rfl ?_
  refine z_iload_n C dL_law_411 0 rfl rfl ?_
  refine z_iconst C dL_law_412 ki_2 ?_
  refine z_iadd C dL_law_413 ?_
  refine f_topi (y := nI (i + 2)) (nA (a := i) (b := 2) rfl rfl rfl) ?_
  refine z_sld C hX hbl hbB (i := i + 2) (by omega) hL dL_law_414 ?_
  refine l_callV C hl (As := [.int (xs (i + 1)), .int (xs (i + 2))]) (rest := []) hc zb_0 (zg_11 zk_0) rfl (zCB (nA := 2) C rfl rfl tw_573 tw_1 tw_570 (by decide +kernel) ⟨Nat.le_of_ble_eq_true rfl, Nat.le_of_ble_eq_true rfl⟩) tw_571 tw_572 rfl rfl (Nat.le_of_ble_eq_true rfl) dL_law_415 ⟨Nat.le_of_ble_eq_true rfl, Nat.le_of_ble_eq_true rfl⟩ ?_
  refine z_aload_n C dL_law_418 1 rfl rfl ?_
  refine z_aload_n C dL_law_419 3 rfl rfl ?_
  refine z_iload_n C dL_law_420 0 rfl rfl ?_
  refine z_iconst C dL_law_421 ki_1 ?_
  refine z_iadd C dL_law_422 ?_
  refine f_topi (y := nI (i + 1)) (nA (a := i) (b := 1) rfl rfl rfl) ?_
  refine z_sld C hX hbl hbB (i := i + 1) (by omega) hL dL_law_423 ?_
  refine z_aload_n C dL_law_424 3 rfl rfl ?_
  refine z_iload_n C dL_law_425 0 rfl rfl ?_
  refine z_iconst C dL_law_426 ki_2 ?_
  refine z_iadd C dL_law_427 ?_
  refine f_topi (y := nI (i + 2)) (nA (a := i) (b := 2) rfl rfl rfl) ?_
  refine z_sld C hX hbl hbB (i := i + 2) (by omega) hL dL_law_428 ?_
  refine l_callV C hl (As := [.int (xs (i + 1)), .int (xs (i + 2))]) (rest := [.int x]) hm zb_113 (zg_12 zk_113) rfl (zCB (nA := 2) C rfl rfl tw_909 tw_13 tw_906 (by decide +kernel) ⟨Nat.le_of_ble_eq_true rfl, Nat.le_of_ble_eq_true rfl⟩) tw_907 tw_908 rfl rfl (Nat.le_of_ble_eq_true rfl) dL_law_429 ⟨Nat.le_of_ble_eq_true rfl, Nat.le_of_ble_eq_true rfl⟩ ?_
  exact z_icmp_eq C 998 dL_law_432 (by decide) (fun _ => k s2 t2 hJ2) (fun hbr => absurd rfl hbr)
set_option maxRecDepth 100000 in
set_option maxHeartbeats 4000000 in
theorem lc_11 {l : Launch} {X : zX} {B : zB} (hl : X.2.1 = l) (C : zC X B mLaw) {b L : Nat} {xs : Nat → Int32} (hX : va_X b L xs (xS X) (xS X).heap) (hbl : b < (xS X).heap.size) (hbB : b < B.1) (hL : L ≤ 320) {i : Nat} (hi : i + 5 ≤ L) {s : zS} {t : zL} (hJ : jI s t) (k : ∀ s2 t2, jI s2 t2 → lZ X B s2 t2 998 (lLv B b i) []) : lZ X B s t 437 (lLv B b i) [] := by
  obtain ⟨x, s1, t1, s2, t2, hc, hm, hJ2⟩ := k_joy (l := l) (B := B) hJ (xs (i + 1)) (xs (i + 2))
  refine z_aload_n C dL_law_437 2 rfl rfl ?_
  refine z_aload_n C dL_law_438 3 rfl rfl ?_
  refine z_iload_n C dL_law_439 0 rfl rfl ?_
  refine z_iconst C dL_law_440 ki_1 ?_
  refine z_iadd C dL_law_441 ?_
  refine f_topi (y := nI (i + 1)) (nA (a := i) (b := 1) rfl rfl rfl) ?_
  refine z_sld C hX hbl hbB (i := i + 1) (by omega) hL dL_law_442 ?_
  refine z_aload_n C dL_law_443 3 rfl rfl ?_
  refine z_iload_n C dL_law_444 0 rfl rfl ?_
  refine z_iconst C dL_law_445 ki_2 ?_
  refine z_iadd C dL_law_446 ?_
  refine f_topi (y := nI (i + 2)) (nA (a := i) (b := 2) rfl rfl rfl) ?_
  refine z_sld C hX hbl hbB (i := i + 2) (by omega) hL dL_law_447 ?_
  refine l_callV C hl (As := [.int (xs (i + 1)), .int (xs (i + 2))]) (rest := []) hc zb_0 (zg_11 zk_0) rfl (zCB (nA := 2) C rfl rfl tw_580 tw_1 tw_577 (by decide +kernel) ⟨Nat.le_of_ble_eq_true rfl, Nat.le_of_ble_eq_true rfl⟩) tw_578 tw_579 rfl rfl (Nat.le_of_ble_eq_true rfl) dL_law_448 ⟨Nat.le_of_ble_eq_true rfl, Nat.le_of_ble_eq_true rfl⟩ ?_
  refine z_aload_n C dL_law_451 1 rfl rfl ?_
  refine z_aload_n C dL_law_452 3 rfl rfl ?_
  refine z_iload_n C dL_law_453 0 rfl rfl ?_
  refine z_iconst C dL_law_454 ki_1 ?_
  refine z_iadd C dL_law_455 ?_
  refine f_topi (y := nI (i + 1)) (nA (a := i) (b := 1) rfl rfl rfl) ?_
  refine z_sld C hX hbl hbB (i := i + 1) (by omega) hL dL_law_456 ?_
  refine z_aload_n C dL_law_457 3 rfl rfl ?_
  refine z_iload_n C dL_law_458 0 rfl rfl ?_
  refine z_iconst C dL_law_459 ki_2 ?_
  refine z_iadd C dL_law_460 ?_
  refine f_topi (y := nI (i + 2)) (nA (a := i) (b := 2) rfl rfl rfl) ?_
  refine z_sld C hX hbl hbB (i := i + 2) (by omega) hL dL_law_461 ?_
  refine l_callV C hl (As := [.int (xs (i + 1)), .int (xs (i + 2))]) (rest := [.int x]) hm zb_113 (zg_12 zk_113) rfl (zCB (nA := 2) C rfl rfl tw_914 tw_13 tw_911 (by decide +kernel) ⟨Nat.le_of_ble_eq_true rfl, Nat.le_of_ble_eq_true rfl⟩) tw_912 tw_913 rfl rfl (Nat.le_of_ble_eq_true rfl) dL_law_462 ⟨Nat.le_of_ble_eq_true rfl, Nat.le_of_ble_eq_true rfl⟩ ?_
  exact z_icmp_eq C 998 dL_law_465 (by decide) (fun _ => k s2 t2 hJ2) (fun hbr => absurd rfl hbr)
set_option maxRecDepth 100000 in
set_option maxHeartbeats 4000000 in
theorem lc_12 {l : Launch} {X : zX} {B : zB} (hl : X.2.1 = l) (C : zC X B mLaw) {b L : Nat} {xs : Nat → Int32} (hX : va_X b L xs (xS X) (xS X).heap) (hbl : b < (xS X).heap.size) (hbB : b < B.1) (hL : L ≤ 320) {i : Nat} (hi : i + 5 ≤ L) {s : zS} {t : zL} (hJ : jI s t) (k : ∀ s2 t2, jI s2 t2 → lZ X B s2 t2 998 (lLv B b i) []) : lZ X B s t 470 (lLv B b i) [] := by
  obtain ⟨x, s1, t1, s2, t2, hc, hm, hJ2⟩ := k_acts (l := l) (B := B) hJ (xs (i + 1))
  refine z_aload_n C dL_law_470 2 rfl rfl ?_
  refine z_aload_n C dL_law_471 3 rfl rfl ?_
  refine z_iload_n C dL_law_472 0 rfl rfl ?_
  refine z_iconst C dL_law_473 ki_1 ?_
  refine z_iadd C dL_law_474 ?_
  refine f_topi (y := nI (i + 1)) (nA (a := i) (b := 1) rfl rfl rfl) ?_
  refine z_sld C hX hbl hbB (i := i + 1) (by omega) hL dL_law_475 ?_
  refine l_callV C hl (As := [.int (xs (i + 1))]) (rest := []) hc zb_0 (zg_11 zk_0) rfl (zCB (nA := 1) C rfl rfl tw_588 tw_1 tw_585 (by decide +kernel) ⟨Nat.le_of_ble_eq_true rfl, Nat.le_of_ble_eq_true rfl⟩) tw_586 tw_587 rfl rfl (Nat.le_of_ble_eq_true rfl) dL_law_476 ⟨Nat.le_of_ble_eq_true rfl, Nat.le_of_ble_eq_true rfl⟩ ?_
  refine z_aload_n C dL_law_479 1 rfl rfl ?_
  refine z_aload_n C dL_law_480 3 rfl rfl ?_
  refine z_iload_n C dL_law_481 0 rfl rfl ?_
  refine z_iconst C dL_law_482 ki_1 ?_
  refine z_iadd C dL_law_483 ?_
  refine f_topi (y := nI (i + 1)) (nA (a := i) (b := 1) rfl rfl rfl) ?_
  refine z_sld C hX hbl hbB (i := i + 1) (by omega) hL dL_law_484 ?_
  refine l_callV C hl (As := [.int (xs (i + 1))]) (rest := [.int x]) hm zb_113 (zg_12 zk_113) rfl (zCB (nA := 1) C rfl rfl tw_918 tw_13 tw_915 (by decide +kernel) ⟨Nat.le_of_ble_eq_true rfl, Nat.le_of_ble_eq_true rfl⟩) tw_916 tw_917 rfl rfl (Nat.le_of_ble_eq_true rfl) dL_law_485 ⟨Nat.le_of_ble_eq_true rfl, Nat.le_of_ble_eq_true rfl⟩ ?_
  exact z_icmp_eq C 998 dL_law_488 (by decide) (fun _ => k s2 t2 hJ2) (fun hbr => absurd rfl hbr)
set_option maxRecDepth 100000 in
set_option maxHeartbeats 4000000 in
theorem lc_13 {l : Launch} {X : zX} {B : zB} (hl : X.2.1 = l) (C : zC X B mLaw) {b L : Nat} {xs : Nat → Int32} (hX : va_X b L xs (xS X) (xS X).heap) (hbl : b < (xS X).heap.size) (hbB : b < B.1) (hL : L ≤ 320) {i : Nat} (hi : i + 5 ≤ L) {s : zS} {t : zL} (hJ : jI s t) (k : ∀ s2 t2, jI s2 t2 → lZ X B s2 t2 998 (lLv B b i) []) : lZ X B s t 493 (lLv B b i) [] := by
  obtain ⟨x, s1, t1, s2, t2, hc, hm, hJ2⟩ := k_stops (l := l) (B := B) hJ (xs (i + 1))
  refine z_aload_n C dL_law_493 2 rfl rfl ?_
  refine z_aload_n C dL_law_494 3 rfl rfl ?_
  refine z_iload_n C dL_law_495 0 rfl rfl ?_
  refine z_iconst C dL_law_496 ki_1 ?_
  refine z_iadd C dL_law_497 ?_
  refine f_topi (y := nI (i + 1)) (nA (a := i) (b := 1) rfl rfl rfl) ?_
  refine z_sld C hX hbl hbB (i := i + 1) (by omega) hL dL_law_498 ?_
  refine l_callV C hl (As := [.int (xs (i + 1))]) (rest := []) hc zb_0 (zg_11 zk_0) rfl (zCB (nA := 1) C rfl rfl tw_592 tw_1 tw_589 (by decide +kernel) ⟨Nat.le_of_ble_eq_true rfl, Nat.le_of_ble_eq_true rfl⟩) tw_590 tw_591 rfl rfl (Nat.le_of_ble_eq_true rfl) dL_law_499 ⟨Nat.le_of_ble_eq_true rfl, Nat.le_of_ble_eq_true rfl⟩ ?_
  refine z_aload_n C dL_law_502 1 rfl rfl ?_
  refine z_aload_n C dL_law_503 3 rfl rfl ?_
  refine z_iload_n C dL_law_504 0 rfl rfl ?_
  refine z_iconst C dL_law_505 ki_1 ?_
  refine z_iadd C dL_law_506 ?_
  refine f_topi (y := nI (i + 1)) (nA (a := i) (b := 1) rfl rfl rfl) ?_
  refine z_sld C hX hbl hbB (i := i + 1) (by omega) hL dL_law_507 ?_
  refine l_callV C hl (As := [.int (xs (i + 1))]) (rest := [.int x]) hm zb_113 (zg_12 zk_113) rfl (zCB (nA := 1) C rfl rfl tw_922 tw_13 tw_919 (by decide +kernel) ⟨Nat.le_of_ble_eq_true rfl, Nat.le_of_ble_eq_true rfl⟩) tw_920 tw_921 rfl rfl (Nat.le_of_ble_eq_true rfl) dL_law_508 ⟨Nat.le_of_ble_eq_true rfl, Nat.le_of_ble_eq_true rfl⟩ ?_
  exact z_icmp_eq C 998 dL_law_511 (by decide) (fun _ => k s2 t2 hJ2) (fun hbr => absurd rfl hbr)
set_option maxRecDepth 100000 in
set_option maxHeartbeats 4000000 in
theorem lc_14 {l : Launch} {X : zX} {B : zB} (hl : X.2.1 = l) (C : zC X B mLaw) {b L : Nat} {xs : Nat → Int32} (hX : va_X b L xs (xS X) (xS X).heap) (hbl : b < (xS X).heap.size) (hbB : b < B.1) (hL : L ≤ 320) {i : Nat} (hi : i + 5 ≤ L) {s : zS} {t : zL} (hJ : jI s t) (k : ∀ s2 t2, jI s2 t2 → lZ X B s2 t2 998 (lLv B b i) []) : lZ X B s t 516 (lLv B b i) [] := by
  obtain ⟨x, s1, t1, s2, t2, hc, hm, hJ2⟩ := k_most (l := l) (B := B) hJ
  refine z_aload_n C dL_law_516 2 rfl rfl ?_
  refine l_callV C hl (As := []) (rest := []) hc zb_0 (zg_11 zk_0) rfl (zCB (nA := 0) C rfl rfl tw_596 tw_1 tw_593 (by decide +kernel) ⟨Nat.le_of_ble_eq_true rfl, Nat.le_of_ble_eq_true rfl⟩) tw_594 tw_595 rfl rfl (Nat.le_of_ble_eq_true rfl) dL_law_517 ⟨Nat.le_of_ble_eq_true rfl, Nat.le_of_ble_eq_true rfl⟩ ?_
  refine z_aload_n C dL_law_520 1 rfl rfl ?_
  refine l_callV C hl (As := []) (rest := [.int x]) hm zb_113 (zg_12 zk_113) rfl (zCB (nA := 0) C rfl rfl tw_926 tw_13 tw_923 (by decide +kernel) ⟨Nat.le_of_ble_eq_true rfl, Nat.le_of_ble_eq_true rfl⟩) tw_924 tw_925 rfl rfl (Nat.le_of_ble_eq_true rfl) dL_law_521 ⟨Nat.le_of_ble_eq_true rfl, Nat.le_of_ble_eq_true rfl⟩ ?_
  exact z_icmp_eq C 998 dL_law_524 (by decide) (fun _ => k s2 t2 hJ2) (fun hbr => absurd rfl hbr)
set_option maxRecDepth 100000 in
set_option maxHeartbeats 4000000 in
theorem lc_15 {l : Launch} {X : zX} {B : zB} (hl : X.2.1 = l) (C : zC X B mLaw) {b L : Nat} {xs : Nat → Int32} (hX : va_X b L xs (xS X) (xS X).heap) (hbl : b < (xS X).heap.size) (hbB : b < B.1) (hL : L ≤ 320) {i : Nat} (hi : i + 5 ≤ L) {s : zS} {t : zL} (hJ : jI s t) (k : ∀ s2 t2, jI s2 t2 → lZ X B s2 t2 998 (lLv B b i) []) : lZ X B s t 529 (lLv B b i) [] := by
  obtain ⟨x, s1, t1, s2, t2, hc, hm, hJ2⟩ := k_money (l := l) (B := B) hJ (xs (i + 1)) (xs (i + 2))
  refine z_aload_n C dL_law_529 2 rfl rfl ?_
  refine z_aload_n C dL_law_530 3 rfl rfl ?_
  refine z_iload_n C dL_law_531 0 rfl rfl ?_
  refine z_iconst C dL_law_532 ki_1 ?_
  refine z_iadd C dL_law_533 ?_
  refine f_topi (y := nI (i + 1)) (nA (a := i) (b := 1) rfl rfl rfl) ?_
  refine z_sld C hX hbl hbB (i := i + 1) (by omega) hL dL_law_534 ?_
  refine z_aload_n C dL_law_535 3 rfl rfl ?_
  refine z_iload_n C dL_law_536 0 rfl rfl ?_
  refine z_iconst C dL_law_537 ki_2 ?_
  refine z_iadd C dL_law_538 ?_
  refine f_topi (y := nI (i + 2)) (nA (a := i) (b := 2) rfl rfl rfl) ?_
  refine z_sld C hX hbl hbB (i := i + 2) (by omega) hL dL_law_539 ?_
  refine l_callV C hl (As := [.int (xs (i + 1)), .int (xs (i + 2))]) (rest := []) hc zb_0 (zg_11 zk_0) rfl (zCB (nA := 2) C rfl rfl tw_608 tw_1 tw_605 (by decide +kernel) ⟨Nat.le_of_ble_eq_true rfl, Nat.le_of_ble_eq_true rfl⟩) tw_606 tw_607 rfl rfl (Nat.le_of_ble_eq_true rfl) dL_law_540 ⟨Nat.le_of_ble_eq_true rfl, Nat.le_of_ble_eq_true rfl⟩ ?_
  refine z_aload_n C dL_law_543 1 rfl rfl ?_
  refine z_aload_n C dL_law_544 3 rfl rfl ?_
  refine z_iload_n C dL_law_545 0 rfl rfl ?_
  refine z_iconst C dL_law_546 ki_1 ?_
  refine z_iadd C dL_law_547 ?_
  refine f_topi (y := nI (i + 1)) (nA (a := i) (b := 1) rfl rfl rfl) ?_
  refine z_sld C hX hbl hbB (i := i + 1) (by omega) hL dL_law_548 ?_
  refine z_aload_n C dL_law_549 3 rfl rfl ?_
  refine z_iload_n C dL_law_550 0 rfl rfl ?_
  refine z_iconst C dL_law_551 ki_2 ?_
  refine z_iadd C dL_law_552 ?_
  refine f_topi (y := nI (i + 2)) (nA (a := i) (b := 2) rfl rfl rfl) ?_
  refine z_sld C hX hbl hbB (i := i + 2) (by omega) hL dL_law_553 ?_
  refine l_callV C hl (As := [.int (xs (i + 1)), .int (xs (i + 2))]) (rest := [.int x]) hm zb_113 (zg_12 zk_113) rfl (zCB (nA := 2) C rfl rfl tw_934 tw_13 tw_931 (by decide +kernel) ⟨Nat.le_of_ble_eq_true rfl, Nat.le_of_ble_eq_true rfl⟩) tw_932 tw_933 rfl rfl (Nat.le_of_ble_eq_true rfl) dL_law_554 ⟨Nat.le_of_ble_eq_true rfl, Nat.le_of_ble_eq_true rfl⟩ ?_
  exact z_icmp_eq C 998 dL_law_557 (by decide) (fun _ => k s2 t2 hJ2) (fun hbr => absurd rfl hbr)
set_option maxRecDepth 100000 in
set_option maxHeartbeats 4000000 in
theorem lc_16 {l : Launch} {X : zX} {B : zB} (hl : X.2.1 = l) (C : zC X B mLaw) {b L : Nat} {xs : Nat → Int32} (hX : va_X b L xs (xS X) (xS X).heap) (hbl : b < (xS X).heap.size) (hbB : b < B.1) (hL : L ≤ 320) {i : Nat} (hi : i + 5 ≤ L) {s : zS} {t : zL} (hJ : jI s t) (k : ∀ s2 t2, jI s2 t2 → lZ X B s2 t2 998 (lLv B b i) []) : lZ X B s t 562 (lLv B b i) [] := by
  obtain ⟨x, s1, t1, s2, t2, hc, hm, hJ2⟩ := k_tied (l := l) (B := B) hJ (xs (i + 1))
  refine z_aload_n C dL_law_562 2 rfl rfl ?_
  refine z_aload_n C dL_law_563 3 rfl rfl ?_
  refine z_iload_n C dL_law_564 0 rfl rfl ?_
  refine z_iconst C dL_law_565 ki_1 ?_
  refine z_iadd C dL_law_566 ?_
  refine f_topi (y := nI (i + 1)) (nA (a := i) (b := 1) rfl rfl rfl) ?_
  refine z_sld C hX hbl hbB (i := i + 1) (by omega) hL dL_law_567 ?_
  refine l_callV C hl (As := [.int (xs (i + 1))]) (rest := []) hc zb_0 (zg_11 zk_0) rfl (zCB (nA := 1) C rfl rfl tw_612 tw_1 tw_609 (by decide +kernel) ⟨Nat.le_of_ble_eq_true rfl, Nat.le_of_ble_eq_true rfl⟩) tw_610 tw_611 rfl rfl (Nat.le_of_ble_eq_true rfl) dL_law_568 ⟨Nat.le_of_ble_eq_true rfl, Nat.le_of_ble_eq_true rfl⟩ ?_
  refine z_aload_n C dL_law_571 1 rfl rfl ?_
  refine z_aload_n C dL_law_572 3 rfl rfl ?_
  refine z_iload_n C dL_law_573 0 rfl rfl ?_
  refine z_iconst C dL_law_574 ki_1 ?_
  refine z_iadd C dL_law_575 ?_
  refine f_topi (y := nI (i + 1)) (nA (a := i) (b := 1) rfl rfl rfl) ?_
  refine z_sld C hX hbl hbB (i := i + 1) (by omega) hL dL_law_576 ?_
  refine l_callV C hl (As := [.int (xs (i + 1))]) (rest := [.int x]) hm zb_113 (zg_12 zk_113) rfl (zCB (nA := 1) C rfl rfl tw_944 tw_13 tw_941 (by decide +kernel) ⟨Nat.le_of_ble_eq_true rfl, Nat.le_of_ble_eq_true rfl⟩) tw_942 tw_943 rfl rfl (Nat.le_of_ble_eq_true rfl) dL_law_577 ⟨Nat.le_of_ble_eq_true rfl, Nat.le_of_ble_eq_true rfl⟩ ?_
  exact z_icmp_eq C 998 dL_law_580 (by decide) (fun _ => k s2 t2 hJ2) (fun hbr => absurd rfl hbr)
set_option maxRecDepth 100000 in
set_option maxHeartbeats 4000000 in
theorem lc_17 {l : Launch} {X : zX} {B : zB} (hl : X.2.1 = l) (C : zC X B mLaw) {b L : Nat} {xs : Nat → Int32} (hX : va_X b L xs (xS X) (xS X).heap) (hbl : b < (xS X).heap.size) (hbB : b < B.1) (hL : L ≤ 320) {i : Nat} (hi : i + 5 ≤ L) {s : zS} {t : zL} (hJ : jI s t) (k : ∀ s2 t2, jI s2 t2 → lZ X B s2 t2 998 (lLv B b i) []) : lZ X B s t 585 (lLv B b i) [] := by
  obtain ⟨x, s1, t1, s2, t2, hc, hm, hJ2⟩ := k_alone (l := l) (B := B) hJ
  refine z_aload_n C dL_law_585 2 rfl rfl ?_
  refine l_callV C hl (As := []) (rest := []) hc zb_0 (zg_11 zk_0) rfl (zCB (nA := 0) C rfl rfl tw_616 tw_1 tw_613 (by decide +kernel) ⟨Nat.le_of_ble_eq_true rfl, Nat.le_of_ble_eq_true rfl⟩) tw_614 tw_615 rfl rfl (Nat.le_of_ble_eq_true rfl) dL_law_586 ⟨Nat.le_of_ble_eq_true rfl, Nat.le_of_ble_eq_true rfl⟩ ?_
  refine z_aload_n C dL_law_589 1 rfl rfl ?_
  refine l_callV C hl (As := []) (rest := [.int x]) hm zb_113 (zg_12 zk_113) rfl (zCB (nA := 0) C rfl rfl tw_948 tw_13 tw_945 (by decide +kernel) ⟨Nat.le_of_ble_eq_true rfl, Nat.le_of_ble_eq_true rfl⟩) tw_946 tw_947 rfl rfl (Nat.le_of_ble_eq_true rfl) dL_law_590 ⟨Nat.le_of_ble_eq_true rfl, Nat.le_of_ble_eq_true rfl⟩ ?_
  exact z_icmp_eq C 998 dL_law_593 (by decide) (fun _ => k s2 t2 hJ2) (fun hbr => absurd rfl hbr)
set_option maxRecDepth 100000 in
set_option maxHeartbeats 4000000 in
theorem lc_18 {l : Launch} {X : zX} {B : zB} (hl : X.2.1 = l) (C : zC X B mLaw) {b L : Nat} {xs : Nat → Int32} (hX : va_X b L xs (xS X) (xS X).heap) (hbl : b < (xS X).heap.size) (hbB : b < B.1) (hL : L ≤ 320) {i : Nat} (hi : i + 5 ≤ L) {s : zS} {t : zL} (hJ : jI s t) (k : ∀ s2 t2, jI s2 t2 → lZ X B s2 t2 998 (lLv B b i) []) : lZ X B s t 598 (lLv B b i) [] := by
  obtain ⟨x, s1, t1, s2, t2, hc, hm, hJ2⟩ := k_league (l := l) (B := B) hJ
  refine z_aload_n C dL_law_598 2 rfl rfl ?_
  refine l_callV C hl (As := []) (rest := []) hc zb_0 (zg_11 zk_0) rfl (zCB (nA := 0) C rfl rfl tw_620 tw_1 tw_617 (by decide +kernel) ⟨Nat.le_of_ble_eq_true rfl, Nat.le_of_ble_eq_true rfl⟩) tw_618 tw_619 rfl rfl (Nat.le_of_ble_eq_true rfl) dL_law_599 ⟨Nat.le_of_ble_eq_true rfl, Nat.le_of_ble_eq_true rfl⟩ ?_
  refine z_aload_n C dL_law_602 1 rfl rfl ?_
  refine l_callV C hl (As := []) (rest := [.int x]) hm zb_113 (zg_12 zk_113) rfl (zCB (nA := 0) C rfl rfl tw_952 tw_13 tw_949 (by decide +kernel) ⟨Nat.le_of_ble_eq_true rfl, Nat.le_of_ble_eq_true rfl⟩) tw_950 tw_951 rfl rfl (Nat.le_of_ble_eq_true rfl) dL_law_603 ⟨Nat.le_of_ble_eq_true rfl, Nat.le_of_ble_eq_true rfl⟩ ?_
  exact z_icmp_eq C 998 dL_law_606 (by decide) (fun _ => k s2 t2 hJ2) (fun hbr => absurd rfl hbr)
set_option maxRecDepth 100000 in
set_option maxHeartbeats 4000000 in
theorem lc_19 {l : Launch} {X : zX} {B : zB} (hl : X.2.1 = l) (C : zC X B mLaw) {b L : Nat} {xs : Nat → Int32} (hX : va_X b L xs (xS X) (xS X).heap) (hbl : b < (xS X).heap.size) (hbB : b < B.1) (hL : L ≤ 320) {i : Nat} (hi : i + 5 ≤ L) {s : zS} {t : zL} (hJ : jI s t) (k : ∀ s2 t2, jI s2 t2 → lZ X B s2 t2 998 (lLv B b i) []) : lZ X B s t 611 (lLv B b i) [] := by
  obtain ⟨x, s1, t1, s2, t2, hc, hm, hJ2⟩ := k_courts (l := l) (B := B) hJ (xs (i + 1))
  refine z_aload_n C dL_law_611 2 rfl rfl ?_
  refine z_aload_n C dL_law_612 3 rfl rfl ?_
  refine z_iload_n C dL_law_613 0 rfl rfl ?_
  refine z_iconst C dL_law_614 ki_1 ?_
  refine z_iadd C dL_law_615 ?_
  refine f_topi (y := nI (i + 1)) (nA (a := i) (b := 1) rfl rfl rfl) ?_
  refine z_sld C hX hbl hbB (i := i + 1) (by omega) hL dL_law_616 ?_
  refine l_callV C hl (As := [.int (xs (i + 1))]) (rest := []) hc zb_0 (zg_11 zk_0) rfl (zCB (nA := 1) C rfl rfl tw_628 tw_1 tw_625 (by decide +kernel) ⟨Nat.le_of_ble_eq_true rfl, Nat.le_of_ble_eq_true rfl⟩) tw_626 tw_627 rfl rfl (Nat.le_of_ble_eq_true rfl) dL_law_617 ⟨Nat.le_of_ble_eq_true rfl, Nat.le_of_ble_eq_true rfl⟩ ?_
  refine z_aload_n C dL_law_620 1 rfl rfl ?_
  refine z_aload_n C dL_law_621 3 rfl rfl ?_
  refine z_iload_n C dL_law_622 0 rfl rfl ?_
  refine z_iconst C dL_law_623 ki_1 ?_
  refine z_iadd C dL_law_624 ?_
  refine f_topi (y := nI (i + 1)) (nA (a := i) (b := 1) rfl rfl rfl) ?_
  refine z_sld C hX hbl hbB (i := i + 1) (by omega) hL dL_law_625 ?_
  refine l_callV C hl (As := [.int (xs (i + 1))]) (rest := [.int x]) hm zb_113 (zg_12 zk_113) rfl (zCB (nA := 1) C rfl rfl tw_956 tw_13 tw_953 (by decide +kernel) ⟨Nat.le_of_ble_eq_true rfl, Nat.le_of_ble_eq_true rfl⟩) tw_954 tw_955 rfl rfl (Nat.le_of_ble_eq_true rfl) dL_law_626 ⟨Nat.le_of_ble_eq_true rfl, Nat.le_of_ble_eq_true rfl⟩ ?_
  exact z_icmp_eq C 998 dL_law_629 (by decide) (fun _ => k s2 t2 hJ2) (fun hbr => absurd rfl hbr)
set_option maxRecDepth 100000 in
set_option maxHeartbeats 4000000 in
theorem lc_20 {l : Launch} {X : zX} {B : zB} (hl : X.2.1 = l) (C : zC X B mLaw) {b L : Nat} {xs : Nat → Int32} (hX : va_X b L xs (xS X) (xS X).heap) (hbl : b < (xS X).heap.size) (hbB : b < B.1) (hL : L ≤ 320) {i : Nat} (hi : i + 5 ≤ L) {s : zS} {t : zL} (hJ : jI s t) (k : ∀ s2 t2, jI s2 t2 → lZ X B s2 t2 998 (lLv B b i) []) : lZ X B s t 634 (lLv B b i) [] := by
  obtain ⟨x, s1, t1, s2, t2, hc, hm, hJ2⟩ := k_gone (l := l) (B := B) hJ (xs (i + 1))
  refine z_aload_n C dL_law_634 2 rfl rfl ?_
  refine z_aload_n C dL_law_635 3 rfl rfl ?_
  refine z_iload_n C dL_law_636 0 rfl rfl ?_
  refine z_iconst C dL_law_637 ki_1 ?_
  refine z_iadd C dL_law_638 ?_
  refine f_topi (y := nI (i + 1)) (nA (a := i) (b := 1) rfl rfl rfl) ?_
  refine z_sld C hX hbl hbB (i := i + 1) (by omega) hL dL_law_639 ?_
  refine l_callV C hl (As := [.int (xs (i + 1))]) (rest := []) hc zb_0 (zg_11 zk_0) rfl (zCB (nA := 1) C rfl rfl tw_640 tw_1 tw_637 (by decide +kernel) ⟨Nat.le_of_ble_eq_true rfl, Nat.le_of_ble_eq_true rfl⟩) tw_638 tw_639 rfl rfl (Nat.le_of_ble_eq_true rfl) dL_law_640 ⟨Nat.le_of_ble_eq_true rfl, Nat.le_of_ble_eq_true rfl⟩ ?_
  refine z_aload_n C dL_law_643 1 rfl rfl ?_
  refine z_aload_n C dL_law_644 3 rfl rfl ?_
  refine z_iload_n C dL_law_645 0 rfl rfl ?_
  refine z_iconst C dL_law_646 ki_1 ?_
  refine z_iadd C dL_law_647 ?_
  refine f_topi (y := nI (i + 1)) (nA (a := i) (b := 1) rfl rfl rfl) ?_
  refine z_sld C hX hbl hbB (i := i + 1) (by omega) hL dL_law_648 ?_
  refine l_callV C hl (As := [.int (xs (i + 1))]) (rest := [.int x]) hm zb_113 (zg_12 zk_113) rfl (zCB (nA := 1) C rfl rfl tw_964 tw_13 tw_961 (by decide +kernel) ⟨Nat.le_of_ble_eq_true rfl, Nat.le_of_ble_eq_true rfl⟩) tw_962 tw_963 rfl rfl (Nat.le_of_ble_eq_true rfl) dL_law_649 ⟨Nat.le_of_ble_eq_true rfl, Nat.le_of_ble_eq_true rfl⟩ ?_
  exact z_icmp_eq C 998 dL_law_652 (by decide) (fun _ => k s2 t2 hJ2) (fun hbr => absurd rfl hbr)
set_option maxRecDepth 100000 in
set_option maxHeartbeats 4000000 in
theorem lc_21 {l : Launch} {X : zX} {B : zB} (hl : X.2.1 = l) (C : zC X B mLaw) {b L : Nat} {xs : Nat → Int32} (hX : va_X b L xs (xS X) (xS X).heap) (hbl : b < (xS X).heap.size) (hbB : b < B.1) (hL : L ≤ 320) {i : Nat} (hi : i + 5 ≤ L) {s : zS} {t : zL} (hJ : jI s t) (k : ∀ s2 t2, jI s2 t2 → lZ X B s2 t2 998 (lLv B b i) []) : lZ X B s t 657 (lLv B b i) [] := by
  obtain ⟨x, s1, t1, s2, t2, hc, hm, hJ2⟩ := k_note (l := l) (B := B) hJ (xs (i + 1)) (xs (i + 2)) (xs (i + 3)) (xs (i + 4))
  refine z_aload_n C dL_law_657 2 rfl rfl ?_
  refine z_aload_n C dL_law_658 3 rfl rfl ?_
  refine z_iload_n C dL_law_659 0 rfl rfl ?_
  refine z_iconst C dL_law_660 ki_1 ?_
  refine z_iadd C dL_law_661 ?_
  refine f_topi (y := nI (i + 1)) (nA (a := i) (b := 1) rfl rfl rfl) ?_
  refine z_sld C hX hbl hbB (i := i + 1) (by omega) hL dL_law_662 ?_
  refine z_aload_n C dL_law_663 3 rfl rfl ?_
  refine z_iload_n C dL_law_664 0 rfl rfl ?_
  refine z_iconst C dL_law_665 ki_2 ?_
  refine z_iadd C dL_law_666 ?_
  refine f_topi (y := nI (i + 2)) (nA (a := i) (b := 2) rfl rfl rfl) ?_
  refine z_sld C hX hbl hbB (i := i + 2) (by omega) hL dL_law_667 ?_
  refine z_aload_n C dL_law_668 3 rfl rfl ?_
  refine z_iload_n C dL_law_669 0 rfl rfl ?_
  refine z_iconst C dL_law_670 ki_3 ?_
  refine z_iadd C dL_law_671 ?_
  refine f_topi (y := nI (i + 3)) (nA (a := i) (b := 3) rfl rfl rfl) ?_
  refine z_sld C hX hbl hbB (i := i + 3) (by omega) hL dL_law_672 ?_
  refine z_aload_n C dL_law_673 3 rfl rfl ?_
  refine z_iload_n C dL_law_674 0 rfl rfl ?_
  refine z_iconst C dL_law_675 ki_4 ?_
  refine z_iadd C dL_law_676 ?_
  refine f_topi (y := nI (i + 4)) (nA (a := i) (b := 4) rfl rfl rfl) ?_
  refine z_sld C hX hbl hbB (i := i + 4) (by omega) hL dL_law_677 ?_
  refine l_callV C hl (As := [.int (xs (i + 1)), .int (xs (i + 2)), .int (xs (i + 3)), .int (xs (i + 4))]) (rest := []) hc zb_0 (zg_11 zk_0) rfl (zCB (nA := 4) C rfl rfl tw_644 tw_1 tw_641 (by decide +kernel) ⟨Nat.le_of_ble_eq_true rfl, Nat.le_of_ble_eq_true rfl⟩) tw_642 tw_643 rfl rfl (Nat.le_of_ble_eq_true rfl) dL_law_678 ⟨Nat.le_of_ble_eq_true rfl, Nat.le_of_ble_eq_true rfl⟩ ?_
  refine z_aload_n C dL_law_681 1 rfl rfl ?_
  refine z_aload_n C dL_law_682 3 rfl rfl ?_
  refine z_iload_n C dL_law_683 0 rfl rfl ?_
  refine z_iconst C dL_law_684 ki_1 ?_
  refine z_iadd C dL_law_685 ?_
  refine f_topi (y := nI (i + 1)) (nA (a := i) (b := 1) rfl rfl rfl) ?_
  refine z_sld C hX hbl hbB (i := i + 1) (by omega) hL dL_law_686 ?_
  refine z_aload_n C dL_law_687 3 rfl rfl ?_
  refine z_iload_n C dL_law_688 0 rfl rfl ?_
  refine z_iconst C dL_law_689 ki_2 ?_
  refine z_iadd C dL_law_690 ?_
  refine f_topi (y := nI (i + 2)) (nA (a := i) (b := 2) rfl rfl rfl) ?_
  refine z_sld C hX hbl hbB (i := i + 2) (by omega) hL dL_law_691 ?_
  refine z_aload_n C dL_law_692 3 rfl rfl ?_
  refine z_iload_n C dL_law_693 0 rfl rfl ?_
  refine z_iconst C dL_law_694 ki_3 ?_
  refine z_iadd C dL_law_695 ?_
  refine f_topi (y := nI (i + 3)) (nA (a := i) (b := 3) rfl rfl rfl) ?_
  refine z_sld C hX hbl hbB (i := i + 3) (by omega) hL dL_law_696 ?_
  refine z_aload_n C dL_law_697 3 rfl rfl ?_
  refine z_iload_n C dL_law_698 0 rfl rfl ?_
  refine z_iconst C dL_law_699 ki_4 ?_
  refine z_iadd C dL_law_700 ?_
  refine f_topi (y := nI (i + 4)) (nA (a := i) (b := 4) rfl rfl rfl) ?_
  refine z_sld C hX hbl hbB (i := i + 4) (by omega) hL dL_law_701 ?_
  refine l_callV C hl (As := [.int (xs (i + 1)), .int (xs (i + 2)), .int (xs (i + 3)), .int (xs (i + 4))]) (rest := [.int x]) hm zb_113 (zg_12 zk_113) rfl (zCB (nA := 4) C rfl rfl tw_968 tw_13 tw_965 (by decide +kernel) ⟨Nat.le_of_ble_eq_true rfl, Nat.le_of_ble_eq_true rfl⟩) tw_966 tw_967 rfl rfl (Nat.le_of_ble_eq_true rfl) dL_law_702 ⟨Nat.le_of_ble_eq_true rfl, Nat.le_of_ble_eq_true rfl⟩ ?_
  exact z_icmp_eq C 998 dL_law_705 (by decide) (fun _ => k s2 t2 hJ2) (fun hbr => absurd rfl hbr)
set_option maxRecDepth 100000 in
set_option maxHeartbeats 4000000 in
theorem lc_22 {l : Launch} {X : zX} {B : zB} (hl : X.2.1 = l) (C : zC X B mLaw) {b L : Nat} {xs : Nat → Int32} (hX : va_X b L xs (xS X) (xS X).heap) (hbl : b < (xS X).heap.size) (hbB : b < B.1) (hL : L ≤ 320) {i : Nat} (hi : i + 5 ≤ L) {s : zS} {t : zL} (hJ : jI s t) (k : ∀ s2 t2, jI s2 t2 → lZ X B s2 t2 998 (lLv B b i) []) : lZ X B s t 710 (lLv B b i) [] := by
  obtain ⟨x, s1, t1, s2, t2, hc, hm, hJ2⟩ := k_forget (l := l) (B := B) hJ
  refine z_aload_n C dL_law_710 2 rfl rfl ?_
  refine l_callV C hl (As := []) (rest := []) hc zb_0 (zg_11 zk_0) rfl (zCB (nA := 0) C rfl rfl tw_652 tw_1 tw_649 (by decide +kernel) ⟨Nat.le_of_ble_eq_true rfl, Nat.le_of_ble_eq_true rfl⟩) tw_650 tw_651 rfl rfl (Nat.le_of_ble_eq_true rfl) dL_law_711 ⟨Nat.le_of_ble_eq_true rfl, Nat.le_of_ble_eq_true rfl⟩ ?_
  refine z_aload_n C dL_law_714 1 rfl rfl ?_
  refine l_callV C hl (As := []) (rest := [.int x]) hm zb_113 (zg_12 zk_113) rfl (zCB (nA := 0) C rfl rfl tw_972 tw_13 tw_969 (by decide +kernel) ⟨Nat.le_of_ble_eq_true rfl, Nat.le_of_ble_eq_true rfl⟩) tw_970 tw_971 rfl rfl (Nat.le_of_ble_eq_true rfl) dL_law_715 ⟨Nat.le_of_ble_eq_true rfl, Nat.le_of_ble_eq_true rfl⟩ ?_
  exact z_icmp_eq C 998 dL_law_718 (by decide) (fun _ => k s2 t2 hJ2) (fun hbr => absurd rfl hbr)
set_option maxRecDepth 100000 in
set_option maxHeartbeats 4000000 in
theorem lc_23 {l : Launch} {X : zX} {B : zB} (hl : X.2.1 = l) (C : zC X B mLaw) {b L : Nat} {xs : Nat → Int32} (hX : va_X b L xs (xS X) (xS X).heap) (hbl : b < (xS X).heap.size) (hbB : b < B.1) (hL : L ≤ 320) {i : Nat} (hi : i + 5 ≤ L) {s : zS} {t : zL} (hJ : jI s t) (k : ∀ s2 t2, jI s2 t2 → lZ X B s2 t2 998 (lLv B b i) []) : lZ X B s t 723 (lLv B b i) [] := by
  obtain ⟨x, s1, t1, s2, t2, hc, hm, hJ2⟩ := k_is (l := l) (B := B) hJ (xs (i + 1))
  refine z_aload_n C dL_law_723 2 rfl rfl ?_
  refine z_aload_n C dL_law_724 3 rfl rfl ?_
  refine z_iload_n C dL_law_725 0 rfl rfl ?_
  refine z_iconst C dL_law_726 ki_1 ?_
  refine z_iadd C dL_law_727 ?_
  refine f_topi (y := nI (i + 1)) (nA (a := i) (b := 1) rfl rfl rfl) ?_
  refine z_sld C hX hbl hbB (i := i + 1) (by omega) hL dL_law_728 ?_
  refine l_callV C hl (As := [.int (xs (i + 1))]) (rest := []) hc zb_0 (zg_11 zk_0) rfl (zCB (nA := 1) C rfl rfl tw_656 tw_1 tw_653 (by decide +kernel) ⟨Nat.le_of_ble_eq_true rfl, Nat.le_of_ble_eq_true rfl⟩) tw_654 tw_655 rfl rfl (Nat.le_of_ble_eq_true rfl) dL_law_729 ⟨Nat.le_of_ble_eq_true rfl, Nat.le_of_ble_eq_true rfl⟩ ?_
  refine z_aload_n C dL_law_732 1 rfl rfl ?_
  refine z_aload_n C dL_law_733 3 rfl rfl ?_
  refine z_iload_n C dL_law_734 0 rfl rfl ?_
  refine z_iconst C dL_law_735 ki_1 ?_
  refine z_iadd C dL_law_736 ?_
  refine f_topi (y := nI (i + 1)) (nA (a := i) (b := 1) rfl rfl rfl) ?_
  refine z_sld C hX hbl hbB (i := i + 1) (by omega) hL dL_law_737 ?_
  refine l_callV C hl (As := [.int (xs (i + 1))]) (rest := [.int x]) hm zb_113 (zg_12 zk_113) rfl (zCB (nA := 1) C rfl rfl tw_976 tw_13 tw_973 (by decide +kernel) ⟨Nat.le_of_ble_eq_true rfl, Nat.le_of_ble_eq_true rfl⟩) tw_974 tw_975 rfl rfl (Nat.le_of_ble_eq_true rfl) dL_law_738 ⟨Nat.le_of_ble_eq_true rfl, Nat.le_of_ble_eq_true rfl⟩ ?_
  exact z_icmp_eq C 998 dL_law_741 (by decide) (fun _ => k s2 t2 hJ2) (fun hbr => absurd rfl hbr)
set_option maxRecDepth 100000 in
set_option maxHeartbeats 4000000 in
theorem lc_24 {l : Launch} {X : zX} {B : zB} (hl : X.2.1 = l) (C : zC X B mLaw) {b L : Nat} {xs : Nat → Int32} (hX : va_X b L xs (xS X) (xS X).heap) (hbl : b < (xS X).heap.size) (hbB : b < B.1) (hL : L ≤ 320) {i : Nat} (hi : i + 5 ≤ L) {s : zS} {t : zL} (hJ : jI s t) (k : ∀ s2 t2, jI s2 t2 → lZ X B s2 t2 998 (lLv B b i) []) : lZ X B s t 746 (lLv B b i) [] := by
  obtain ⟨x, s1, t1, s2, t2, hc, hm, hJ2⟩ := k_holds (l := l) (B := B) hJ (xs (i + 1)) (xs (i + 2))
  refine z_aload_n C dL_law_746 2 rfl rfl ?_
  refine z_aload_n C dL_law_747 3 rfl rfl ?_
  refine z_iload_n C dL_law_748 0 rfl rfl ?_
  refine z_iconst C dL_law_749 ki_1 ?_
  refine z_iadd C dL_law_750 ?_
  refine f_topi (y := nI (i + 1)) (nA (a := i) (b := 1) rfl rfl rfl) ?_
  refine z_sld C hX hbl hbB (i := i + 1) (by omega) hL dL_law_751 ?_
  refine z_aload_n C dL_law_752 3 rfl rfl ?_
  refine z_iload_n C dL_law_753 0 rfl rfl ?_
  refine z_iconst C dL_law_754 ki_2 ?_
  refine z_iadd C dL_law_755 ?_
  refine f_topi (y := nI (i + 2)) (nA (a := i) (b := 2) rfl rfl rfl) ?_
  refine z_sld C hX hbl hbB (i := i + 2) (by omega) hL dL_law_756 ?_
  refine l_callV C hl (As := [.int (xs (i + 1)), .int (xs (i + 2))]) (rest := []) hc zb_0 (zg_11 zk_0) rfl (zCB (nA := 2) C rfl rfl tw_672 tw_1 tw_669 (by decide +kernel) ⟨Nat.le_of_ble_eq_true rfl, Nat.le_of_ble_eq_true rfl⟩) tw_670 tw_671 rfl rfl (Nat.le_of_ble_eq_true rfl) dL_law_757 ⟨Nat.le_of_ble_eq_true rfl, Nat.le_of_ble_eq_true rfl⟩ ?_
  refine z_aload_n C dL_law_760 1 rfl rfl ?_
  refine z_aload_n C dL_law_761 3 rfl rfl ?_
  refine z_iload_n C dL_law_762 0 rfl rfl ?_
  refine z_iconst C dL_law_763 ki_1 ?_
  refine z_iadd C dL_law_764 ?_
  refine f_topi (y := nI (i + 1)) (nA (a := i) (b := 1) rfl rfl rfl) ?_
  refine z_sld C hX hbl hbB (i := i + 1) (by omega) hL dL_law_765 ?_
  refine z_aload_n C dL_law_766 3 rfl rfl ?_
  refine z_iload_n C dL_law_767 0 rfl rfl ?_
  refine z_iconst C dL_law_768 ki_2 ?_
  refine z_iadd C dL_law_769 ?_
  refine f_topi (y := nI (i + 2)) (nA (a := i) (b := 2) rfl rfl rfl) ?_
  refine z_sld C hX hbl hbB (i := i + 2) (by omega) hL dL_law_770 ?_
  refine l_callV C hl (As := [.int (xs (i + 1)), .int (xs (i + 2))]) (rest := [.int x]) hm zb_113 (zg_12 zk_113) rfl (zCB (nA := 2) C rfl rfl tw_988 tw_13 tw_985 (by decide +kernel) ⟨Nat.le_of_ble_eq_true rfl, Nat.le_of_ble_eq_true rfl⟩) tw_986 tw_987 rfl rfl (Nat.le_of_ble_eq_true rfl) dL_law_771 ⟨Nat.le_of_ble_eq_true rfl, Nat.le_of_ble_eq_true rfl⟩ ?_
  exact z_icmp_eq C 998 dL_law_774 (by decide) (fun _ => k s2 t2 hJ2) (fun hbr => absurd rfl hbr)
set_option maxRecDepth 100000 in
set_option maxHeartbeats 4000000 in
theorem lc_25 {l : Launch} {X : zX} {B : zB} (hl : X.2.1 = l) (C : zC X B mLaw) {b L : Nat} {xs : Nat → Int32} (hX : va_X b L xs (xS X) (xS X).heap) (hbl : b < (xS X).heap.size) (hbB : b < B.1) (hL : L ≤ 320) {i : Nat} (hi : i + 5 ≤ L) {s : zS} {t : zL} (hJ : jI s t) (k : ∀ s2 t2, jI s2 t2 → lZ X B s2 t2 998 (lLv B b i) []) : lZ X B s t 779 (lLv B b i) [] := by
  obtain ⟨x, s1, t1, s2, t2, hc, hm, hJ2⟩ := k_tryNext (l := l) (B := B) hJ (xs (i + 1))
  refine z_aload_n C dL_law_779 2 rfl rfl ?_
  refine z_aload_n C dL_law_780 3 rfl rfl ?_
  refine z_iload_n C dL_law_781 0 rfl rfl ?_
  refine z_iconst C dL_law_782 ki_1 ?_
  refine z_iadd C dL_law_783 ?_
  refine f_topi (y := nI (i + 1)) (nA (a := i) (b := 1) rfl rfl rfl) ?_
  refine z_sld C hX hbl hbB (i := i + 1) (by omega) hL dL_law_784 ?_
  refine l_callV C hl (As := [.int (xs (i + 1))]) (rest := []) hc zb_0 (zg_11 zk_0) rfl (zCB (nA := 1) C rfl rfl tw_676 tw_1 tw_673 (by decide +kernel) ⟨Nat.le_of_ble_eq_true rfl, Nat.le_of_ble_eq_true rfl⟩) tw_674 tw_675 rfl rfl (Nat.le_of_ble_eq_true rfl) dL_law_785 ⟨Nat.le_of_ble_eq_true rfl, Nat.le_of_ble_eq_true rfl⟩ ?_
  refine z_aload_n C dL_law_788 1 rfl rfl ?_
  refine z_aload_n C dL_law_789 3 rfl rfl ?_
  refine z_iload_n C dL_law_790 0 rfl rfl ?_
  refine z_iconst C dL_law_791 ki_1 ?_
  refine z_iadd C dL_law_792 ?_
  refine f_topi (y := nI (i + 1)) (nA (a := i) (b := 1) rfl rfl rfl) ?_
  refine z_sld C hX hbl hbB (i := i + 1) (by omega) hL dL_law_793 ?_
  refine l_callV C hl (As := [.int (xs (i + 1))]) (rest := [.int x]) hm zb_113 (zg_12 zk_113) rfl (zCB (nA := 1) C rfl rfl tw_993 tw_13 tw_990 (by decide +kernel) ⟨Nat.le_of_ble_eq_true rfl, Nat.le_of_ble_eq_true rfl⟩) tw_991 tw_992 rfl rfl (Nat.le_of_ble_eq_true rfl) dL_law_794 ⟨Nat.le_of_ble_eq_true rfl, Nat.le_of_ble_eq_true rfl⟩ ?_
  exact z_icmp_eq C 998 dL_law_797 (by decide) (fun _ => k s2 t2 hJ2) (fun hbr => absurd rfl hbr)
set_option maxRecDepth 100000 in
set_option maxHeartbeats 4000000 in
theorem lc_26 {l : Launch} {X : zX} {B : zB} (hl : X.2.1 = l) (C : zC X B mLaw) {b L : Nat} {xs : Nat → Int32} (hX : va_X b L xs (xS X) (xS X).heap) (hbl : b < (xS X).heap.size) (hbB : b < B.1) (hL : L ≤ 320) {i : Nat} (hi : i + 5 ≤ L) {s : zS} {t : zL} (hJ : jI s t) (k : ∀ s2 t2, jI s2 t2 → lZ X B s2 t2 998 (lLv B b i) []) : lZ X B s t 802 (lLv B b i) [] := by
  obtain ⟨x, s1, t1, s2, t2, hc, hm, hJ2⟩ := k_away (l := l) (B := B) hJ (xs (i + 1)) (xs (i + 2))
  refine z_aload_n C dL_law_802 2 rfl rfl ?_
  refine z_aload_n C dL_law_803 3 rfl rfl ?_
  refine z_iload_n C dL_law_804 0 rfl rfl ?_
  refine z_iconst C dL_law_805 ki_1 ?_
  refine z_iadd C dL_law_806 ?_
  refine f_topi (y := nI (i + 1)) (nA (a := i) (b := 1) rfl rfl rfl) ?_
  refine z_sld C hX hbl hbB (i := i + 1) (by omega) hL dL_law_807 ?_
  refine z_aload_n C dL_law_808 3 rfl rfl ?_
  refine z_iload_n C dL_law_809 0 rfl rfl ?_
  refine z_iconst C dL_law_810 ki_2 ?_
  refine z_iadd C dL_law_811 ?_
  refine f_topi (y := nI (i + 2)) (nA (a := i) (b := 2) rfl rfl rfl) ?_
  refine z_sld C hX hbl hbB (i := i + 2) (by omega) hL dL_law_812 ?_
  refine l_callV C hl (As := [.int (xs (i + 1)), .int (xs (i + 2))]) (rest := []) hc zb_0 (zg_11 zk_0) rfl (zCB (nA := 2) C rfl rfl tw_685 tw_1 tw_682 (by decide +kernel) ⟨Nat.le_of_ble_eq_true rfl, Nat.le_of_ble_eq_true rfl⟩) tw_683 tw_684 rfl rfl (Nat.le_of_ble_eq_true rfl) dL_law_813 ⟨Nat.le_of_ble_eq_true rfl, Nat.le_of_ble_eq_true rfl⟩ ?_
  refine z_aload_n C dL_law_816 1 rfl rfl ?_
  refine z_aload_n C dL_law_817 3 rfl rfl ?_
  refine z_iload_n C dL_law_818 0 rfl rfl ?_
  refine z_iconst C dL_law_819 ki_1 ?_
  refine z_iadd C dL_law_820 ?_
  refine f_topi (y := nI (i + 1)) (nA (a := i) (b := 1) rfl rfl rfl) ?_
  refine z_sld C hX hbl hbB (i := i + 1) (by omega) hL dL_law_821 ?_
  refine z_aload_n C dL_law_822 3 rfl rfl ?_
  refine z_iload_n C dL_law_823 0 rfl rfl ?_
  refine z_iconst C dL_law_824 ki_2 ?_
  refine z_iadd C dL_law_825 ?_
  refine f_topi (y := nI (i + 2)) (nA (a := i) (b := 2) rfl rfl rfl) ?_
  refine z_sld C hX hbl hbB (i := i + 2) (by omega) hL dL_law_826 ?_
  refine l_callV C hl (As := [.int (xs (i + 1)), .int (xs (i + 2))]) (rest := [.int x]) hm zb_113 (zg_12 zk_113) rfl (zCB (nA := 2) C rfl rfl tw_998 tw_13 tw_995 (by decide +kernel) ⟨Nat.le_of_ble_eq_true rfl, Nat.le_of_ble_eq_true rfl⟩) tw_996 tw_997 rfl rfl (Nat.le_of_ble_eq_true rfl) dL_law_827 ⟨Nat.le_of_ble_eq_true rfl, Nat.le_of_ble_eq_true rfl⟩ ?_
  exact z_icmp_eq C 998 dL_law_830 (by decide) (fun _ => k s2 t2 hJ2) (fun hbr => absurd rfl hbr)
set_option maxRecDepth 100000 in
set_option maxHeartbeats 4000000 in
theorem lc_27 {l : Launch} {X : zX} {B : zB} (hl : X.2.1 = l) (C : zC X B mLaw) {b L : Nat} {xs : Nat → Int32} (hX : va_X b L xs (xS X) (xS X).heap) (hbl : b < (xS X).heap.size) (hbB : b < B.1) (hL : L ≤ 320) {i : Nat} (hi : i + 5 ≤ L) {s : zS} {t : zL} (hJ : jI s t) (k : ∀ s2 t2, jI s2 t2 → lZ X B s2 t2 998 (lLv B b i) []) : lZ X B s t 835 (lLv B b i) [] := by
  obtain ⟨x, s1, t1, s2, t2, hc, hm, hJ2⟩ := k_diets (l := l) (B := B) hJ (xs (i + 1)) (xs (i + 2))
  refine z_aload_n C dL_law_835 2 rfl rfl ?_
  refine z_aload_n C dL_law_836 3 rfl rfl ?_
  refine z_iload_n C dL_law_837 0 rfl rfl ?_
  refine z_iconst C dL_law_838 ki_1 ?_
  refine z_iadd C dL_law_839 ?_
  refine f_topi (y := nI (i + 1)) (nA (a := i) (b := 1) rfl rfl rfl) ?_
  refine z_sld C hX hbl hbB (i := i + 1) (by omega) hL dL_law_840 ?_
  refine z_aload_n C dL_law_841 3 rfl rfl ?_
  refine z_iload_n C dL_law_842 0 rfl rfl ?_
  refine z_iconst C dL_law_843 ki_2 ?_
  refine z_iadd C dL_law_844 ?_
  refine f_topi (y := nI (i + 2)) (nA (a := i) (b := 2) rfl rfl rfl) ?_
  refine z_sld C hX hbl hbB (i := i + 2) (by omega) hL dL_law_845 ?_
  refine l_callV C hl (As := [.int (xs (i + 1)), .int (xs (i + 2))]) (rest := []) hc zb_0 (zg_11 zk_0) rfl (zCB (nA := 2) C rfl rfl tw_689 tw_1 tw_686 (by decide +kernel) ⟨Nat.le_of_ble_eq_true rfl, Nat.le_of_ble_eq_true rfl⟩) tw_687 tw_688 rfl rfl (Nat.le_of_ble_eq_true rfl) dL_law_846 ⟨Nat.le_of_ble_eq_true rfl, Nat.le_of_ble_eq_true rfl⟩ ?_
  refine z_aload_n C dL_law_849 1 rfl rfl ?_
  refine z_aload_n C dL_law_850 3 rfl rfl ?_
  refine z_iload_n C dL_law_851 0 rfl rfl ?_
  refine z_iconst C dL_law_852 ki_1 ?_
  refine z_iadd C dL_law_853 ?_
  refine f_topi (y := nI (i + 1)) (nA (a := i) (b := 1) rfl rfl rfl) ?_
  refine z_sld C hX hbl hbB (i := i + 1) (by omega) hL dL_law_854 ?_
  refine z_aload_n C dL_law_855 3 rfl rfl ?_
  refine z_iload_n C dL_law_856 0 rfl rfl ?_
  refine z_iconst C dL_law_857 ki_2 ?_
  refine z_iadd C dL_law_858 ?_
  refine f_topi (y := nI (i + 2)) (nA (a := i) (b := 2) rfl rfl rfl) ?_
  refine z_sld C hX hbl hbB (i := i + 2) (by omega) hL dL_law_859 ?_
  refine l_callV C hl (As := [.int (xs (i + 1)), .int (xs (i + 2))]) (rest := [.int x]) hm zb_113 (zg_12 zk_113) rfl (zCB (nA := 2) C rfl rfl tw_1007 tw_13 tw_1004 (by decide +kernel) ⟨Nat.le_of_ble_eq_true rfl, Nat.le_of_ble_eq_true rfl⟩) tw_1005 tw_1006 rfl rfl (Nat.le_of_ble_eq_true rfl) dL_law_860 ⟨Nat.le_of_ble_eq_true rfl, Nat.le_of_ble_eq_true rfl⟩ ?_
  exact z_icmp_eq C 998 dL_law_863 (by decide) (fun _ => k s2 t2 hJ2) (fun hbr => absurd rfl hbr)
set_option maxRecDepth 100000 in
set_option maxHeartbeats 4000000 in
theorem lc_28 {l : Launch} {X : zX} {B : zB} (hl : X.2.1 = l) (C : zC X B mLaw) {b L : Nat} {xs : Nat → Int32} (hX : va_X b L xs (xS X) (xS X).heap) (hbl : b < (xS X).heap.size) (hbB : b < B.1) (hL : L ≤ 320) {i : Nat} (hi : i + 5 ≤ L) {s : zS} {t : zL} (hJ : jI s t) (k : ∀ s2 t2, jI s2 t2 → lZ X B s2 t2 998 (lLv B b i) []) : lZ X B s t 868 (lLv B b i) [] := by
  obtain ⟨x, s1, t1, s2, t2, hc, hm, hJ2⟩ := k_part (l := l) (B := B) hJ (xs (i + 1))
  refine z_aload_n C dL_law_868 2 rfl rfl ?_
  refine z_aload_n C dL_law_869 3 rfl rfl ?_
  refine z_iload_n C dL_law_870 0 rfl rfl ?_
  refine z_iconst C dL_law_871 ki_1 ?_
  refine z_iadd C dL_law_872 ?_
  refine f_topi (y := nI (i + 1)) (nA (a := i) (b := 1) rfl rfl rfl) ?_
  refine z_sld C hX hbl hbB (i := i + 1) (by omega) hL dL_law_873 ?_
  refine l_callV C hl (As := [.int (xs (i + 1))]) (rest := []) hc zb_0 (zg_11 zk_0) rfl (zCB (nA := 1) C rfl rfl tw_700 tw_1 tw_697 (by decide +kernel) ⟨Nat.le_of_ble_eq_true rfl, Nat.le_of_ble_eq_true rfl⟩) tw_698 tw_699 rfl rfl (Nat.le_of_ble_eq_true rfl) dL_law_874 ⟨Nat.le_of_ble_eq_true rfl, Nat.le_of_ble_eq_true rfl⟩ ?_
  refine z_aload_n C dL_law_877 1 rfl rfl ?_
  refine z_aload_n C dL_law_878 3 rfl rfl ?_
  refine z_iload_n C dL_law_879 0 rfl rfl ?_
  refine z_iconst C dL_law_880 ki_1 ?_
  refine z_iadd C dL_law_881 ?_
  refine f_topi (y := nI (i + 1)) (nA (a := i) (b := 1) rfl rfl rfl) ?_
  refine z_sld C hX hbl hbB (i := i + 1) (by omega) hL dL_law_882 ?_
  refine l_callV C hl (As := [.int (xs (i + 1))]) (rest := [.long x]) hm zb_113 (zg_12 zk_113) rfl (zCB (nA := 1) C rfl rfl tw_1077 tw_13 tw_1074 (by decide +kernel) ⟨Nat.le_of_ble_eq_true rfl, Nat.le_of_ble_eq_true rfl⟩) tw_1075 tw_1076 rfl rfl (Nat.le_of_ble_eq_true rfl) dL_law_883 ⟨Nat.le_of_ble_eq_true rfl, Nat.le_of_ble_eq_true rfl⟩ ?_
  refine z_lcmp C dL_law_886 ?_
  refine f_topi (y := 0) (lg_cmp_self x) ?_
  exact z_if_eq C 998 dL_law_887 (by decide) (fun _ => k s2 t2 hJ2) (fun hbr => absurd rfl hbr)
set_option maxRecDepth 100000 in
set_option maxHeartbeats 4000000 in
theorem lc_29 {l : Launch} {X : zX} {B : zB} (hl : X.2.1 = l) (C : zC X B mLaw) {b L : Nat} {xs : Nat → Int32} (hX : va_X b L xs (xS X) (xS X).heap) (hbl : b < (xS X).heap.size) (hbB : b < B.1) (hL : L ≤ 320) {i : Nat} (hi : i + 5 ≤ L) {s : zS} {t : zL} (hJ : jI s t) (k : ∀ s2 t2, jI s2 t2 → lZ X B s2 t2 998 (lLv B b i) []) : lZ X B s t 892 (lLv B b i) [] := by
  obtain ⟨x, s1, t1, s2, t2, hc, hm, hJ2⟩ := k_image (l := l) (B := B) hJ (xs (i + 1))
  refine z_aload_n C dL_law_892 2 rfl rfl ?_
  refine z_aload_n C dL_law_893 3 rfl rfl ?_
  refine z_iload_n C dL_law_894 0 rfl rfl ?_
  refine z_iconst C dL_law_895 ki_1 ?_
  refine z_iadd C dL_law_896 ?_
  refine f_topi (y := nI (i + 1)) (nA (a := i) (b := 1) rfl rfl rfl) ?_
  refine z_sld C hX hbl hbB (i := i + 1) (by omega) hL dL_law_897 ?_
  refine l_callV C hl (As := [.int (xs (i + 1))]) (rest := []) hc zb_0 (zg_11 zk_0) rfl (zCB (nA := 1) C rfl rfl tw_704 tw_1 tw_701 (by decide +kernel) ⟨Nat.le_of_ble_eq_true rfl, Nat.le_of_ble_eq_true rfl⟩) tw_702 tw_703 rfl rfl (Nat.le_of_ble_eq_true rfl) dL_law_898 ⟨Nat.le_of_ble_eq_true rfl, Nat.le_of_ble_eq_true rfl⟩ ?_
  refine z_aload_n C dL_law_901 1 rfl rfl ?_
  refine z_aload_n C dL_law_902 3 rfl rfl ?_
  refine z_iload_n C dL_law_903 0 rfl rfl ?_
  refine z_iconst C dL_law_904 ki_1 ?_
  refine z_iadd C dL_law_905 ?_
  refine f_topi (y := nI (i + 1)) (nA (a := i) (b := 1) rfl rfl rfl) ?_
  refine z_sld C hX hbl hbB (i := i + 1) (by omega) hL dL_law_906 ?_
  refine l_callV C hl (As := [.int (xs (i + 1))]) (rest := [.int x]) hm zb_113 (zg_12 zk_113) rfl (zCB (nA := 1) C rfl rfl tw_1081 tw_13 tw_1078 (by decide +kernel) ⟨Nat.le_of_ble_eq_true rfl, Nat.le_of_ble_eq_true rfl⟩) tw_1079 tw_1080 rfl rfl (Nat.le_of_ble_eq_true rfl) dL_law_907 ⟨Nat.le_of_ble_eq_true rfl, Nat.le_of_ble_eq_true rfl⟩ ?_
  exact z_icmp_eq C 998 dL_law_910 (by decide) (fun _ => k s2 t2 hJ2) (fun hbr => absurd rfl hbr)
set_option maxRecDepth 100000 in
set_option maxHeartbeats 4000000 in
theorem lc_30 {l : Launch} {X : zX} {B : zB} (hl : X.2.1 = l) (C : zC X B mLaw) {b L : Nat} {xs : Nat → Int32} (hX : va_X b L xs (xS X) (xS X).heap) (hbl : b < (xS X).heap.size) (hbB : b < B.1) (hL : L ≤ 320) {i : Nat} (hi : i + 5 ≤ L) {s : zS} {t : zL} (hJ : jI s t) (k : ∀ s2 t2, jI s2 t2 → lZ X B s2 t2 998 (lLv B b i) []) : lZ X B s t 915 (lLv B b i) [] := by
  obtain ⟨x, s1, t1, s2, t2, hc, hm, hJ2⟩ := k_from (l := l) (B := B) hJ (xs (i + 1))
  refine z_aload_n C dL_law_915 2 rfl rfl ?_
  refine z_aload_n C dL_law_916 3 rfl rfl ?_
  refine z_iload_n C dL_law_917 0 rfl rfl ?_
  refine z_iconst C dL_law_918 ki_1 ?_
  refine z_iadd C dL_law_919 ?_
  refine f_topi (y := nI (i + 1)) (nA (a := i) (b := 1) rfl rfl rfl) ?_
  refine z_sld C hX hbl hbB (i := i + 1) (by omega) hL dL_law_920 ?_
  refine l_callV C hl (As := [.int (xs (i + 1))]) (rest := []) hc zb_0 (zg_11 zk_0) rfl (zCB (nA := 1) C rfl rfl tw_708 tw_1 tw_705 (by decide +kernel) ⟨Nat.le_of_ble_eq_true rfl, Nat.le_of_ble_eq_true rfl⟩) tw_706 tw_707 rfl rfl (Nat.le_of_ble_eq_true rfl) dL_law_921 ⟨Nat.le_of_ble_eq_true rfl, Nat.le_of_ble_eq_true rfl⟩ ?_
  refine z_aload_n C dL_law_924 1 rfl rfl ?_
  refine z_aload_n C dL_law_925 3 rfl rfl ?_
  refine z_iload_n C dL_law_926 0 rfl rfl ?_
  refine z_iconst C dL_law_927 ki_1 ?_
  refine z_iadd C dL_law_928 ?_
  refine f_topi (y := nI (i + 1)) (nA (a := i) (b := 1) rfl rfl rfl) ?_
  refine z_sld C hX hbl hbB (i := i + 1) (by omega) hL dL_law_929 ?_
  refine l_callV C hl (As := [.int (xs (i + 1))]) (rest := [.int x]) hm zb_113 (zg_12 zk_113) rfl (zCB (nA := 1) C rfl rfl tw_1085 tw_13 tw_1082 (by decide +kernel) ⟨Nat.le_of_ble_eq_true rfl, Nat.le_of_ble_eq_true rfl⟩) tw_1083 tw_1084 rfl rfl (Nat.le_of_ble_eq_true rfl) dL_law_930 ⟨Nat.le_of_ble_eq_true rfl, Nat.le_of_ble_eq_true rfl⟩ ?_
  exact z_icmp_eq C 998 dL_law_933 (by decide) (fun _ => k s2 t2 hJ2) (fun hbr => absurd rfl hbr)
set_option maxRecDepth 100000 in
set_option maxHeartbeats 4000000 in
theorem lc_31 {l : Launch} {X : zX} {B : zB} (hl : X.2.1 = l) (C : zC X B mLaw) {b L : Nat} {xs : Nat → Int32} (hX : va_X b L xs (xS X) (xS X).heap) (hbl : b < (xS X).heap.size) (hbB : b < B.1) (hL : L ≤ 320) {i : Nat} (hi : i + 5 ≤ L) {s : zS} {t : zL} (hJ : jI s t) (k : ∀ s2 t2, jI s2 t2 → lZ X B s2 t2 998 (lLv B b i) []) : lZ X B s t 938 (lLv B b i) [] := by
  obtain ⟨x, s1, t1, s2, t2, hc, hm, hJ2⟩ := k_status (l := l) (B := B) hJ (xs (i + 1))
  refine z_aload_n C dL_law_938 2 rfl rfl ?_
  refine z_aload_n C dL_law_939 3 rfl rfl ?_
  refine z_iload_n C dL_law_940 0 rfl rfl ?_
  refine z_iconst C dL_law_941 ki_1 ?_
  refine z_iadd C dL_law_942 ?_
  refine f_topi (y := nI (i + 1)) (nA (a := i) (b := 1) rfl rfl rfl) ?_
  refine z_sld C hX hbl hbB (i := i + 1) (by omega) hL dL_law_943 ?_
  refine l_callV C hl (As := [.int (xs (i + 1))]) (rest := []) hc zb_0 (zg_11 zk_0) rfl (zCB (nA := 1) C rfl rfl tw_712 tw_1 tw_709 (by decide +kernel) ⟨Nat.le_of_ble_eq_true rfl, Nat.le_of_ble_eq_true rfl⟩) tw_710 tw_711 rfl rfl (Nat.le_of_ble_eq_true rfl) dL_law_944 ⟨Nat.le_of_ble_eq_true rfl, Nat.le_of_ble_eq_true rfl⟩ ?_
  refine z_aload_n C dL_law_947 1 rfl rfl ?_
  refine z_aload_n C dL_law_948 3 rfl rfl ?_
  refine z_iload_n C dL_law_949 0 rfl rfl ?_
  refine z_iconst C dL_law_950 ki_1 ?_
  refine z_iadd C dL_law_951 ?_
  refine f_topi (y := nI (i + 1)) (nA (a := i) (b := 1) rfl rfl rfl) ?_
  refine z_sld C hX hbl hbB (i := i + 1) (by omega) hL dL_law_952 ?_
  refine l_callV C hl (As := [.int (xs (i + 1))]) (rest := [.int x]) hm zb_113 (zg_12 zk_113) rfl (zCB (nA := 1) C rfl rfl tw_1089 tw_13 tw_1086 (by decide +kernel) ⟨Nat.le_of_ble_eq_true rfl, Nat.le_of_ble_eq_true rfl⟩) tw_1087 tw_1088 rfl rfl (Nat.le_of_ble_eq_true rfl) dL_law_953 ⟨Nat.le_of_ble_eq_true rfl, Nat.le_of_ble_eq_true rfl⟩ ?_
  exact z_icmp_eq C 998 dL_law_956 (by decide) (fun _ => k s2 t2 hJ2) (fun hbr => absurd rfl hbr)
set_option maxRecDepth 100000 in
set_option maxHeartbeats 4000000 in
theorem lc_32 {l : Launch} {X : zX} {B : zB} (hl : X.2.1 = l) (C : zC X B mLaw) {b L : Nat} {xs : Nat → Int32} (hX : va_X b L xs (xS X) (xS X).heap) (hbl : b < (xS X).heap.size) (hbB : b < B.1) (hL : L ≤ 320) {i : Nat} (hi : i + 5 ≤ L) {s : zS} {t : zL} (hJ : jI s t) (k : ∀ s2 t2, jI s2 t2 → lZ X B s2 t2 998 (lLv B b i) []) : lZ X B s t 961 (lLv B b i) [] := by
  obtain ⟨x, s1, t1, s2, t2, hc, hm, hJ2⟩ := k_count (l := l) (B := B) hJ (xs (i + 1))
  refine z_aload_n C dL_law_961 2 rfl rfl ?_
  refine z_aload_n C dL_law_962 3 rfl rfl ?_
  refine z_iload_n C dL_law_963 0 rfl rfl ?_
  refine z_iconst C dL_law_964 ki_1 ?_
  refine z_iadd C dL_law_965 ?_
  refine f_topi (y := nI (i + 1)) (nA (a := i) (b := 1) rfl rfl rfl) ?_
  refine z_sld C hX hbl hbB (i := i + 1) (by omega) hL dL_law_966 ?_
  refine l_callV C hl (As := [.int (xs (i + 1))]) (rest := []) hc zb_0 (zg_11 zk_0) rfl (zCB (nA := 1) C rfl rfl tw_716 tw_1 tw_713 (by decide +kernel) ⟨Nat.le_of_ble_eq_true rfl, Nat.le_of_ble_eq_true rfl⟩) tw_714 tw_715 rfl rfl (Nat.le_of_ble_eq_true rfl) dL_law_967 ⟨Nat.le_of_ble_eq_true rfl, Nat.le_of_ble_eq_true rfl⟩ ?_
  refine z_aload_n C dL_law_970 1 rfl rfl ?_
  refine z_aload_n C dL_law_971 3 rfl rfl ?_
  refine z_iload_n C dL_law_972 0 rfl rfl ?_
  refine z_iconst C dL_law_973 ki_1 ?_
  refine z_iadd C dL_law_974 ?_
  refine f_topi (y := nI (i + 1)) (nA (a := i) (b := 1) rfl rfl rfl) ?_
  refine z_sld C hX hbl hbB (i := i + 1) (by omega) hL dL_law_975 ?_
  refine l_callV C hl (As := [.int (xs (i + 1))]) (rest := [.int x]) hm zb_113 (zg_12 zk_113) rfl (zCB (nA := 1) C rfl rfl tw_1093 tw_13 tw_1090 (by decide +kernel) ⟨Nat.le_of_ble_eq_true rfl, Nat.le_of_ble_eq_true rfl⟩) tw_1091 tw_1092 rfl rfl (Nat.le_of_ble_eq_true rfl) dL_law_976 ⟨Nat.le_of_ble_eq_true rfl, Nat.le_of_ble_eq_true rfl⟩ ?_
  exact z_icmp_eq C 998 dL_law_979 (by decide) (fun _ => k s2 t2 hJ2) (fun hbr => absurd rfl hbr)
set_option maxRecDepth 100000 in
set_option maxHeartbeats 4000000 in
theorem lc_33 {l : Launch} {X : zX} {B : zB} (hl : X.2.1 = l) (C : zC X B mLaw) {b L : Nat} {xs : Nat → Int32} (hX : va_X b L xs (xS X) (xS X).heap) (hbl : b < (xS X).heap.size) (hbB : b < B.1) (hL : L ≤ 320) {i : Nat} (hi : i + 5 ≤ L) {s : zS} {t : zL} (hJ : jI s t) (k : ∀ s2 t2, jI s2 t2 → lZ X B s2 t2 998 (lLv B b i) []) : lZ X B s t 984 (lLv B b i) [] := by
  obtain ⟨x, s1, t1, s2, t2, hc, hm, hJ2⟩ := k_digest (l := l) (B := B) hJ
  refine z_aload_n C dL_law_984 2 rfl rfl ?_
  refine l_callV C hl (As := []) (rest := []) hc zb_0 (zg_11 zk_0) rfl (zCB (nA := 0) C rfl rfl tw_724 tw_1 tw_721 (by decide +kernel) ⟨Nat.le_of_ble_eq_true rfl, Nat.le_of_ble_eq_true rfl⟩) tw_722 tw_723 rfl rfl (Nat.le_of_ble_eq_true rfl) dL_law_985 ⟨Nat.le_of_ble_eq_true rfl, Nat.le_of_ble_eq_true rfl⟩ ?_
  refine z_aload_n C dL_law_988 1 rfl rfl ?_
  refine l_callV C hl (As := []) (rest := [.long x]) hm zb_113 (zg_12 zk_113) rfl (zCB (nA := 0) C rfl rfl tw_1101 tw_13 tw_1098 (by decide +kernel) ⟨Nat.le_of_ble_eq_true rfl, Nat.le_of_ble_eq_true rfl⟩) tw_1099 tw_1100 rfl rfl (Nat.le_of_ble_eq_true rfl) dL_law_989 ⟨Nat.le_of_ble_eq_true rfl, Nat.le_of_ble_eq_true rfl⟩ ?_
  refine z_lcmp C dL_law_992 ?_
  refine f_topi (y := 0) (lg_cmp_self x) ?_
  exact z_if_eq C 998 dL_law_993 (by decide) (fun _ => k s2 t2 hJ2) (fun hbr => absurd rfl hbr)
