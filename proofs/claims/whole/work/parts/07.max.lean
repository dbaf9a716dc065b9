section ZMX
variable {X : zX} {B : zB} {μ : zM} {n : Nat} {G : Nat → va_E} {a w pc : Nat} {lv : List (Nat × Value)} {st : List Value}
theorem tmx_code : zT (.code Lib.Math.max.name Lib.Math.max.code 2 (some .int)) := by decide +kernel
theorem tmx_stat : zT (.static Lib.Math.max.name) := by decide +kernel
theorem tmx_ini : zT (.initialized "java/lang/Math") := by decide +kernel
theorem f_mmax (C : zC X B μ) {index : Nat} {x y : Int32} (hlink : zT (.methodLink μ.1.cls index Lib.Math.max.name)) (d : decode μ.2.1 pc = .ok (.invokestatic index, 3)) (hf : 1 ≤ μ.2.2.2.2.frames) (hlo : 21 ≤ μ.2.2.2.2.locals) (hc : a ≤ μ.2.2.2.2.cells) (hs : w ≤ μ.2.2.2.2.slots) (hW : (st.map fun v => v.category).sum ≤ 8) (k : Z X B μ n G a w (pc + 3) lv (.int (wMax x y) :: st)) : Z X B μ n G a w pc lv (.int y :: .int x :: st) :=
  fun H locs ls hl hw hS hk => va_mmax C.1 C.2.1 (C.2.2.1.trans hl.1.symm) C.2.2.2.1 (C.t hlink) (C.t tmx_stat) (C.t tmx_ini) (C.t tmx_code) hf (by omega) hc hs d (k H locs ls hl hw hS hk)
end ZMX
