theorem kb_m10 : (Int8.ofInt (-10)).toInt32 = (-10) := by decide
theorem kb_m4 : (Int8.ofInt (-4)).toInt32 = (-4) := by decide
theorem kb_m3 : (Int8.ofInt (-3)).toInt32 = (-3) := by decide
theorem kb_m2 : (Int8.ofInt (-2)).toInt32 = (-2) := by decide
theorem kb_6 : (Int8.ofInt 6).toInt32 = 6 := by decide
theorem kb_7 : (Int8.ofInt 7).toInt32 = 7 := by decide
theorem kb_8 : (Int8.ofInt 8).toInt32 = 8 := by decide
theorem kb_9 : (Int8.ofInt 9).toInt32 = 9 := by decide
theorem kb_10 : (Int8.ofInt 10).toInt32 = 10 := by decide
theorem kb_16 : (Int8.ofInt 16).toInt32 = 16 := by decide
theorem kb_30 : (Int8.ofInt 30).toInt32 = 30 := by decide
theorem kb_32 : (Int8.ofInt 32).toInt32 = 32 := by decide
theorem kb_33 : (Int8.ofInt 33).toInt32 = 33 := by decide
theorem kb_40 : (Int8.ofInt 40).toInt32 = 40 := by decide
theorem kb_42 : (Int8.ofInt 42).toInt32 = 42 := by decide
theorem kb_48 : (Int8.ofInt 48).toInt32 = 48 := by decide
theorem kb_57 : (Int8.ofInt 57).toInt32 = 57 := by decide
theorem kb_59 : (Int8.ofInt 59).toInt32 = 59 := by decide
theorem kb_63 : (Int8.ofInt 63).toInt32 = 63 := by decide
theorem kb_97 : (Int8.ofInt 97).toInt32 = 97 := by decide
theorem kb_99 : (Int8.ofInt 99).toInt32 = 99 := by decide
theorem kb_100 : (Int8.ofInt 100).toInt32 = 100 := by decide
theorem kb_101 : (Int8.ofInt 101).toInt32 = 101 := by decide
theorem kb_104 : (Int8.ofInt 104).toInt32 = 104 := by decide
theorem kb_105 : (Int8.ofInt 105).toInt32 = 105 := by decide
theorem kb_108 : (Int8.ofInt 108).toInt32 = 108 := by decide
theorem kb_111 : (Int8.ofInt 111).toInt32 = 111 := by decide
theorem kb_112 : (Int8.ofInt 112).toInt32 = 112 := by decide
theorem kb_115 : (Int8.ofInt 115).toInt32 = 115 := by decide
theorem kb_116 : (Int8.ofInt 116).toInt32 = 116 := by decide
theorem kb_117 : (Int8.ofInt 117).toInt32 = 117 := by decide
theorem kb_118 : (Int8.ofInt 118).toInt32 = 118 := by decide
theorem kb_119 : (Int8.ofInt 119).toInt32 = 119 := by decide
theorem kb_121 : (Int8.ofInt 121).toInt32 = 121 := by decide
theorem kb_122 : (Int8.ofInt 122).toInt32 = 122 := by decide
theorem kb_127 : (Int8.ofInt 127).toInt32 = 127 := by decide
theorem ki_m1 : Int32.ofInt (-1) = (-1) := by decide
theorem ki_0 : Int32.ofInt 0 = 0 := by decide
theorem ki_1 : Int32.ofInt 1 = 1 := by decide
theorem ki_2 : Int32.ofInt 2 = 2 := by decide
theorem ki_3 : Int32.ofInt 3 = 3 := by decide
theorem ki_4 : Int32.ofInt 4 = 4 := by decide
theorem ki_5 : Int32.ofInt 5 = 5 := by decide
theorem ks_m1000 : (Int16.ofInt (-1000)).toInt32 = (-1000) := by decide
theorem ks_150 : (Int16.ofInt 150).toInt32 = 150 := by decide
theorem ks_200 : (Int16.ofInt 200).toInt32 = 200 := by decide
theorem ks_210 : (Int16.ofInt 210).toInt32 = 210 := by decide
theorem ks_255 : (Int16.ofInt 255).toInt32 = 255 := by decide
theorem kl_0 : Int64.ofNat ((0 : Fin 2) : Nat) = 0 := by decide
theorem kl_1 : Int64.ofNat ((1 : Fin 2) : Nat) = 1 := by decide
theorem zk_0 : zk 0 = 11 := rfl
theorem zb_0 : 0 < 124 := by decide
theorem zk_1 : zk 1 = 26 := rfl
theorem zb_1 : 1 < 124 := by decide
theorem zk_2 : zk 2 = 5 := rfl
theorem zb_2 : 2 < 124 := by decide
theorem zk_3 : zk 3 = 7 := rfl
theorem zb_3 : 3 < 124 := by decide
theorem zk_4 : zk 4 = 10 := rfl
theorem zb_4 : 4 < 124 := by decide
theorem zk_5 : zk 5 = 6 := rfl
theorem zb_5 : 5 < 124 := by decide
theorem zk_6 : zk 6 = 3 := rfl
theorem zb_6 : 6 < 124 := by decide
theorem zk_7 : zk 7 = 2 := rfl
theorem zb_7 : 7 < 124 := by decide
theorem zk_8 : zk 8 = 1 := rfl
theorem zb_8 : 8 < 124 := by decide
theorem zk_9 : zk 9 = 8 := rfl
theorem zb_9 : 9 < 124 := by decide
theorem zk_10 : zk 10 = 23 := rfl
theorem zb_10 : 10 < 124 := by decide
theorem zk_11 : zk 11 = 0 := rfl
theorem zb_11 : 11 < 124 := by decide
theorem zk_12 : zk 12 = 0 := rfl
theorem zb_12 : 12 < 124 := by decide
theorem zk_13 : zk 13 = 0 := rfl
theorem zb_13 : 13 < 124 := by decide
theorem zk_14 : zk 14 = 0 := rfl
theorem zb_14 : 14 < 124 := by decide
theorem zk_15 : zk 15 = 0 := rfl
theorem zb_15 : 15 < 124 := by decide
theorem zk_16 : zk 16 = 0 := rfl
theorem zb_16 : 16 < 124 := by decide
theorem zk_17 : zk 17 = 25 := rfl
theorem zb_17 : 17 < 124 := by decide
theorem zk_18 : zk 18 = 4 := rfl
theorem zb_18 : 18 < 124 := by decide
theorem zk_19 : zk 19 = 4 := rfl
theorem zb_19 : 19 < 124 := by decide
theorem zk_20 : zk 20 = 4 := rfl
theorem zb_20 : 20 < 124 := by decide
theorem zk_21 : zk 21 = 4 := rfl
theorem zb_21 : 21 < 124 := by decide
theorem zk_22 : zk 22 = 4 := rfl
theorem zb_22 : 22 < 124 := by decide
theorem zk_23 : zk 23 = 4 := rfl
theorem zb_23 : 23 < 124 := by decide
theorem zk_24 : zk 24 = 27 := rfl
theorem zb_24 : 24 < 124 := by decide
theorem zk_25 : zk 25 = 8 := rfl
theorem zb_25 : 25 < 124 := by decide
theorem zk_26 : zk 26 = 8 := rfl
theorem zb_26 : 26 < 124 := by decide
theorem zk_27 : zk 27 = 8 := rfl
theorem zb_27 : 27 < 124 := by decide
theorem zk_28 : zk 28 = 8 := rfl
theorem zb_28 : 28 < 124 := by decide
theorem zk_29 : zk 29 = 8 := rfl
theorem zb_29 : 29 < 124 := by decide
theorem zk_30 : zk 30 = 8 := rfl
theorem zb_30 : 30 < 124 := by decide
theorem zk_31 : zk 31 = 8 := rfl
theorem zb_31 : 31 < 124 := by decide
theorem zk_32 : zk 32 = 8 := rfl
theorem zb_32 : 32 < 124 := by decide
theorem zk_33 : zk 33 = 1 := rfl
theorem zb_33 : 33 < 124 := by decide
theorem zk_34 : zk 34 = 8 := rfl
theorem zb_34 : 34 < 124 := by decide
theorem zk_35 : zk 35 = 23 := rfl
theorem zb_35 : 35 < 124 := by decide
theorem zk_36 : zk 36 = 0 := rfl
theorem zb_36 : 36 < 124 := by decide
theorem zk_37 : zk 37 = 0 := rfl
theorem zb_37 : 37 < 124 := by decide
theorem zk_38 : zk 38 = 0 := rfl
theorem zb_38 : 38 < 124 := by decide
theorem zk_39 : zk 39 = 0 := rfl
theorem zb_39 : 39 < 124 := by decide
theorem zk_40 : zk 40 = 0 := rfl
theorem zb_40 : 40 < 124 := by decide
theorem zk_41 : zk 41 = 0 := rfl
theorem zb_41 : 41 < 124 := by decide
theorem zk_42 : zk 42 = 25 := rfl
theorem zb_42 : 42 < 124 := by decide
theorem zk_43 : zk 43 = 4 := rfl
theorem zb_43 : 43 < 124 := by decide
theorem zk_44 : zk 44 = 4 := rfl
theorem zb_44 : 44 < 124 := by decide
theorem zk_45 : zk 45 = 4 := rfl
theorem zb_45 : 45 < 124 := by decide
theorem zk_46 : zk 46 = 4 := rfl
theorem zb_46 : 46 < 124 := by decide
theorem zk_47 : zk 47 = 4 := rfl
theorem zb_47 : 47 < 124 := by decide
theorem zk_48 : zk 48 = 4 := rfl
theorem zb_48 : 48 < 124 := by decide
theorem zk_49 : zk 49 = 27 := rfl
theorem zb_49 : 49 < 124 := by decide
theorem zk_50 : zk 50 = 8 := rfl
theorem zb_50 : 50 < 124 := by decide
theorem zk_51 : zk 51 = 8 := rfl
theorem zb_51 : 51 < 124 := by decide
theorem zk_52 : zk 52 = 8 := rfl
theorem zb_52 : 52 < 124 := by decide
theorem zk_53 : zk 53 = 8 := rfl
theorem zb_53 : 53 < 124 := by decide
theorem zk_54 : zk 54 = 8 := rfl
theorem zb_54 : 54 < 124 := by decide
theorem zk_55 : zk 55 = 8 := rfl
theorem zb_55 : 55 < 124 := by decide
theorem zk_56 : zk 56 = 8 := rfl
theorem zb_56 : 56 < 124 := by decide
theorem zk_57 : zk 57 = 8 := rfl
theorem zb_57 : 57 < 124 := by decide
theorem zk_58 : zk 58 = 24 := rfl
theorem zb_58 : 58 < 124 := by decide
theorem zk_59 : zk 59 = 1 := rfl
theorem zb_59 : 59 < 124 := by decide
theorem zk_60 : zk 60 = 8 := rfl
theorem zb_60 : 60 < 124 := by decide
theorem zk_61 : zk 61 = 23 := rfl
theorem zb_61 : 61 < 124 := by decide
theorem zk_62 : zk 62 = 0 := rfl
theorem zb_62 : 62 < 124 := by decide
theorem zk_63 : zk 63 = 0 := rfl
theorem zb_63 : 63 < 124 := by decide
theorem zk_64 : zk 64 = 0 := rfl
theorem zb_64 : 64 < 124 := by decide
theorem zk_65 : zk 65 = 0 := rfl
theorem zb_65 : 65 < 124 := by decide
theorem zk_66 : zk 66 = 0 := rfl
theorem zb_66 : 66 < 124 := by decide
theorem zk_67 : zk 67 = 0 := rfl
theorem zb_67 : 67 < 124 := by decide
theorem zk_68 : zk 68 = 25 := rfl
theorem zb_68 : 68 < 124 := by decide
theorem zk_69 : zk 69 = 4 := rfl
theorem zb_69 : 69 < 124 := by decide
theorem zk_70 : zk 70 = 4 := rfl
theorem zb_70 : 70 < 124 := by decide
theorem zk_71 : zk 71 = 4 := rfl
theorem zb_71 : 71 < 124 := by decide
theorem zk_72 : zk 72 = 4 := rfl
theorem zb_72 : 72 < 124 := by decide
theorem zk_73 : zk 73 = 4 := rfl
theorem zb_73 : 73 < 124 := by decide
theorem zk_74 : zk 74 = 4 := rfl
theorem zb_74 : 74 < 124 := by decide
theorem zk_75 : zk 75 = 27 := rfl
theorem zb_75 : 75 < 124 := by decide
theorem zk_76 : zk 76 = 8 := rfl
theorem zb_76 : 76 < 124 := by decide
theorem zk_77 : zk 77 = 8 := rfl
theorem zb_77 : 77 < 124 := by decide
theorem zk_78 : zk 78 = 8 := rfl
theorem zb_78 : 78 < 124 := by decide
theorem zk_79 : zk 79 = 8 := rfl
theorem zb_79 : 79 < 124 := by decide
theorem zk_80 : zk 80 = 8 := rfl
theorem zb_80 : 80 < 124 := by decide
theorem zk_81 : zk 81 = 8 := rfl
theorem zb_81 : 81 < 124 := by decide
theorem zk_82 : zk 82 = 8 := rfl
theorem zb_82 : 82 < 124 := by decide
theorem zk_83 : zk 83 = 8 := rfl
theorem zb_83 : 83 < 124 := by decide
theorem zk_84 : zk 84 = 1 := rfl
theorem zb_84 : 84 < 124 := by decide
theorem zk_85 : zk 85 = 8 := rfl
theorem zb_85 : 85 < 124 := by decide
theorem zk_86 : zk 86 = 23 := rfl
theorem zb_86 : 86 < 124 := by decide
theorem zk_87 : zk 87 = 0 := rfl
theorem zb_87 : 87 < 124 := by decide
theorem zk_88 : zk 88 = 0 := rfl
theorem zb_88 : 88 < 124 := by decide
theorem zk_89 : zk 89 = 0 := rfl
theorem zb_89 : 89 < 124 := by decide
theorem zk_90 : zk 90 = 0 := rfl
theorem zb_90 : 90 < 124 := by decide
theorem zk_91 : zk 91 = 0 := rfl
theorem zb_91 : 91 < 124 := by decide
theorem zk_92 : zk 92 = 0 := rfl
theorem zb_92 : 92 < 124 := by decide
theorem zk_93 : zk 93 = 25 := rfl
theorem zb_93 : 93 < 124 := by decide
theorem zk_94 : zk 94 = 4 := rfl
theorem zb_94 : 94 < 124 := by decide
theorem zk_95 : zk 95 = 4 := rfl
theorem zb_95 : 95 < 124 := by decide
theorem zk_96 : zk 96 = 4 := rfl
theorem zb_96 : 96 < 124 := by decide
theorem zk_97 : zk 97 = 4 := rfl
theorem zb_97 : 97 < 124 := by decide
theorem zk_98 : zk 98 = 4 := rfl
theorem zb_98 : 98 < 124 := by decide
theorem zk_99 : zk 99 = 4 := rfl
theorem zb_99 : 99 < 124 := by decide
theorem zk_100 : zk 100 = 27 := rfl
theorem zb_100 : 100 < 124 := by decide
theorem zk_101 : zk 101 = 8 := rfl
theorem zb_101 : 101 < 124 := by decide
theorem zk_102 : zk 102 = 8 := rfl
theorem zb_102 : 102 < 124 := by decide
theorem zk_103 : zk 103 = 8 := rfl
theorem zb_103 : 103 < 124 := by decide
theorem zk_104 : zk 104 = 8 := rfl
theorem zb_104 : 104 < 124 := by decide
theorem zk_105 : zk 105 = 8 := rfl
theorem zb_105 : 105 < 124 := by decide
theorem zk_106 : zk 106 = 8 := rfl
theorem zb_106 : 106 < 124 := by decide
theorem zk_107 : zk 107 = 8 := rfl
theorem zb_107 : 107 < 124 := by decide
theorem zk_108 : zk 108 = 8 := rfl
theorem zb_108 : 108 < 124 := by decide
theorem zk_109 : zk 109 = 22 := rfl
theorem zb_109 : 109 < 124 := by decide
theorem zk_110 : zk 110 = 8 := rfl
theorem zb_110 : 110 < 124 := by decide
theorem zk_111 : zk 111 = 9 := rfl
theorem zb_111 : 111 < 124 := by decide
theorem zk_112 : zk 112 = 21 := rfl
theorem zb_112 : 112 < 124 := by decide
theorem zk_113 : zk 113 = 12 := rfl
theorem zb_113 : 113 < 124 := by decide
theorem zk_114 : zk 114 = 20 := rfl
theorem zb_114 : 114 < 124 := by decide
theorem zk_115 : zk 115 = 20 := rfl
theorem zb_115 : 115 < 124 := by decide
theorem zk_116 : zk 116 = 22 := rfl
theorem zb_116 : 116 < 124 := by decide
theorem zk_117 : zk 117 = 20 := rfl
theorem zb_117 : 117 < 124 := by decide
theorem zk_118 : zk 118 = 20 := rfl
theorem zb_118 : 118 < 124 := by decide
theorem zk_119 : zk 119 = 20 := rfl
theorem zb_119 : 119 < 124 := by decide
theorem zk_120 : zk 120 = 20 := rfl
theorem zb_120 : 120 < 124 := by decide
theorem zk_121 : zk 121 = 20 := rfl
theorem zb_121 : 121 < 124 := by decide
theorem zk_122 : zk 122 = 20 := rfl
theorem zb_122 : 122 < 124 := by decide
theorem zk_123 : zk 123 = 20 := rfl
theorem zb_123 : 123 < 124 := by decide
/-- a truth value on the stack -/
def zi (b : Bool) : Int32 := if b then 1 else 0
theorem zi_nar (b : Bool) : narrow .boolean (.int (zi b)) = .int (zi b) := by cases b <;> rfl
theorem zi_0 {b : Bool} (h : zi b = 0) : b = false := by cases b <;> first | rfl | exact absurd h (by decide)
theorem zi_1 {b : Bool} (h : ¬ zi b = 0) : b = true := by cases b <;> first | rfl | exact absurd rfl h
theorem zi_t : zi true = 1 := rfl
theorem zi_f : zi false = 0 := rfl
theorem zi_p {p : Prop} [Decidable p] (h : p) : (1 : Int32) = zi (decide p) := by simp [zi, h]
theorem zi_n {p : Prop} [Decidable p] (h : ¬ p) : (0 : Int32) = zi (decide p) := by simp [zi, h]
section ZB
variable {X : zX} {B : zB} {μ : zM} {n : Nat} {G : Nat → va_E} {a w pc : Nat} {lv : List (Nat × Value)} {st : List Value}
theorem z_ifb_eq (C : zC X B μ) {b : Bool} {off : Int} (tgt : Nat) (d : decode μ.2.1 pc = .ok (.ifCond .eq off, 3)) (ht : (pc : Int) + off = (tgt : Int)) (kt : b = false → Z X B μ n G a w tgt lv st) (kf : b = true → Z X B μ n G a w (pc + 3) lv st) : Z X B μ n G a w pc lv (.int (zi b) :: st) := z_if_eq C tgt d ht (fun h => kt (zi_0 h)) (fun h => kf (zi_1 h))
theorem z_ifb_ne (C : zC X B μ) {b : Bool} {off : Int} (tgt : Nat) (d : decode μ.2.1 pc = .ok (.ifCond .ne off, 3)) (ht : (pc : Int) + off = (tgt : Int)) (kt : b = true → Z X B μ n G a w tgt lv st) (kf : b = false → Z X B μ n G a w (pc + 3) lv st) : Z X B μ n G a w pc lv (.int (zi b) :: st) := z_if_ne C tgt d ht (fun h => kt (zi_1 h)) (fun h => kf (zi_0 h))
end ZB
