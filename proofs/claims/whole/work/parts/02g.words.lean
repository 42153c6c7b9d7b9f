theorem mb_20 : Cond.methodLink RX4 1 ⟨"java/lang/Object", "<init>", "()V"⟩ ∈ tm_B := tm_in 20 (by decide +kernel) (by decide +kernel)
theorem mb_21 : Cond.instanceMethod ⟨"java/lang/Object", "<init>", "()V"⟩ ∈ tm_B := tm_in 21 (by decide +kernel) (by decide +kernel)
set_option maxRecDepth 100000 in
theorem mb_22 : Cond.code ⟨"java/lang/Object", "<init>", "()V"⟩ object_method_1_code 1 none ∈ tm_B := tm_in 22 rfl rfl
theorem mb_23 : Cond.classLink RX4 13 "[[J" ∈ tm_B := tm_in 23 (by decide +kernel) (by decide +kernel)
theorem mb_25 : Cond.classLink RX4 18 RX2 ∈ tm_B := tm_in 25 (by decide +kernel) (by decide +kernel)
theorem mb_27 : Cond.classLink RX4 24 RX0 ∈ tm_B := tm_in 27 (by decide +kernel) (by decide +kernel)
theorem mb_29 : Cond.classLink RX4 30 RX3 ∈ tm_B := tm_in 29 (by decide +kernel) (by decide +kernel)
theorem mb_31 : Cond.classLink RX4 36 RX1 ∈ tm_B := tm_in 31 (by decide +kernel) (by decide +kernel)
theorem mb_39 : Cond.instantiable RX2 6 ∈ tm_B := tm_in 39 (by decide +kernel) (by decide +kernel)
theorem mb_41 : Cond.instanceMethod yX2_init ∈ tm_B := tm_in 41 (by decide +kernel) (by decide +kernel)
set_option maxRecDepth 100000 in
theorem mb_42 : Cond.code yX2_init prog_4_method_1_code 1 none ∈ tm_B := tm_in 42 rfl rfl
theorem mb_43 : Cond.methodLink RX2 1 ⟨"java/lang/Object", "<init>", "()V"⟩ ∈ tm_B := tm_in 43 (by decide +kernel) (by decide +kernel)
theorem mb_69 : Cond.arrayClass .long ∈ tm_B := tm_in 69 (by decide +kernel) (by decide +kernel)
theorem mb_70 : Cond.instantiable RX0 2 ∈ tm_B := tm_in 70 (by decide +kernel) (by decide +kernel)
theorem mb_72 : Cond.instanceMethod yX0_init ∈ tm_B := tm_in 72 (by decide +kernel) (by decide +kernel)
set_option maxRecDepth 100000 in
theorem mb_73 : Cond.code yX0_init prog_2_method_1_code 1 none ∈ tm_B := tm_in 73 rfl rfl
theorem mb_74 : Cond.methodLink RX0 3 ⟨"java/lang/Object", "<init>", "()V"⟩ ∈ tm_B := tm_in 74 (by decide +kernel) (by decide +kernel)
theorem mb_84 : Cond.instantiable RX3 3 ∈ tm_B := tm_in 84 (by decide +kernel) (by decide +kernel)
theorem mb_86 : Cond.instanceMethod yX3_init ∈ tm_B := tm_in 86 (by decide +kernel) (by decide +kernel)
set_option maxRecDepth 100000 in
theorem mb_87 : Cond.code yX3_init prog_5_method_1_code 1 none ∈ tm_B := tm_in 87 rfl rfl
theorem mb_88 : Cond.methodLink RX3 1 ⟨"java/lang/Object", "<init>", "()V"⟩ ∈ tm_B := tm_in 88 (by decide +kernel) (by decide +kernel)
theorem mb_102 : Cond.instantiable RX1 5 ∈ tm_B := tm_in 102 (by decide +kernel) (by decide +kernel)
theorem mb_104 : Cond.instanceMethod yX1_init ∈ tm_B := tm_in 104 (by decide +kernel) (by decide +kernel)
set_option maxRecDepth 100000 in
theorem mb_105 : Cond.code yX1_init prog_3_method_1_code 1 none ∈ tm_B := tm_in 105 rfl rfl
theorem mb_106 : Cond.methodLink RX1 1 ⟨"java/lang/Object", "<init>", "()V"⟩ ∈ tm_B := tm_in 106 (by decide +kernel) (by decide +kernel)
theorem mb_613 : Cond.methodLink RX5 1 ⟨"java/lang/Object", "<init>", "()V"⟩ ∈ tm_B := tm_in 613 (by decide +kernel) (by decide +kernel)
theorem mb_715 : Cond.arrayClass .int ∈ tm_B := tm_in 715 (by decide +kernel) (by decide +kernel)
theorem mb_716 : Cond.arrayClass .boolean ∈ tm_B := tm_in 716 (by decide +kernel) (by decide +kernel)
set_option maxRecDepth 100000 in
theorem mb_oinit : Cond.code Lib.objectInit ⟨#[0xb1]⟩ 1 none ∈ tm_B := mb_22
theorem gX4_46_X2_init : GoodIn tm_B wsX2_init := tm_G0 mb_42
theorem gX4_47_X0_init : GoodIn tm_B wsX0_init := tm_G0 mb_73
theorem gX4_48_X3_init : GoodIn tm_B wsX3_init := tm_G0 mb_87
theorem gX4_49_X1_init : GoodIn tm_B wsX1_init := tm_G0 mb_105
