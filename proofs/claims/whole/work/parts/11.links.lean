set_option maxRecDepth 20000 in
theorem mt_X0_55 : Cond.methodLink RX0 55 Lib.Math.min.name ∈ xT ∧ Cond.static Lib.Math.min.name ∈ xT ∧ Cond.initialized "java/lang/Math" ∈ xT ∧ Cond.code Lib.Math.min.name Lib.Math.min.code 2 (some .int) ∈ xT := ⟨xsg4 133 rfl rfl, xsg3 158 rfl rfl, xsg1 19 rfl rfl, xsg3 159 rfl rfl⟩
set_option maxRecDepth 20000 in
theorem mt_X1_146 : Cond.methodLink RX1 146 Lib.Math.min.name ∈ xT ∧ Cond.static Lib.Math.min.name ∈ xT ∧ Cond.initialized "java/lang/Math" ∈ xT ∧ Cond.code Lib.Math.min.name Lib.Math.min.code 2 (some .int) ∈ xT := ⟨xsg4 167 rfl rfl, xsg3 158 rfl rfl, xsg1 19 rfl rfl, xsg3 159 rfl rfl⟩
set_option maxRecDepth 20000 in
theorem mt_X3_87 : Cond.methodLink RX3 87 Lib.Math.max.name ∈ xT ∧ Cond.static Lib.Math.max.name ∈ xT ∧ Cond.initialized "java/lang/Math" ∈ xT ∧ Cond.code Lib.Math.max.name Lib.Math.max.code 2 (some .int) ∈ xT := ⟨xsg4 229 rfl rfl, xsg3 155 rfl rfl, xsg1 19 rfl rfl, xsg3 156 rfl rfl⟩
set_option maxRecDepth 20000 in
theorem mt_X3_92 : Cond.methodLink RX3 92 Lib.Math.min.name ∈ xT ∧ Cond.static Lib.Math.min.name ∈ xT ∧ Cond.initialized "java/lang/Math" ∈ xT ∧ Cond.code Lib.Math.min.name Lib.Math.min.code 2 (some .int) ∈ xT := ⟨xsg4 230 rfl rfl, xsg3 158 rfl rfl, xsg1 19 rfl rfl, xsg3 159 rfl rfl⟩
set_option maxRecDepth 20000 in
theorem mt_X8_58 : Cond.methodLink RX8 58 Lib.MathLoose.min_long.x ∈ xT ∧ Cond.static Lib.MathLoose.min_long.x ∈ xT ∧ Cond.initialized "java/lang/Math" ∈ xT ∧ Cond.code Lib.MathLoose.min_long.x Lib.MathLoose.min_long.code 4 (some .long) ∈ xT := ⟨xsg5 125 rfl rfl, xsg4 51 rfl rfl, xsg1 19 rfl rfl, xsg4 52 rfl rfl⟩
set_option maxRecDepth 20000 in
theorem mt_X9_40 : Cond.methodLink RX9 40 Lib.MathLoose.min_long.x ∈ xT ∧ Cond.static Lib.MathLoose.min_long.x ∈ xT ∧ Cond.initialized "java/lang/Math" ∈ xT ∧ Cond.code Lib.MathLoose.min_long.x Lib.MathLoose.min_long.code 4 (some .long) ∈ xT := ⟨xsg4 50 rfl rfl, xsg4 51 rfl rfl, xsg1 19 rfl rfl, xsg4 52 rfl rfl⟩
set_option maxRecDepth 20000 in
theorem mt_X9_46 : Cond.methodLink RX9 46 Lib.MathLoose.max_long.x ∈ xT ∧ Cond.static Lib.MathLoose.max_long.x ∈ xT ∧ Cond.initialized "java/lang/Math" ∈ xT ∧ Cond.code Lib.MathLoose.max_long.x Lib.MathLoose.max_long.code 4 (some .long) ∈ xT := ⟨xsg4 53 rfl rfl, xsg4 54 rfl rfl, xsg1 19 rfl rfl, xsg4 55 rfl rfl⟩
set_option maxRecDepth 20000 in
theorem mt_J1_38 : Cond.methodLink RJ1 38 Lib.Math.min.name ∈ xT ∧ Cond.static Lib.Math.min.name ∈ xT ∧ Cond.initialized "java/lang/Math" ∈ xT ∧ Cond.code Lib.Math.min.name Lib.Math.min.code 2 (some .int) ∈ xT := ⟨xsg3 157 rfl rfl, xsg3 158 rfl rfl, xsg1 19 rfl rfl, xsg3 159 rfl rfl⟩
set_option maxRecDepth 20000 in
theorem mt_J1_92 : Cond.methodLink RJ1 92 Lib.Math.max.name ∈ xT ∧ Cond.static Lib.Math.max.name ∈ xT ∧ Cond.initialized "java/lang/Math" ∈ xT ∧ Cond.code Lib.Math.max.name Lib.Math.max.code 2 (some .int) ∈ xT := ⟨xsg3 154 rfl rfl, xsg3 155 rfl rfl, xsg1 19 rfl rfl, xsg3 156 rfl rfl⟩
set_option maxRecDepth 20000 in
theorem cp_X0_49 : Cond.methodLink RX0 49 arraycopyName ∈ xT ∧ Cond.native arraycopyName ∈ xT ∧ Cond.static arraycopyName ∈ xT ∧ Cond.initialized "java/lang/System" ∈ xT := ⟨xsg4 132 rfl rfl, xsg4 2 rfl rfl, xsg4 1 rfl rfl, xsg1 21 rfl rfl⟩
set_option maxRecDepth 20000 in
theorem cp_X1_98 : Cond.methodLink RX1 98 arraycopyName ∈ xT ∧ Cond.native arraycopyName ∈ xT ∧ Cond.static arraycopyName ∈ xT ∧ Cond.initialized "java/lang/System" ∈ xT := ⟨xsg5 154 rfl rfl, xsg4 2 rfl rfl, xsg4 1 rfl rfl, xsg1 21 rfl rfl⟩
set_option maxRecDepth 20000 in
theorem cp_X2_23 : Cond.methodLink RX2 23 arraycopyName ∈ xT ∧ Cond.native arraycopyName ∈ xT ∧ Cond.static arraycopyName ∈ xT ∧ Cond.initialized "java/lang/System" ∈ xT := ⟨xsg5 174 rfl rfl, xsg4 2 rfl rfl, xsg4 1 rfl rfl, xsg1 21 rfl rfl⟩
set_option maxRecDepth 20000 in
theorem cp_X3_145 : Cond.methodLink RX3 145 arraycopyName ∈ xT ∧ Cond.native arraycopyName ∈ xT ∧ Cond.static arraycopyName ∈ xT ∧ Cond.initialized "java/lang/System" ∈ xT := ⟨xsg5 17 rfl rfl, xsg4 2 rfl rfl, xsg4 1 rfl rfl, xsg1 21 rfl rfl⟩
set_option maxRecDepth 20000 in
theorem cp_X4_34 : Cond.methodLink RX4 34 arraycopyName ∈ xT ∧ Cond.native arraycopyName ∈ xT ∧ Cond.static arraycopyName ∈ xT ∧ Cond.initialized "java/lang/System" ∈ xT := ⟨xsg5 159 rfl rfl, xsg4 2 rfl rfl, xsg4 1 rfl rfl, xsg1 21 rfl rfl⟩
set_option maxRecDepth 20000 in
theorem cp_X5_34 : Cond.methodLink RX5 34 arraycopyName ∈ xT ∧ Cond.native arraycopyName ∈ xT ∧ Cond.static arraycopyName ∈ xT ∧ Cond.initialized "java/lang/System" ∈ xT := ⟨xsg5 169 rfl rfl, xsg4 2 rfl rfl, xsg4 1 rfl rfl, xsg1 21 rfl rfl⟩
set_option maxRecDepth 20000 in
theorem cp_X6_28 : Cond.methodLink RX6 28 arraycopyName ∈ xT ∧ Cond.native arraycopyName ∈ xT ∧ Cond.static arraycopyName ∈ xT ∧ Cond.initialized "java/lang/System" ∈ xT := ⟨xsg5 164 rfl rfl, xsg4 2 rfl rfl, xsg4 1 rfl rfl, xsg1 21 rfl rfl⟩
set_option maxRecDepth 20000 in
theorem cp_X9_26 : Cond.methodLink RX9 26 arraycopyName ∈ xT ∧ Cond.native arraycopyName ∈ xT ∧ Cond.static arraycopyName ∈ xT ∧ Cond.initialized "java/lang/System" ∈ xT := ⟨xsg4 0 rfl rfl, xsg4 2 rfl rfl, xsg4 1 rfl rfl, xsg1 21 rfl rfl⟩
set_option maxRecDepth 20000 in
theorem nw_X11_9 : Cond.classLink RX11 9 RX1 ∈ xT ∧ Cond.instantiable RX1 14 ∈ xT ∧ Cond.initialized RX1 ∈ xT := ⟨xsg1 31 rfl rfl, xsg1 32 rfl rfl, xsg1 2 rfl rfl⟩
set_option maxRecDepth 20000 in
theorem nw_X11_20 : Cond.classLink RX11 20 RX7 ∈ xT ∧ Cond.instantiable RX7 10 ∈ xT ∧ Cond.initialized RX7 ∈ xT := ⟨xsg2 28 rfl rfl, xsg2 29 rfl rfl, xsg1 9 rfl rfl⟩
set_option maxRecDepth 20000 in
theorem nw_X11_27 : Cond.classLink RX11 27 RX10 ∈ xT ∧ Cond.instantiable RX10 7 ∈ xT ∧ Cond.initialized RX10 ∈ xT := ⟨xsg2 71 rfl rfl, xsg2 72 rfl rfl, xsg1 10 rfl rfl⟩
set_option maxRecDepth 20000 in
theorem nw_X11_34 : Cond.classLink RX11 34 RX3 ∈ xT ∧ Cond.instantiable RX3 12 ∈ xT ∧ Cond.initialized RX3 ∈ xT := ⟨xsg2 100 rfl rfl, xsg2 101 rfl rfl, xsg1 11 rfl rfl⟩
set_option maxRecDepth 20000 in
theorem nw_X11_43 : Cond.classLink RX11 43 RX8 ∈ xT ∧ Cond.instantiable RX8 5 ∈ xT ∧ Cond.initialized RX8 ∈ xT := ⟨xsg2 148 rfl rfl, xsg2 149 rfl rfl, xsg1 12 rfl rfl⟩
set_option maxRecDepth 20000 in
theorem nw_X11_50 : Cond.classLink RX11 50 RX0 ∈ xT ∧ Cond.instantiable RX0 6 ∈ xT ∧ Cond.initialized RX0 ∈ xT := ⟨xsg2 174 rfl rfl, xsg2 175 rfl rfl, xsg1 13 rfl rfl⟩
set_option maxRecDepth 20000 in
theorem nw_X1_23 : Cond.classLink RX1 23 RX4 ∈ xT ∧ Cond.instantiable RX4 7 ∈ xT ∧ Cond.initialized RX4 ∈ xT := ⟨xsg1 37 rfl rfl, xsg1 38 rfl rfl, xsg1 3 rfl rfl⟩
set_option maxRecDepth 20000 in
theorem nw_X1_30 : Cond.classLink RX1 30 RX6 ∈ xT ∧ Cond.instantiable RX6 5 ∈ xT ∧ Cond.initialized RX6 ∈ xT := ⟨xsg1 82 rfl rfl, xsg1 83 rfl rfl, xsg1 4 rfl rfl⟩
set_option maxRecDepth 20000 in
theorem nw_X1_37 : Cond.classLink RX1 37 RX5 ∈ xT ∧ Cond.instantiable RX5 7 ∈ xT ∧ Cond.initialized RX5 ∈ xT := ⟨xsg1 106 rfl rfl, xsg1 107 rfl rfl, xsg1 5 rfl rfl⟩
set_option maxRecDepth 20000 in
theorem nw_X1_44 : Cond.classLink RX1 44 RX2 ∈ xT ∧ Cond.instantiable RX2 4 ∈ xT ∧ Cond.initialized RX2 ∈ xT := ⟨xsg1 137 rfl rfl, xsg1 138 rfl rfl, xsg1 6 rfl rfl⟩
set_option maxRecDepth 20000 in
theorem nw_X1_51 : Cond.classLink RX1 51 RX9 ∈ xT ∧ Cond.instantiable RX9 4 ∈ xT ∧ Cond.initialized RX9 ∈ xT := ⟨xsg1 162 rfl rfl, xsg1 164 rfl rfl, xsg1 7 rfl rfl⟩
set_option maxRecDepth 20000 in
theorem nw_X7_29 : Cond.classLink RX7 29 RX9 ∈ xT ∧ Cond.instantiable RX9 4 ∈ xT ∧ Cond.initialized RX9 ∈ xT := ⟨xsg2 34 rfl rfl, xsg1 164 rfl rfl, xsg1 7 rfl rfl⟩
set_option maxRecDepth 20000 in
theorem na_boolean : Cond.arrayClass .boolean ∈ xT := xsg2 173 rfl rfl
set_option maxRecDepth 20000 in
theorem na_char : Cond.arrayClass .char ∈ xT := xsg2 70 rfl rfl
set_option maxRecDepth 20000 in
theorem na_int : Cond.arrayClass .int ∈ xT := xsg1 81 rfl rfl
set_option maxRecDepth 20000 in
theorem na_long : Cond.arrayClass .long ∈ xT := xsg2 172 rfl rfl
set_option maxRecDepth 20000 in
theorem oi_X11_3 : Cond.methodLink RX11 3 Lib.objectInit ∈ xT ∧ Cond.instanceMethod Lib.objectInit ∈ xT ∧ Cond.code Lib.objectInit ⟨#[0xb1]⟩ 1 none ∈ xT := ⟨xsg1 28 rfl rfl, xsg1 29 rfl rfl, xsg1 30 rfl rfl⟩
set_option maxRecDepth 20000 in
theorem oi_X0_3 : Cond.methodLink RX0 3 Lib.objectInit ∈ xT ∧ Cond.instanceMethod Lib.objectInit ∈ xT ∧ Cond.code Lib.objectInit ⟨#[0xb1]⟩ 1 none ∈ xT := ⟨xsg2 179 rfl rfl, xsg1 29 rfl rfl, xsg1 30 rfl rfl⟩
set_option maxRecDepth 20000 in
theorem oi_X1_5 : Cond.methodLink RX1 5 Lib.objectInit ∈ xT ∧ Cond.instanceMethod Lib.objectInit ∈ xT ∧ Cond.code Lib.objectInit ⟨#[0xb1]⟩ 1 none ∈ xT := ⟨xsg1 36 rfl rfl, xsg1 29 rfl rfl, xsg1 30 rfl rfl⟩
set_option maxRecDepth 20000 in
theorem oi_X2_1 : Cond.methodLink RX2 1 Lib.objectInit ∈ xT ∧ Cond.instanceMethod Lib.objectInit ∈ xT ∧ Cond.code Lib.objectInit ⟨#[0xb1]⟩ 1 none ∈ xT := ⟨xsg1 142 rfl rfl, xsg1 29 rfl rfl, xsg1 30 rfl rfl⟩
set_option maxRecDepth 20000 in
theorem oi_X3_3 : Cond.methodLink RX3 3 Lib.objectInit ∈ xT ∧ Cond.instanceMethod Lib.objectInit ∈ xT ∧ Cond.code Lib.objectInit ⟨#[0xb1]⟩ 1 none ∈ xT := ⟨xsg2 105 rfl rfl, xsg1 29 rfl rfl, xsg1 30 rfl rfl⟩
set_option maxRecDepth 20000 in
theorem oi_X4_3 : Cond.methodLink RX4 3 Lib.objectInit ∈ xT ∧ Cond.instanceMethod Lib.objectInit ∈ xT ∧ Cond.code Lib.objectInit ⟨#[0xb1]⟩ 1 none ∈ xT := ⟨xsg1 42 rfl rfl, xsg1 29 rfl rfl, xsg1 30 rfl rfl⟩
set_option maxRecDepth 20000 in
theorem oi_X5_3 : Cond.methodLink RX5 3 Lib.objectInit ∈ xT ∧ Cond.instanceMethod Lib.objectInit ∈ xT ∧ Cond.code Lib.objectInit ⟨#[0xb1]⟩ 1 none ∈ xT := ⟨xsg1 111 rfl rfl, xsg1 29 rfl rfl, xsg1 30 rfl rfl⟩
set_option maxRecDepth 20000 in
theorem oi_X6_3 : Cond.methodLink RX6 3 Lib.objectInit ∈ xT ∧ Cond.instanceMethod Lib.objectInit ∈ xT ∧ Cond.code Lib.objectInit ⟨#[0xb1]⟩ 1 none ∈ xT := ⟨xsg1 87 rfl rfl, xsg1 29 rfl rfl, xsg1 30 rfl rfl⟩
set_option maxRecDepth 20000 in
theorem oi_X7_3 : Cond.methodLink RX7 3 Lib.objectInit ∈ xT ∧ Cond.instanceMethod Lib.objectInit ∈ xT ∧ Cond.code Lib.objectInit ⟨#[0xb1]⟩ 1 none ∈ xT := ⟨xsg2 33 rfl rfl, xsg1 29 rfl rfl, xsg1 30 rfl rfl⟩
set_option maxRecDepth 20000 in
theorem oi_X8_3 : Cond.methodLink RX8 3 Lib.objectInit ∈ xT ∧ Cond.instanceMethod Lib.objectInit ∈ xT ∧ Cond.code Lib.objectInit ⟨#[0xb1]⟩ 1 none ∈ xT := ⟨xsg2 153 rfl rfl, xsg1 29 rfl rfl, xsg1 30 rfl rfl⟩
set_option maxRecDepth 20000 in
theorem oi_X9_1 : Cond.methodLink RX9 1 Lib.objectInit ∈ xT ∧ Cond.instanceMethod Lib.objectInit ∈ xT ∧ Cond.code Lib.objectInit ⟨#[0xb1]⟩ 1 none ∈ xT := ⟨xsg1 168 rfl rfl, xsg1 29 rfl rfl, xsg1 30 rfl rfl⟩
set_option maxRecDepth 20000 in
theorem oi_X10_3 : Cond.methodLink RX10 3 Lib.objectInit ∈ xT ∧ Cond.instanceMethod Lib.objectInit ∈ xT ∧ Cond.code Lib.objectInit ⟨#[0xb1]⟩ 1 none ∈ xT := ⟨xsg2 76 rfl rfl, xsg1 29 rfl rfl, xsg1 30 rfl rfl⟩
set_option maxRecDepth 20000 in
theorem oi_X12_1 : Cond.methodLink RX12 1 Lib.objectInit ∈ xT ∧ Cond.instanceMethod Lib.objectInit ∈ xT ∧ Cond.code Lib.objectInit ⟨#[0xb1]⟩ 1 none ∈ xT := ⟨xsg5 185 rfl rfl, xsg1 29 rfl rfl, xsg1 30 rfl rfl⟩
set_option maxRecDepth 20000 in
theorem ci_X11_11 : (RX11, 11, yX1_init, "TurnedIsland") ∈ xNM ∧ Cond.instanceMethod yX1_init ∈ xT := ⟨by decide +kernel, xsg1 34 rfl rfl⟩
set_option maxRecDepth 20000 in
theorem ci_X11_22 : (RX11, 22, yX7_init, "TurnedIsland") ∈ xNM ∧ Cond.instanceMethod yX7_init ∈ xT := ⟨by decide +kernel, xsg2 31 rfl rfl⟩
set_option maxRecDepth 20000 in
theorem ci_X11_29 : Cond.methodLink RX11 29 yX10_init ∈ xT ∧ Cond.instanceMethod yX10_init ∈ xT := ⟨xsg2 73 rfl rfl, xsg2 74 rfl rfl⟩
set_option maxRecDepth 20000 in
theorem ci_X11_36 : Cond.methodLink RX11 36 yX3_init ∈ xT ∧ Cond.instanceMethod yX3_init ∈ xT := ⟨xsg2 102 rfl rfl, xsg2 103 rfl rfl⟩
set_option maxRecDepth 20000 in
theorem ci_X11_45 : (RX11, 45, yX8_init, "TurnedIsland") ∈ xNM ∧ Cond.instanceMethod yX8_init ∈ xT := ⟨by decide +kernel, xsg2 151 rfl rfl⟩
set_option maxRecDepth 20000 in
theorem ci_X11_52 : (RX11, 52, yX0_init, "TurnedIsland") ∈ xNM ∧ Cond.instanceMethod yX0_init ∈ xT := ⟨by decide +kernel, xsg2 177 rfl rfl⟩
set_option maxRecDepth 20000 in
theorem ci_X1_25 : (RX1, 25, yX4_init, "TurnedIsland") ∈ xNM ∧ Cond.instanceMethod yX4_init ∈ xT := ⟨by decide +kernel, xsg1 40 rfl rfl⟩
set_option maxRecDepth 20000 in
theorem ci_X1_32 : (RX1, 32, yX6_init, "TurnedIsland") ∈ xNM ∧ Cond.instanceMethod yX6_init ∈ xT := ⟨by decide +kernel, xsg1 85 rfl rfl⟩
set_option maxRecDepth 20000 in
theorem ci_X1_39 : (RX1, 39, yX5_init, "TurnedIsland") ∈ xNM ∧ Cond.instanceMethod yX5_init ∈ xT := ⟨by decide +kernel, xsg1 109 rfl rfl⟩
set_option maxRecDepth 20000 in
theorem ci_X1_46 : (RX1, 46, yX2_init, "TurnedIsland") ∈ xNM ∧ Cond.instanceMethod yX2_init ∈ xT := ⟨by decide +kernel, xsg1 140 rfl rfl⟩
set_option maxRecDepth 20000 in
theorem ci_X1_53 : (RX1, 53, yX9_init, "TurnedIsland") ∈ xNM ∧ Cond.instanceMethod yX9_init ∈ xT := ⟨by decide +kernel, xsg1 166 rfl rfl⟩
set_option maxRecDepth 20000 in
theorem ci_X7_31 : (RX7, 31, yX9_init, "TurnedIsland") ∈ xNM ∧ Cond.instanceMethod yX9_init ∈ xT := ⟨by decide +kernel, xsg1 166 rfl rfl⟩
set_option maxRecDepth 20000 in
theorem fr_X11_12 : xFp RX11 12 11 0 (.object "TurnedIsland$Island") true := ⟨_, _, _, rfl, by decide, by decide, xsg2 201 rfl rfl, rfl, by decide +kernel⟩
set_option maxRecDepth 20000 in
theorem fr_X11_23 : xFp RX11 23 11 1 (.object "TurnedIsland$Tape") true := ⟨_, _, _, rfl, by decide, by decide, xsg2 202 rfl rfl, rfl, by decide +kernel⟩
set_option maxRecDepth 20000 in
theorem fr_X11_30 : xFp RX11 30 11 2 (.object "TurnedIsland$Worths") true := ⟨_, _, _, rfl, by decide, by decide, xsg2 203 rfl rfl, rfl, by decide +kernel⟩
set_option maxRecDepth 20000 in
theorem fr_X11_39 : xFp RX11 39 11 3 (.object "TurnedIsland$Outlook") true := ⟨_, _, _, rfl, by decide, by decide, xsg2 204 rfl rfl, rfl, by decide +kernel⟩
set_option maxRecDepth 20000 in
theorem fr_X11_46 : xFp RX11 46 11 4 (.object "TurnedIsland$Tracing") true := ⟨_, _, _, rfl, by decide, by decide, xsg2 205 rfl rfl, rfl, by decide +kernel⟩
set_option maxRecDepth 20000 in
theorem fr_X11_53 : xFp RX11 53 11 5 (.object "TurnedIsland$History") true := ⟨_, _, _, rfl, by decide, by decide, xsg2 206 rfl rfl, rfl, by decide +kernel⟩
set_option maxRecDepth 20000 in
theorem fr_X11_57 : xFp RX11 57 11 6 (.object "TurnedIsland$Island") false := ⟨_, _, _, rfl, by decide, by decide, xsg2 207 rfl rfl, rfl, by decide +kernel⟩
set_option maxRecDepth 20000 in
theorem fr_X0_11 : xFp RX0 11 0 2 (.array .int) true := ⟨_, _, _, rfl, by decide, by decide, xsg2 184 rfl rfl, rfl, by decide +kernel⟩
set_option maxRecDepth 20000 in
theorem fr_X0_15 : xFp RX0 15 0 3 (.array .int) true := ⟨_, _, _, rfl, by decide, by decide, xsg2 185 rfl rfl, rfl, by decide +kernel⟩
set_option maxRecDepth 20000 in
theorem fr_X0_18 : xFp RX0 18 0 4 (.array .int) true := ⟨_, _, _, rfl, by decide, by decide, xsg2 186 rfl rfl, rfl, by decide +kernel⟩
set_option maxRecDepth 20000 in
theorem fr_X0_23 : xFp RX0 23 0 5 (.array (.array .int)) true := ⟨_, _, _, rfl, by decide, by decide, xsg2 187 rfl rfl, rfl, by decide +kernel⟩
set_option maxRecDepth 20000 in
theorem fr_X1_11 : xFp RX1 11 1 6 (.array .int) true := ⟨_, _, _, rfl, by decide, by decide, xsg1 206 rfl rfl, rfl, by decide +kernel⟩
set_option maxRecDepth 20000 in
theorem fr_X1_17 : xFp RX1 17 1 7 (.array .int) true := ⟨_, _, _, rfl, by decide, by decide, xsg1 209 rfl rfl, rfl, by decide +kernel⟩
set_option maxRecDepth 20000 in
theorem fr_X1_20 : xFp RX1 20 1 8 (.array .int) true := ⟨_, _, _, rfl, by decide, by decide, xsg1 211 rfl rfl, rfl, by decide +kernel⟩
set_option maxRecDepth 20000 in
theorem fr_X1_26 : xFp RX1 26 1 9 (.object "TurnedIsland$Plots") true := ⟨_, _, _, rfl, by decide, by decide, xsg1 213 rfl rfl, rfl, by decide +kernel⟩
set_option maxRecDepth 20000 in
theorem fr_X1_33 : xFp RX1 33 1 10 (.object "TurnedIsland$Sales") true := ⟨_, _, _, rfl, by decide, by decide, xsg1 218 rfl rfl, rfl, by decide +kernel⟩
set_option maxRecDepth 20000 in
theorem fr_X1_40 : xFp RX1 40 1 11 (.object "TurnedIsland$Promises") true := ⟨_, _, _, rfl, by decide, by decide, xsg1 220 rfl rfl, rfl, by decide +kernel⟩
set_option maxRecDepth 20000 in
theorem fr_X1_47 : xFp RX1 47 1 12 (.object "TurnedIsland$Logs") true := ⟨_, _, _, rfl, by decide, by decide, xsg1 222 rfl rfl, rfl, by decide +kernel⟩
set_option maxRecDepth 20000 in
theorem fr_X1_54 : xFp RX1 54 1 13 (.array (.object "TurnedIsland$Want")) true := ⟨_, _, _, rfl, by decide, by decide, xsg1 225 rfl rfl, rfl, by decide +kernel⟩
set_option maxRecDepth 20000 in
theorem fr_X2_9 : xFp RX2 9 2 1 (.array .int) true := ⟨_, _, _, rfl, by decide, by decide, xsg1 147 rfl rfl, rfl, by decide +kernel⟩
set_option maxRecDepth 20000 in
theorem fr_X2_13 : xFp RX2 13 2 2 (.array .int) true := ⟨_, _, _, rfl, by decide, by decide, xsg1 149 rfl rfl, rfl, by decide +kernel⟩
set_option maxRecDepth 20000 in
theorem fr_X2_16 : xFp RX2 16 2 3 (.array .int) true := ⟨_, _, _, rfl, by decide, by decide, xsg1 151 rfl rfl, rfl, by decide +kernel⟩
set_option maxRecDepth 20000 in
theorem fr_X3_11 : xFp RX3 11 3 2 (.array .int) true := ⟨_, _, _, rfl, by decide, by decide, xsg2 110 rfl rfl, rfl, by decide +kernel⟩
set_option maxRecDepth 20000 in
theorem fr_X3_17 : xFp RX3 17 3 3 (.array (.array .int)) true := ⟨_, _, _, rfl, by decide, by decide, xsg2 111 rfl rfl, rfl, by decide +kernel⟩
set_option maxRecDepth 20000 in
theorem fr_X3_20 : xFp RX3 20 3 4 (.array .int) true := ⟨_, _, _, rfl, by decide, by decide, xsg2 112 rfl rfl, rfl, by decide +kernel⟩
set_option maxRecDepth 20000 in
theorem fr_X3_23 : xFp RX3 23 3 5 (.array .int) true := ⟨_, _, _, rfl, by decide, by decide, xsg2 113 rfl rfl, rfl, by decide +kernel⟩
set_option maxRecDepth 20000 in
theorem fr_X3_26 : xFp RX3 26 3 6 (.array .int) true := ⟨_, _, _, rfl, by decide, by decide, xsg2 115 rfl rfl, rfl, by decide +kernel⟩
set_option maxRecDepth 20000 in
theorem fr_X3_29 : xFp RX3 29 3 7 (.array (.array .int)) true := ⟨_, _, _, rfl, by decide, by decide, xsg2 116 rfl rfl, rfl, by decide +kernel⟩
set_option maxRecDepth 20000 in
theorem fr_X3_32 : xFp RX3 32 3 8 (.array .int) true := ⟨_, _, _, rfl, by decide, by decide, xsg2 117 rfl rfl, rfl, by decide +kernel⟩
set_option maxRecDepth 20000 in
theorem fr_X3_35 : xFp RX3 35 3 0 (.object "TurnedIsland$Worths") true := ⟨_, _, _, rfl, by decide, by decide, xsg2 108 rfl rfl, rfl, by decide +kernel⟩
set_option maxRecDepth 20000 in
theorem fr_X4_9 : xFp RX4 9 4 1 (.array .int) true := ⟨_, _, _, rfl, by decide, by decide, xsg1 47 rfl rfl, rfl, by decide +kernel⟩
set_option maxRecDepth 20000 in
theorem fr_X4_15 : xFp RX4 15 4 2 (.array .int) true := ⟨_, _, _, rfl, by decide, by decide, xsg1 50 rfl rfl, rfl, by decide +kernel⟩
set_option maxRecDepth 20000 in
theorem fr_X4_18 : xFp RX4 18 4 3 (.array .int) true := ⟨_, _, _, rfl, by decide, by decide, xsg1 53 rfl rfl, rfl, by decide +kernel⟩
set_option maxRecDepth 20000 in
theorem fr_X4_21 : xFp RX4 21 4 4 (.array .int) true := ⟨_, _, _, rfl, by decide, by decide, xsg1 56 rfl rfl, rfl, by decide +kernel⟩
set_option maxRecDepth 20000 in
theorem fr_X4_24 : xFp RX4 24 4 5 (.array .int) true := ⟨_, _, _, rfl, by decide, by decide, xsg1 60 rfl rfl, rfl, by decide +kernel⟩
set_option maxRecDepth 20000 in
theorem fr_X4_27 : xFp RX4 27 4 6 (.array .int) true := ⟨_, _, _, rfl, by decide, by decide, xsg1 63 rfl rfl, rfl, by decide +kernel⟩
set_option maxRecDepth 20000 in
theorem fr_X5_11 : xFp RX5 11 5 1 (.array .int) true := ⟨_, _, _, rfl, by decide, by decide, xsg1 115 rfl rfl, rfl, by decide +kernel⟩
set_option maxRecDepth 20000 in
theorem fr_X5_15 : xFp RX5 15 5 3 (.array .int) true := ⟨_, _, _, rfl, by decide, by decide, xsg1 118 rfl rfl, rfl, by decide +kernel⟩
set_option maxRecDepth 20000 in
theorem fr_X5_18 : xFp RX5 18 5 4 (.array .int) true := ⟨_, _, _, rfl, by decide, by decide, xsg1 119 rfl rfl, rfl, by decide +kernel⟩
set_option maxRecDepth 20000 in
theorem fr_X5_21 : xFp RX5 21 5 5 (.array .int) true := ⟨_, _, _, rfl, by decide, by decide, xsg1 120 rfl rfl, rfl, by decide +kernel⟩
set_option maxRecDepth 20000 in
theorem fr_X5_24 : xFp RX5 24 5 6 (.array .int) true := ⟨_, _, _, rfl, by decide, by decide, xsg1 121 rfl rfl, rfl, by decide +kernel⟩
set_option maxRecDepth 20000 in
theorem fr_X6_11 : xFp RX6 11 6 1 (.array .int) true := ⟨_, _, _, rfl, by decide, by decide, xsg1 91 rfl rfl, rfl, by decide +kernel⟩
set_option maxRecDepth 20000 in
theorem fr_X6_15 : xFp RX6 15 6 2 (.array .int) true := ⟨_, _, _, rfl, by decide, by decide, xsg1 92 rfl rfl, rfl, by decide +kernel⟩
set_option maxRecDepth 20000 in
theorem fr_X6_18 : xFp RX6 18 6 3 (.array .int) true := ⟨_, _, _, rfl, by decide, by decide, xsg1 93 rfl rfl, rfl, by decide +kernel⟩
set_option maxRecDepth 20000 in
theorem fr_X6_21 : xFp RX6 21 6 4 (.array .int) true := ⟨_, _, _, rfl, by decide, by decide, xsg1 94 rfl rfl, rfl, by decide +kernel⟩
set_option maxRecDepth 20000 in
theorem fr_X7_15 : xFp RX7 15 7 3 (.array .char) true := ⟨_, _, _, rfl, by decide, by decide, xsg2 42 rfl rfl, rfl, by decide +kernel⟩
set_option maxRecDepth 20000 in
theorem fr_X7_19 : xFp RX7 19 7 4 (.array .int) true := ⟨_, _, _, rfl, by decide, by decide, xsg2 43 rfl rfl, rfl, by decide +kernel⟩
set_option maxRecDepth 20000 in
theorem fr_X7_23 : xFp RX7 23 7 5 (.array .int) true := ⟨_, _, _, rfl, by decide, by decide, xsg2 44 rfl rfl, rfl, by decide +kernel⟩
set_option maxRecDepth 20000 in
theorem fr_X7_26 : xFp RX7 26 7 6 (.array .int) true := ⟨_, _, _, rfl, by decide, by decide, xsg2 45 rfl rfl, rfl, by decide +kernel⟩
set_option maxRecDepth 20000 in
theorem fr_X7_32 : xFp RX7 32 7 9 (.object "TurnedIsland$Want") true := ⟨_, _, _, rfl, by decide, by decide, xsg2 48 rfl rfl, rfl, by decide +kernel⟩
set_option maxRecDepth 20000 in
theorem fr_X8_9 : xFp RX8 9 8 1 (.array .int) true := ⟨_, _, _, rfl, by decide, by decide, xsg2 156 rfl rfl, rfl, by decide +kernel⟩
set_option maxRecDepth 20000 in
theorem fr_X8_15 : xFp RX8 15 8 3 (.array .long) true := ⟨_, _, _, rfl, by decide, by decide, xsg2 159 rfl rfl, rfl, by decide +kernel⟩
set_option maxRecDepth 20000 in
theorem fr_X8_19 : xFp RX8 19 8 4 (.array .boolean) true := ⟨_, _, _, rfl, by decide, by decide, xsg2 160 rfl rfl, rfl, by decide +kernel⟩
set_option maxRecDepth 20000 in
theorem fr_X9_9 : xFp RX9 9 9 3 (.array .int) true := ⟨_, _, _, rfl, by decide, by decide, xsg1 176 rfl rfl, rfl, by decide +kernel⟩
set_option maxRecDepth 20000 in
theorem fr_X10_9 : xFp RX10 9 10 0 (.array .int) true := ⟨_, _, _, rfl, by decide, by decide, xsg2 78 rfl rfl, rfl, by decide +kernel⟩
set_option maxRecDepth 20000 in
theorem fr_X10_15 : xFp RX10 15 10 1 (.array .int) true := ⟨_, _, _, rfl, by decide, by decide, xsg2 79 rfl rfl, rfl, by decide +kernel⟩
set_option maxRecDepth 20000 in
theorem fr_X10_18 : xFp RX10 18 10 2 (.array .int) true := ⟨_, _, _, rfl, by decide, by decide, xsg2 80 rfl rfl, rfl, by decide +kernel⟩
set_option maxRecDepth 20000 in
theorem fr_X10_21 : xFp RX10 21 10 3 (.array .int) true := ⟨_, _, _, rfl, by decide, by decide, xsg2 81 rfl rfl, rfl, by decide +kernel⟩
set_option maxRecDepth 20000 in
theorem fr_X10_26 : xFp RX10 26 10 5 (.array .int) true := ⟨_, _, _, rfl, by decide, by decide, xsg2 83 rfl rfl, rfl, by decide +kernel⟩
set_option maxRecDepth 20000 in
theorem fr_X10_29 : xFp RX10 29 10 6 (.array .int) true := ⟨_, _, _, rfl, by decide, by decide, xsg2 84 rfl rfl, rfl, by decide +kernel⟩
set_option maxRecDepth 20000 in
theorem fr_X12_7 : xFp RX12 7 12 0 (.array .int) true := ⟨_, _, _, rfl, by decide, by decide, xsg5 190 rfl rfl, rfl, by decide +kernel⟩
set_option maxRecDepth 20000 in
theorem fr_X12_13 : xFp RX12 13 12 1 (.array .int) true := ⟨_, _, _, rfl, by decide, by decide, xsg5 191 rfl rfl, rfl, by decide +kernel⟩
set_option maxRecDepth 20000 in
theorem fr_X12_16 : xFp RX12 16 12 2 (.array .int) true := ⟨_, _, _, rfl, by decide, by decide, xsg5 192 rfl rfl, rfl, by decide +kernel⟩
set_option maxRecDepth 20000 in
theorem fr_X12_19 : xFp RX12 19 12 5 (.array .int) true := ⟨_, _, _, rfl, by decide, by decide, xsg5 195 rfl rfl, rfl, by decide +kernel⟩
set_option maxRecDepth 20000 in
theorem fr_X12_22 : xFp RX12 22 12 6 (.array .int) true := ⟨_, _, _, rfl, by decide, by decide, xsg5 196 rfl rfl, rfl, by decide +kernel⟩
set_option maxRecDepth 20000 in
theorem fr_X12_25 : xFp RX12 25 12 7 (.array .int) true := ⟨_, _, _, rfl, by decide, by decide, xsg5 197 rfl rfl, rfl, by decide +kernel⟩
set_option maxRecDepth 20000 in
theorem fr_X12_28 : xFp RX12 28 12 8 (.array .int) true := ⟨_, _, _, rfl, by decide, by decide, xsg5 198 rfl rfl, rfl, by decide +kernel⟩
set_option maxRecDepth 20000 in
theorem fr_X12_31 : xFp RX12 31 12 9 (.array .int) true := ⟨_, _, _, rfl, by decide, by decide, xsg5 199 rfl rfl, rfl, by decide +kernel⟩
set_option maxRecDepth 20000 in
theorem fr_X12_38 : xFp RX12 38 12 22 (.array .int) true := ⟨_, _, _, rfl, by decide, by decide, xsg5 212 rfl rfl, rfl, by decide +kernel⟩
set_option maxRecDepth 20000 in
theorem fr_X12_41 : xFp RX12 41 12 23 (.array .int) true := ⟨_, _, _, rfl, by decide, by decide, xsg5 213 rfl rfl, rfl, by decide +kernel⟩
set_option maxRecDepth 20000 in
theorem fr_X12_44 : xFp RX12 44 12 24 (.array .int) true := ⟨_, _, _, rfl, by decide, by decide, xsg5 214 rfl rfl, rfl, by decide +kernel⟩
set_option maxRecDepth 20000 in
theorem fr_X12_47 : xFp RX12 47 12 25 (.array .int) true := ⟨_, _, _, rfl, by decide, by decide, xsg5 215 rfl rfl, rfl, by decide +kernel⟩
set_option maxRecDepth 20000 in
theorem fr_X12_50 : xFp RX12 50 12 26 (.array .int) true := ⟨_, _, _, rfl, by decide, by decide, xsg5 216 rfl rfl, rfl, by decide +kernel⟩
set_option maxRecDepth 20000 in
theorem fr_X12_53 : xFp RX12 53 12 27 (.array .int) true := ⟨_, _, _, rfl, by decide, by decide, xsg5 217 rfl rfl, rfl, by decide +kernel⟩
set_option maxRecDepth 20000 in
theorem fr_X12_56 : xFp RX12 56 12 31 (.array .int) true := ⟨_, _, _, rfl, by decide, by decide, xsg5 221 rfl rfl, rfl, by decide +kernel⟩
set_option maxRecDepth 20000 in
theorem fr_X12_59 : xFp RX12 59 12 32 (.array .long) true := ⟨_, _, _, rfl, by decide, by decide, xsg5 222 rfl rfl, rfl, by decide +kernel⟩
set_option maxRecDepth 20000 in
theorem aq_X1_51 : Cond.classLink RX1 51 "TurnedIsland$Want" ∈ xT := xsg1 162 rfl rfl
set_option maxRecDepth 20000 in
theorem mn_X0_21 : Cond.classLink RX0 21 ("[" ++ (FieldType.array .int).toString) ∈ xT ∧ Cond.arrayClass .int ∈ xT := ⟨xsg2 180 rfl rfl, xsg1 81 rfl rfl⟩
set_option maxRecDepth 20000 in
theorem mn_X3_15 : Cond.classLink RX3 15 ("[" ++ (FieldType.array .int).toString) ∈ xT ∧ Cond.arrayClass .int ∈ xT := ⟨xsg2 106 rfl rfl, xsg1 81 rfl rfl⟩
set_option maxRecDepth 20000 in
theorem xrf4 : ∀ j : Nat, xrf [] (([some none, some none, some none, some none] : xF).getD j none) = none := by
  intro j
  match j with
  | 0 => rfl
  | 1 => rfl
  | 2 => rfl
  | 3 => rfl
  | j + 4 => rfl
set_option maxRecDepth 20000 in
theorem xskD36 {P : xS} (hP : P.length = 0) : xSk none 36 (P ++ [(11, 7, [some (some 1), some none, some none, some none, some none, some none, some none]), (1, 14, [none, none, none, none, none, none, some (some 2), some (some 3), some (some 4), some (some 5), some (some 12), some (some 17), some (some 23), some (some 27)]), (100, 864, []), (100, 410, []), (100, 60, []), (4, 7, [none, some (some 6), some (some 7), some (some 8), some (some 9), some (some 10), some (some 11)]), (100, 10, []), (100, 10, []), (100, 10, []), (100, 10, []), (100, 10, []), (100, 10, []), (6, 5, [none, some (some 13), some (some 14), some (some 15), some (some 16)]), (100, 60, []), (100, 60, []), (100, 60, []), (100, 60, []), (5, 7, [none, some (some 18), none, some (some 19), some (some 20), some (some 21), some (some 22)]), (100, 24, []), (100, 24, []), (100, 24, []), (100, 24, []), (100, 24, []), (2, 4, [none, some (some 24), some (some 25), some (some 26)]), (100, 40, []), (100, 40, []), (100, 40, []), (104, 4, [some (some 28), some (some 30), some (some 32), some (some 34)]), (9, 4, [none, none, none, some (some 29)]), (100, 400, []), (9, 4, [none, none, none, some (some 31)]), (100, 400, []), (9, 4, [none, none, none, some (some 33)]), (100, 400, []), (9, 4, [none, none, none, some (some 35)]), (100, 400, [])]) := by
  have e := List.length_eq_zero_iff.mp hP
  subst e
  rw [List.nil_append]
  intro i hi h0
  match i, hi, h0 with
  | 0, _, h0 => exact absurd (h0 rfl) (by decide)
  | 1, _, _ => rfl
  | 2, _, _ => rfl
  | 3, _, _ => rfl
  | 4, _, _ => rfl
  | 5, _, _ => rfl
  | 6, _, _ => rfl
  | 7, _, _ => rfl
  | 8, _, _ => rfl
  | 9, _, _ => rfl
  | 10, _, _ => rfl
  | 11, _, _ => rfl
  | 12, _, _ => rfl
  | 13, _, _ => rfl
  | 14, _, _ => rfl
  | 15, _, _ => rfl
  | 16, _, _ => rfl
  | 17, _, _ => rfl
  | 18, _, _ => rfl
  | 19, _, _ => rfl
  | 20, _, _ => rfl
  | 21, _, _ => rfl
  | 22, _, _ => rfl
  | 23, _, _ => rfl
  | 24, _, _ => rfl
  | 25, _, _ => rfl
  | 26, _, _ => rfl
  | 27, _, _ => rfl
  | 28, _, _ => rfl
  | 29, _, _ => rfl
  | 30, _, _ => rfl
  | 31, _, _ => rfl
  | 32, _, _ => rfl
  | 33, _, _ => rfl
  | 34, _, _ => rfl
  | 35, _, _ => rfl
  | q + 36, h, _ => omega
set_option maxRecDepth 20000 in
theorem xskE96 {P : xS} (hP : P = (Sk none).take 94) : xSk none 96 (P ++ [(12, 33, [some (some 95), some (some 96), some (some 97), none, none, some (some 98), some (some 99), some (some 100), some (some 101), some (some 102), none, none, none, none, none, none, none, none, none, none, none, none, some (some 103), some (some 104), some (some 105), some (some 106), some (some 107), some (some 108), none, none, none, some (some 109), some (some 110)]), (100, 5820, []), (100, 5820, []), (100, 140, []), (100, 48, []), (100, 820, []), (100, 400, []), (100, 420, []), (100, 8, []), (100, 4320, []), (100, 1464, []), (100, 30, []), (100, 6, []), (100, 6, []), (100, 10, []), (100, 10, []), (101, 984, [])]) := by
  subst hP
  intro i hi h0
  match i, hi with
  | 0, _ => rfl
  | 1, _ => rfl
  | 2, _ => rfl
  | 3, _ => rfl
  | 4, _ => rfl
  | 5, _ => rfl
  | 6, _ => rfl
  | 7, _ => rfl
  | 8, _ => rfl
  | 9, _ => rfl
  | 10, _ => rfl
  | 11, _ => rfl
  | 12, _ => rfl
  | 13, _ => rfl
  | 14, _ => rfl
  | 15, _ => rfl
  | 16, _ => rfl
  | 17, _ => rfl
  | 18, _ => rfl
  | 19, _ => rfl
  | 20, _ => rfl
  | 21, _ => rfl
  | 22, _ => rfl
  | 23, _ => rfl
  | 24, _ => rfl
  | 25, _ => rfl
  | 26, _ => rfl
  | 27, _ => rfl
  | 28, _ => rfl
  | 29, _ => rfl
  | 30, _ => rfl
  | 31, _ => rfl
  | 32, _ => rfl
  | 33, _ => rfl
  | 34, _ => rfl
  | 35, _ => rfl
  | 36, _ => rfl
  | 37, _ => rfl
  | 38, _ => rfl
  | 39, _ => rfl
  | 40, _ => rfl
  | 41, _ => rfl
  | 42, _ => rfl
  | 43, _ => rfl
  | 44, _ => rfl
  | 45, _ => rfl
  | 46, _ => rfl
  | 47, _ => rfl
  | 48, _ => rfl
  | 49, _ => rfl
  | 50, _ => rfl
  | 51, _ => rfl
  | 52, _ => rfl
  | 53, _ => rfl
  | 54, _ => rfl
  | 55, _ => rfl
  | 56, _ => rfl
  | 57, _ => rfl
  | 58, _ => rfl
  | 59, _ => rfl
  | 60, _ => rfl
  | 61, _ => rfl
  | 62, _ => rfl
  | 63, _ => rfl
  | 64, _ => rfl
  | 65, _ => rfl
  | 66, _ => rfl
  | 67, _ => rfl
  | 68, _ => rfl
  | 69, _ => rfl
  | 70, _ => rfl
  | 71, _ => rfl
  | 72, _ => rfl
  | 73, _ => rfl
  | 74, _ => rfl
  | 75, _ => rfl
  | 76, _ => rfl
  | 77, _ => rfl
  | 78, _ => rfl
  | 79, _ => rfl
  | 80, _ => rfl
  | 81, _ => rfl
  | 82, _ => rfl
  | 83, _ => rfl
  | 84, _ => rfl
  | 85, _ => rfl
  | 86, _ => rfl
  | 87, _ => rfl
  | 88, _ => rfl
  | 89, _ => rfl
  | 90, _ => rfl
  | 91, _ => rfl
  | 92, _ => rfl
  | 93, _ => rfl
  | 94, _ => rfl
  | 95, _ => rfl
  | q + 96, h => omega
set_option maxRecDepth 20000 in
abbrev Y_J0_charAt_5068e : xY := (yJ0_charAt_5068e, cJ0_charAt_5068e, 2, some .char, none)
set_option maxRecDepth 20000 in
theorem ok_J0_charAt_5068e : xYok Y_J0_charAt_5068e 1 := ⟨by decide +kernel, xsg3 88 rfl rfl, xsg1 15 rfl rfl, ⟨by decide +kernel, by decide +kernel, by decide +kernel⟩, by decide, rfl⟩
set_option maxRecDepth 20000 in
abbrev Y_J0_checkIndex_df160 : xY := (yJ0_checkIndex_df160, cJ0_checkIndex_df160, 2, none, none)
set_option maxRecDepth 20000 in
theorem ok_J0_checkIndex_df160 : xYok Y_J0_checkIndex_df160 2 := ⟨by decide +kernel, xsg3 98 rfl rfl, xsg1 15 rfl rfl, ⟨by decide +kernel, by decide +kernel, by decide +kernel⟩, by decide, rfl⟩
set_option maxRecDepth 20000 in
abbrev Y_J0_coder_7d493 : xY := (yJ0_coder_7d493, cJ0_coder_7d493, 1, some .byte, none)
set_option maxRecDepth 20000 in
theorem ok_J0_coder_7d493 : xYok Y_J0_coder_7d493 0 := ⟨by decide +kernel, xsg3 82 rfl rfl, xsg1 15 rfl rfl, ⟨by decide +kernel, by decide +kernel, by decide +kernel⟩, by decide, rfl⟩
set_option maxRecDepth 20000 in
abbrev Y_J0_indexOf_0f7a4 : xY := (yJ0_indexOf_0f7a4, cJ0_indexOf_0f7a4, 2, some .int, none)
set_option maxRecDepth 20000 in
theorem ok_J0_indexOf_0f7a4 : xYok Y_J0_indexOf_0f7a4 1 := ⟨by decide +kernel, xsg3 142 rfl rfl, xsg1 15 rfl rfl, ⟨by decide +kernel, by decide +kernel, by decide +kernel⟩, by decide, rfl⟩
set_option maxRecDepth 20000 in
abbrev Y_J0_indexOf_7cf53 : xY := (yJ0_indexOf_7cf53, cJ0_indexOf_7cf53, 3, some .int, none)
set_option maxRecDepth 20000 in
theorem ok_J0_indexOf_7cf53 : xYok Y_J0_indexOf_7cf53 2 := ⟨by decide +kernel, xsg3 146 rfl rfl, xsg1 15 rfl rfl, ⟨by decide +kernel, by decide +kernel, by decide +kernel⟩, by decide, rfl⟩
set_option maxRecDepth 20000 in
abbrev Y_J0_isLatin1_aae02 : xY := (yJ0_isLatin1_aae02, cJ0_isLatin1_aae02, 1, some .boolean, none)
set_option maxRecDepth 20000 in
theorem ok_J0_isLatin1_aae02 : xYok Y_J0_isLatin1_aae02 0 := ⟨by decide +kernel, xsg3 92 rfl rfl, xsg1 15 rfl rfl, ⟨by decide +kernel, by decide +kernel, by decide +kernel⟩, by decide, rfl⟩
set_option maxRecDepth 20000 in
abbrev Y_J0_length_8abf5 : xY := (yJ0_length_8abf5, cJ0_length_8abf5, 1, some .int, none)
set_option maxRecDepth 20000 in
theorem ok_J0_length_8abf5 : xYok Y_J0_length_8abf5 0 := ⟨by decide +kernel, xsg3 78 rfl rfl, xsg1 15 rfl rfl, ⟨by decide +kernel, by decide +kernel, by decide +kernel⟩, by decide, rfl⟩
set_option maxRecDepth 20000 in
abbrev Y_J1_canEncode_9a6ad : xY := (yJ1_canEncode_9a6ad, cJ1_canEncode_9a6ad, 1, some .boolean, none)
set_option maxRecDepth 20000 in
theorem ok_J1_canEncode_9a6ad : xYok Y_J1_canEncode_9a6ad 1 := ⟨by decide +kernel, xsg3 153 rfl rfl, xsg1 16 rfl rfl, ⟨by decide +kernel, by decide +kernel, by decide +kernel⟩, by decide, rfl⟩
set_option maxRecDepth 20000 in
abbrev Y_J1_charAt_3b067 : xY := (yJ1_charAt_3b067, cJ1_charAt_3b067, 2, some .char, none)
set_option maxRecDepth 20000 in
theorem ok_J1_charAt_3b067 : xYok Y_J1_charAt_3b067 2 := ⟨by decide +kernel, xsg3 95 rfl rfl, xsg1 16 rfl rfl, ⟨by decide +kernel, by decide +kernel, by decide +kernel⟩, by decide, rfl⟩
set_option maxRecDepth 20000 in
abbrev Y_J1_indexOfChar_4cfef : xY := (yJ1_indexOfChar_4cfef, cJ1_indexOfChar_4cfef, 6, some .int, none)
set_option maxRecDepth 20000 in
theorem ok_J1_indexOfChar_4cfef : xYok Y_J1_indexOfChar_4cfef 4 := ⟨by decide +kernel, xsg3 162 rfl rfl, xsg1 16 rfl rfl, ⟨by decide +kernel, by decide +kernel, by decide +kernel⟩, by decide, rfl⟩
set_option maxRecDepth 20000 in
abbrev Y_J1_indexOf_4cfef : xY := (yJ1_indexOf_4cfef, cJ1_indexOf_4cfef, 4, some .int, none)
set_option maxRecDepth 20000 in
theorem ok_J1_indexOf_4cfef : xYok Y_J1_indexOf_4cfef 4 := ⟨by decide +kernel, xsg3 150 rfl rfl, xsg1 16 rfl rfl, ⟨by decide +kernel, by decide +kernel, by decide +kernel⟩, by decide, rfl⟩
set_option maxRecDepth 20000 in
abbrev Y_J3_checkIndex_8e157 : xY := (yJ3_checkIndex_8e157, cJ3_checkIndex_8e157, 3, some .int, none)
set_option maxRecDepth 20000 in
theorem ok_J3_checkIndex_8e157 : xYok Y_J3_checkIndex_8e157 3 := ⟨by decide +kernel, xsg3 103 rfl rfl, xsg1 17 rfl rfl, ⟨by decide +kernel, by decide +kernel, by decide +kernel⟩, by decide, rfl⟩
set_option maxRecDepth 20000 in
abbrev Y_J6_bitCount_0f7a4 : xY := (yJ6_bitCount_0f7a4, cJ6_bitCount_0f7a4, 1, some .int, none)
set_option maxRecDepth 20000 in
theorem ok_J6_bitCount_0f7a4 : xYok Y_J6_bitCount_0f7a4 1 := ⟨by decide +kernel, xsg4 179 rfl rfl, xsg1 22 rfl rfl, ⟨by decide +kernel, by decide +kernel, by decide +kernel⟩, by decide, rfl⟩
set_option maxRecDepth 20000 in
abbrev Y_J6_numberOfTrailingZeros_0f7a4 : xY := (yJ6_numberOfTrailingZeros_0f7a4, cJ6_numberOfTrailingZeros_0f7a4, 2, some .int, none)
set_option maxRecDepth 20000 in
theorem ok_J6_numberOfTrailingZeros_0f7a4 : xYok Y_J6_numberOfTrailingZeros_0f7a4 1 := ⟨by decide +kernel, xsg5 48 rfl rfl, xsg1 22 rfl rfl, ⟨by decide +kernel, by decide +kernel, by decide +kernel⟩, by decide, rfl⟩
set_option maxRecDepth 20000 in
abbrev Y_J7_fill_53178 : xY := (yJ7_fill_53178, cJ7_fill_53178, 4, none, none)
set_option maxRecDepth 20000 in
theorem ok_J7_fill_53178 : xYok Y_J7_fill_53178 2 := ⟨by decide +kernel, xsg2 23 rfl rfl, xsg1 8 rfl rfl, ⟨by decide +kernel, by decide +kernel, by decide +kernel⟩, by decide, rfl⟩
set_option maxRecDepth 20000 in
abbrev Y_J9_floorMod_7cf53 : xY := (yJ9_floorMod_7cf53, cJ9_floorMod_7cf53, 3, some .int, none)
set_option maxRecDepth 20000 in
theorem ok_J9_floorMod_7cf53 : xYok Y_J9_floorMod_7cf53 2 := ⟨by decide +kernel, xsg4 35 rfl rfl, xsg1 19 rfl rfl, ⟨by decide +kernel, by decide +kernel, by decide +kernel⟩, by decide, rfl⟩
set_option maxRecDepth 20000 in
abbrev Y_X0_forget : xY := (yX0_forget, cX0_forget, 1, none, none)
set_option maxRecDepth 20000 in
theorem ok_X0_forget : xYok Y_X0_forget 0 := ⟨by decide +kernel, xsg2 237 rfl rfl, xsg1 13 rfl rfl, ⟨by decide +kernel, by decide +kernel, by decide +kernel⟩, by decide, rfl⟩
set_option maxRecDepth 20000 in
abbrev Y_X0_giveBack : xY := (yX0_giveBack, cX0_giveBack, 2, none, none)
set_option maxRecDepth 20000 in
theorem ok_X0_giveBack : xYok Y_X0_giveBack 1 := ⟨by decide +kernel, xsg5 141 rfl rfl, xsg1 13 rfl rfl, ⟨by decide +kernel, by decide +kernel, by decide +kernel⟩, by decide, rfl⟩
set_option maxRecDepth 20000 in
abbrev Y_X0_init : xY := (yX0_init, cX0_init, 1, none, none)
set_option maxRecDepth 20000 in
theorem ok_X0_init : xYok Y_X0_init 0 := ⟨by decide +kernel, xsg2 178 rfl rfl, xsg1 13 rfl rfl, ⟨by decide +kernel, by decide +kernel, by decide +kernel⟩, by decide, rfl⟩
set_option maxRecDepth 20000 in
abbrev Y_X0_keep : xY := (yX0_keep, cX0_keep, 2, none, none)
set_option maxRecDepth 20000 in
theorem ok_X0_keep : xYok Y_X0_keep 1 := ⟨by decide +kernel, xsg4 131 rfl rfl, xsg1 13 rfl rfl, ⟨by decide +kernel, by decide +kernel, by decide +kernel⟩, by decide, rfl⟩
set_option maxRecDepth 20000 in
abbrev Y_X10_forget : xY := (yX10_forget, cX10_forget, 1, none, none)
set_option maxRecDepth 20000 in
theorem ok_X10_forget : xYok Y_X10_forget 0 := ⟨by decide +kernel, xsg2 233 rfl rfl, xsg1 10 rfl rfl, ⟨by decide +kernel, by decide +kernel, by decide +kernel⟩, by decide, rfl⟩
set_option maxRecDepth 20000 in
abbrev Y_X10_gatherFacts : xY := (yX10_gatherFacts, cX10_gatherFacts, 7, none, none)
set_option maxRecDepth 20000 in
theorem ok_X10_gatherFacts : xYok Y_X10_gatherFacts 4 := ⟨by decide +kernel, xsg4 39 rfl rfl, xsg1 10 rfl rfl, ⟨by decide +kernel, by decide +kernel, by decide +kernel⟩, by decide, rfl⟩
set_option maxRecDepth 20000 in
abbrev Y_X10_init : xY := (yX10_init, cX10_init, 1, none, none)
set_option maxRecDepth 20000 in
theorem ok_X10_init : xYok Y_X10_init 0 := ⟨by decide +kernel, xsg2 75 rfl rfl, xsg1 10 rfl rfl, ⟨by decide +kernel, by decide +kernel, by decide +kernel⟩, by decide, rfl⟩
set_option maxRecDepth 20000 in
abbrev Y_X10_worthTo : xY := (yX10_worthTo, cX10_worthTo, 12, some .int, none)
set_option maxRecDepth 20000 in
theorem ok_X10_worthTo : xYok Y_X10_worthTo 5 := ⟨by decide +kernel, xsg4 24 rfl rfl, xsg1 10 rfl rfl, ⟨by decide +kernel, by decide +kernel, by decide +kernel⟩, by decide, rfl⟩
set_option maxRecDepth 20000 in
abbrev Y_X11_alone : xY := (yX11_alone, cX11_alone, 3, some .int, none)
set_option maxRecDepth 20000 in
theorem ok_X11_alone : xYok Y_X11_alone 2 := ⟨by decide +kernel, xsg5 21 rfl rfl, xsg1 1 rfl rfl, ⟨by decide +kernel, by decide +kernel, by decide +kernel⟩, by decide, rfl⟩
set_option maxRecDepth 20000 in
abbrev Y_X11_back : xY := (yX11_back, cX11_back, 6, some .long, none)
set_option maxRecDepth 20000 in
theorem ok_X11_back : xYok Y_X11_back 3 := ⟨by decide +kernel, xsg5 102 rfl rfl, xsg1 1 rfl rfl, ⟨by decide +kernel, by decide +kernel, by decide +kernel⟩, by decide, rfl⟩
set_option maxRecDepth 20000 in
abbrev Y_X11_best : xY := (yX11_best, cX11_best, 4, some .int, none)
set_option maxRecDepth 20000 in
theorem ok_X11_best : xYok Y_X11_best 2 := ⟨by decide +kernel, xsg4 197 rfl rfl, xsg1 1 rfl rfl, ⟨by decide +kernel, by decide +kernel, by decide +kernel⟩, by decide, rfl⟩
set_option maxRecDepth 20000 in
abbrev Y_X11_boat : xY := (yX11_boat, cX11_boat, 6, some .int, none)
set_option maxRecDepth 20000 in
theorem ok_X11_boat : xYok Y_X11_boat 3 := ⟨by decide +kernel, xsg5 90 rfl rfl, xsg1 1 rfl rfl, ⟨by decide +kernel, by decide +kernel, by decide +kernel⟩, by decide, rfl⟩
set_option maxRecDepth 20000 in
abbrev Y_X11_drop : xY := (yX11_drop, cX11_drop, 2, some .boolean, none)
set_option maxRecDepth 20000 in
theorem ok_X11_drop : xYok Y_X11_drop 1 := ⟨by decide +kernel, xsg4 86 rfl rfl, xsg1 1 rfl rfl, ⟨by decide +kernel, by decide +kernel, by decide +kernel⟩, by decide, rfl⟩
set_option maxRecDepth 20000 in
abbrev Y_X11_end : xY := (yX11_end, cX11_end, 2, some .boolean, none)
set_option maxRecDepth 20000 in
theorem ok_X11_end : xYok Y_X11_end 1 := ⟨by decide +kernel, xsg3 46 rfl rfl, xsg1 1 rfl rfl, ⟨by decide +kernel, by decide +kernel, by decide +kernel⟩, by decide, rfl⟩
set_option maxRecDepth 20000 in
abbrev Y_X11_fair : xY := (yX11_fair, cX11_fair, 3, some .int, none)
set_option maxRecDepth 20000 in
theorem ok_X11_fair : xYok Y_X11_fair 2 := ⟨by decide +kernel, xsg4 239 rfl rfl, xsg1 1 rfl rfl, ⟨by decide +kernel, by decide +kernel, by decide +kernel⟩, by decide, rfl⟩
set_option maxRecDepth 20000 in
abbrev Y_X11_fault : xY := (yX11_fault, cX11_fault, 2, some .int, none)
set_option maxRecDepth 20000 in
theorem ok_X11_fault : xYok Y_X11_fault 1 := ⟨by decide +kernel, xsg4 7 rfl rfl, xsg1 1 rfl rfl, ⟨by decide +kernel, by decide +kernel, by decide +kernel⟩, by decide, rfl⟩
set_option maxRecDepth 20000 in
abbrev Y_X11_feed : xY := (yX11_feed, cX11_feed, 6, some .int, none)
set_option maxRecDepth 20000 in
theorem ok_X11_feed : xYok Y_X11_feed 5 := ⟨by decide +kernel, xsg3 34 rfl rfl, xsg1 1 rfl rfl, ⟨by decide +kernel, by decide +kernel, by decide +kernel⟩, by decide, rfl⟩
set_option maxRecDepth 20000 in
abbrev Y_X11_fewest : xY := (yX11_fewest, cX11_fewest, 2, some .int, none)
set_option maxRecDepth 20000 in
theorem ok_X11_fewest : xYok Y_X11_fewest 1 := ⟨by decide +kernel, xsg5 73 rfl rfl, xsg1 1 rfl rfl, ⟨by decide +kernel, by decide +kernel, by decide +kernel⟩, by decide, rfl⟩
set_option maxRecDepth 20000 in
abbrev Y_X11_holder : xY := (yX11_holder, cX11_holder, 3, some .int, none)
set_option maxRecDepth 20000 in
theorem ok_X11_holder : xYok Y_X11_holder 2 := ⟨by decide +kernel, xsg4 123 rfl rfl, xsg1 1 rfl rfl, ⟨by decide +kernel, by decide +kernel, by decide +kernel⟩, by decide, rfl⟩
set_option maxRecDepth 20000 in
abbrev Y_X11_image : xY := (yX11_image, cX11_image, 2, some .boolean, none)
set_option maxRecDepth 20000 in
theorem ok_X11_image : xYok Y_X11_image 1 := ⟨by decide +kernel, xsg5 145 rfl rfl, xsg1 1 rfl rfl, ⟨by decide +kernel, by decide +kernel, by decide +kernel⟩, by decide, rfl⟩
set_option maxRecDepth 20000 in
abbrev Y_X11_init : xY := (yX11_init, cX11_init, 1, none, none)
set_option maxRecDepth 20000 in
theorem ok_X11_init : xYok Y_X11_init 0 := ⟨by decide +kernel, xsg1 27 rfl rfl, xsg1 1 rfl rfl, ⟨by decide +kernel, by decide +kernel, by decide +kernel⟩, by decide, rfl⟩
set_option maxRecDepth 20000 in
abbrev Y_X11_isDay : xY := (yX11_isDay, cX11_isDay, 1, some .boolean, none)
set_option maxRecDepth 20000 in
theorem ok_X11_isDay : xYok Y_X11_isDay 1 := ⟨by decide +kernel, xsg3 30 rfl rfl, xsg1 1 rfl rfl, ⟨by decide +kernel, by decide +kernel, by decide +kernel⟩, by decide, rfl⟩
set_option maxRecDepth 20000 in
abbrev Y_X11_isSpan : xY := (yX11_isSpan, cX11_isSpan, 2, some .boolean, none)
set_option maxRecDepth 20000 in
theorem ok_X11_isSpan : xYok Y_X11_isSpan 2 := ⟨by decide +kernel, xsg4 62 rfl rfl, xsg1 1 rfl rfl, ⟨by decide +kernel, by decide +kernel, by decide +kernel⟩, by decide, rfl⟩
set_option maxRecDepth 20000 in
abbrev Y_X11_isTurn : xY := (yX11_isTurn, cX11_isTurn, 1, some .boolean, none)
set_option maxRecDepth 20000 in
theorem ok_X11_isTurn : xYok Y_X11_isTurn 1 := ⟨by decide +kernel, xsg4 19 rfl rfl, xsg1 1 rfl rfl, ⟨by decide +kernel, by decide +kernel, by decide +kernel⟩, by decide, rfl⟩
set_option maxRecDepth 20000 in
abbrev Y_X11_isTurnOf : xY := (yX11_isTurnOf, cX11_isTurnOf, 2, some .boolean, none)
set_option maxRecDepth 20000 in
theorem ok_X11_isTurnOf : xYok Y_X11_isTurnOf 2 := ⟨by decide +kernel, xsg4 200 rfl rfl, xsg1 1 rfl rfl, ⟨by decide +kernel, by decide +kernel, by decide +kernel⟩, by decide, rfl⟩
set_option maxRecDepth 20000 in
abbrev Y_X11_leave : xY := (yX11_leave, cX11_leave, 2, some .int, none)
set_option maxRecDepth 20000 in
theorem ok_X11_leave : xYok Y_X11_leave 1 := ⟨by decide +kernel, xsg5 36 rfl rfl, xsg1 1 rfl rfl, ⟨by decide +kernel, by decide +kernel, by decide +kernel⟩, by decide, rfl⟩
set_option maxRecDepth 20000 in
abbrev Y_X11_log : xY := (yX11_log, cX11_log, 4, some .boolean, none)
set_option maxRecDepth 20000 in
theorem ok_X11_log : xYok Y_X11_log 3 := ⟨by decide +kernel, xsg5 94 rfl rfl, xsg1 1 rfl rfl, ⟨by decide +kernel, by decide +kernel, by decide +kernel⟩, by decide, rfl⟩
set_option maxRecDepth 20000 in
abbrev Y_X11_look : xY := (yX11_look, cX11_look, 2, some .int, none)
set_option maxRecDepth 20000 in
theorem ok_X11_look : xYok Y_X11_look 1 := ⟨by decide +kernel, xsg5 179 rfl rfl, xsg1 1 rfl rfl, ⟨by decide +kernel, by decide +kernel, by decide +kernel⟩, by decide, rfl⟩
set_option maxRecDepth 20000 in
abbrev Y_X11_mayBeSet : xY := (yX11_mayBeSet, cX11_mayBeSet, 3, some .boolean, none)
set_option maxRecDepth 20000 in
theorem ok_X11_mayBeSet : xYok Y_X11_mayBeSet 2 := ⟨by decide +kernel, xsg3 27 rfl rfl, xsg1 1 rfl rfl, ⟨by decide +kernel, by decide +kernel, by decide +kernel⟩, by decide, rfl⟩
set_option maxRecDepth 20000 in
abbrev Y_X11_noons : xY := (yX11_noons, cX11_noons, 4, some .int, none)
set_option maxRecDepth 20000 in
theorem ok_X11_noons : xYok Y_X11_noons 1 := ⟨by decide +kernel, xsg4 127 rfl rfl, xsg1 1 rfl rfl, ⟨by decide +kernel, by decide +kernel, by decide +kernel⟩, by decide, rfl⟩
set_option maxRecDepth 20000 in
abbrev Y_X11_notches : xY := (yX11_notches, cX11_notches, 2, some .boolean, none)
set_option maxRecDepth 20000 in
theorem ok_X11_notches : xYok Y_X11_notches 1 := ⟨by decide +kernel, xsg2 226 rfl rfl, xsg1 1 rfl rfl, ⟨by decide +kernel, by decide +kernel, by decide +kernel⟩, by decide, rfl⟩
set_option maxRecDepth 20000 in
abbrev Y_X11_of : xY := (yX11_of, cX11_of, 3, some .int, none)
set_option maxRecDepth 20000 in
theorem ok_X11_of : xYok Y_X11_of 2 := ⟨by decide +kernel, xsg4 171 rfl rfl, xsg1 1 rfl rfl, ⟨by decide +kernel, by decide +kernel, by decide +kernel⟩, by decide, rfl⟩
set_option maxRecDepth 20000 in
abbrev Y_X11_passNoon : xY := (yX11_passNoon, cX11_passNoon, 4, some .int, none)
set_option maxRecDepth 20000 in
theorem ok_X11_passNoon : xYok Y_X11_passNoon 0 := ⟨by decide +kernel, xsg4 137 rfl rfl, xsg1 1 rfl rfl, ⟨by decide +kernel, by decide +kernel, by decide +kernel⟩, by decide, rfl⟩
set_option maxRecDepth 20000 in
abbrev Y_X11_pay : xY := (yX11_pay, cX11_pay, 3, some .boolean, none)
set_option maxRecDepth 20000 in
theorem ok_X11_pay : xYok Y_X11_pay 2 := ⟨by decide +kernel, xsg5 32 rfl rfl, xsg1 1 rfl rfl, ⟨by decide +kernel, by decide +kernel, by decide +kernel⟩, by decide, rfl⟩
set_option maxRecDepth 20000 in
abbrev Y_X11_plan : xY := (yX11_plan, cX11_plan, 3, some .boolean, none)
set_option maxRecDepth 20000 in
theorem ok_X11_plan : xYok Y_X11_plan 2 := ⟨by decide +kernel, xsg5 86 rfl rfl, xsg1 1 rfl rfl, ⟨by decide +kernel, by decide +kernel, by decide +kernel⟩, by decide, rfl⟩
set_option maxRecDepth 20000 in
abbrev Y_X11_plot : xY := (yX11_plot, cX11_plot, 5, some .int, none)
set_option maxRecDepth 20000 in
theorem ok_X11_plot : xYok Y_X11_plot 4 := ⟨by decide +kernel, xsg3 13 rfl rfl, xsg1 1 rfl rfl, ⟨by decide +kernel, by decide +kernel, by decide +kernel⟩, by decide, rfl⟩
set_option maxRecDepth 20000 in
abbrev Y_X11_promise : xY := (yX11_promise, cX11_promise, 5, some .int, none)
set_option maxRecDepth 20000 in
theorem ok_X11_promise : xYok Y_X11_promise 4 := ⟨by decide +kernel, xsg4 74 rfl rfl, xsg1 1 rfl rfl, ⟨by decide +kernel, by decide +kernel, by decide +kernel⟩, by decide, rfl⟩
set_option maxRecDepth 20000 in
abbrev Y_X11_quarrel : xY := (yX11_quarrel, cX11_quarrel, 1, some .int, none)
set_option maxRecDepth 20000 in
theorem ok_X11_quarrel : xYok Y_X11_quarrel 0 := ⟨by decide +kernel, xsg5 61 rfl rfl, xsg1 1 rfl rfl, ⟨by decide +kernel, by decide +kernel, by decide +kernel⟩, by decide, rfl⟩
set_option maxRecDepth 20000 in
abbrev Y_X11_sell : xY := (yX11_sell, cX11_sell, 6, some .boolean, none)
set_option maxRecDepth 20000 in
theorem ok_X11_sell : xYok Y_X11_sell 5 := ⟨by decide +kernel, xsg4 59 rfl rfl, xsg1 1 rfl rfl, ⟨by decide +kernel, by decide +kernel, by decide +kernel⟩, by decide, rfl⟩
set_option maxRecDepth 20000 in
abbrev Y_X11_set : xY := (yX11_set, cX11_set, 3, some .boolean, none)
set_option maxRecDepth 20000 in
theorem ok_X11_set : xYok Y_X11_set 2 := ⟨by decide +kernel, xsg3 23 rfl rfl, xsg1 1 rfl rfl, ⟨by decide +kernel, by decide +kernel, by decide +kernel⟩, by decide, rfl⟩
set_option maxRecDepth 20000 in
abbrev Y_X11_sky : xY := (yX11_sky, cX11_sky, 5, some .boolean, none)
set_option maxRecDepth 20000 in
theorem ok_X11_sky : xYok Y_X11_sky 4 := ⟨by decide +kernel, xsg3 1 rfl rfl, xsg1 1 rfl rfl, ⟨by decide +kernel, by decide +kernel, by decide +kernel⟩, by decide, rfl⟩
set_option maxRecDepth 20000 in
abbrev Y_X11_takeImage : xY := (yX11_takeImage, cX11_takeImage, 1, none, none)
set_option maxRecDepth 20000 in
theorem ok_X11_takeImage : xYok Y_X11_takeImage 0 := ⟨by decide +kernel, xsg5 149 rfl rfl, xsg1 1 rfl rfl, ⟨by decide +kernel, by decide +kernel, by decide +kernel⟩, by decide, rfl⟩
set_option maxRecDepth 20000 in
abbrev Y_X11_text : xY := (yX11_text, cX11_text, 3, some .int, none)
set_option maxRecDepth 20000 in
theorem ok_X11_text : xYok Y_X11_text 1 := ⟨by decide +kernel, xsg3 50 rfl rfl, xsg1 1 rfl rfl, ⟨by decide +kernel, by decide +kernel, by decide +kernel⟩, by decide, rfl⟩
set_option maxRecDepth 20000 in
abbrev Y_X11_turned : xY := (yX11_turned, cX11_turned, 2, some .int, none)
set_option maxRecDepth 20000 in
theorem ok_X11_turned : xYok Y_X11_turned 1 := ⟨by decide +kernel, xsg4 192 rfl rfl, xsg1 1 rfl rfl, ⟨by decide +kernel, by decide +kernel, by decide +kernel⟩, by decide, rfl⟩
set_option maxRecDepth 20000 in
abbrev Y_X11_undo : xY := (yX11_undo, cX11_undo, 1, some .boolean, none)
set_option maxRecDepth 20000 in
theorem ok_X11_undo : xYok Y_X11_undo 0 := ⟨by decide +kernel, xsg5 137 rfl rfl, xsg1 1 rfl rfl, ⟨by decide +kernel, by decide +kernel, by decide +kernel⟩, by decide, rfl⟩
set_option maxRecDepth 20000 in
abbrev Y_X11_voteOf : xY := (yX11_voteOf, cX11_voteOf, 9, some .int, none)
set_option maxRecDepth 20000 in
theorem ok_X11_voteOf : xYok Y_X11_voteOf 1 := ⟨by decide +kernel, xsg4 111 rfl rfl, xsg1 1 rfl rfl, ⟨by decide +kernel, by decide +kernel, by decide +kernel⟩, by decide, rfl⟩
set_option maxRecDepth 20000 in
abbrev Y_X11_votes : xY := (yX11_votes, cX11_votes, 2, some .int, none)
set_option maxRecDepth 20000 in
theorem ok_X11_votes : xYok Y_X11_votes 1 := ⟨by decide +kernel, xsg4 99 rfl rfl, xsg1 1 rfl rfl, ⟨by decide +kernel, by decide +kernel, by decide +kernel⟩, by decide, rfl⟩
set_option maxRecDepth 20000 in
abbrev Y_X11_within : xY := (yX11_within, cX11_within, 3, some .boolean, none)
set_option maxRecDepth 20000 in
theorem ok_X11_within : xYok Y_X11_within 3 := ⟨by decide +kernel, xsg2 229 rfl rfl, xsg1 1 rfl rfl, ⟨by decide +kernel, by decide +kernel, by decide +kernel⟩, by decide, rfl⟩
set_option maxRecDepth 20000 in
abbrev Y_X11_worth : xY := (yX11_worth, cX11_worth, 5, some .int, none)
set_option maxRecDepth 20000 in
theorem ok_X11_worth : xYok Y_X11_worth 4 := ⟨by decide +kernel, xsg4 11 rfl rfl, xsg1 1 rfl rfl, ⟨by decide +kernel, by decide +kernel, by decide +kernel⟩, by decide, rfl⟩
set_option maxRecDepth 20000 in
abbrev Y_X11_wrap : xY := (yX11_wrap, cX11_wrap, 2, some .int, none)
set_option maxRecDepth 20000 in
theorem ok_X11_wrap : xYok Y_X11_wrap 2 := ⟨by decide +kernel, xsg4 32 rfl rfl, xsg1 1 rfl rfl, ⟨by decide +kernel, by decide +kernel, by decide +kernel⟩, by decide, rfl⟩
set_option maxRecDepth 20000 in
abbrev Y_X12_aLine : xY := (yX12_aLine, cX12_aLine, 1, some .boolean, none)
set_option maxRecDepth 20000 in
theorem ok_X12_aLine : xYok Y_X12_aLine 0 := ⟨by decide +kernel, xsg6 134 rfl rfl, xsg1 14 rfl rfl, ⟨by decide +kernel, by decide +kernel, by decide +kernel⟩, by decide, rfl⟩
set_option maxRecDepth 20000 in
abbrev Y_X12_aNoon : xY := (yX12_aNoon, cX12_aNoon, 8, some .int, none)
set_option maxRecDepth 20000 in
theorem ok_X12_aNoon : xYok Y_X12_aNoon 0 := ⟨by decide +kernel, xsg7 27 rfl rfl, xsg1 14 rfl rfl, ⟨by decide +kernel, by decide +kernel, by decide +kernel⟩, by decide, rfl⟩
set_option maxRecDepth 20000 in
abbrev Y_X12_allPlots : xY := (yX12_allPlots, cX12_allPlots, 1, some .int, none)
set_option maxRecDepth 20000 in
theorem ok_X12_allPlots : xYok Y_X12_allPlots 0 := ⟨by decide +kernel, xsg7 39 rfl rfl, xsg1 14 rfl rfl, ⟨by decide +kernel, by decide +kernel, by decide +kernel⟩, by decide, rfl⟩
set_option maxRecDepth 20000 in
abbrev Y_X12_alone : xY := (yX12_alone, cX12_alone, 3, some .int, none)
set_option maxRecDepth 20000 in
theorem ok_X12_alone : xYok Y_X12_alone 2 := ⟨by decide +kernel, xsg7 97 rfl rfl, xsg1 14 rfl rfl, ⟨by decide +kernel, by decide +kernel, by decide +kernel⟩, by decide, rfl⟩
set_option maxRecDepth 20000 in
abbrev Y_X12_aloneOf : xY := (yX12_aloneOf, cX12_aloneOf, 3, some .int, none)
set_option maxRecDepth 20000 in
theorem ok_X12_aloneOf : xYok Y_X12_aloneOf 2 := ⟨by decide +kernel, xsg7 101 rfl rfl, xsg1 14 rfl rfl, ⟨by decide +kernel, by decide +kernel, by decide +kernel⟩, by decide, rfl⟩
set_option maxRecDepth 20000 in
abbrev Y_X12_any : xY := (yX12_any, cX12_any, 1, some .boolean, none)
set_option maxRecDepth 20000 in
theorem ok_X12_any : xYok Y_X12_any 0 := ⟨by decide +kernel, xsg6 158 rfl rfl, xsg1 14 rfl rfl, ⟨by decide +kernel, by decide +kernel, by decide +kernel⟩, by decide, rfl⟩
set_option maxRecDepth 20000 in
abbrev Y_X12_areAtOdds : xY := (yX12_areAtOdds, cX12_areAtOdds, 5, some .boolean, none)
set_option maxRecDepth 20000 in
theorem ok_X12_areAtOdds : xYok Y_X12_areAtOdds 2 := ⟨by decide +kernel, xsg7 117 rfl rfl, xsg1 14 rfl rfl, ⟨by decide +kernel, by decide +kernel, by decide +kernel⟩, by decide, rfl⟩
set_option maxRecDepth 20000 in
abbrev Y_X12_back : xY := (yX12_back, cX12_back, 12, some .long, none)
set_option maxRecDepth 20000 in
theorem ok_X12_back : xYok Y_X12_back 3 := ⟨by decide +kernel, xsg7 141 rfl rfl, xsg1 14 rfl rfl, ⟨by decide +kernel, by decide +kernel, by decide +kernel⟩, by decide, rfl⟩
set_option maxRecDepth 20000 in
abbrev Y_X12_bad : xY := (yX12_bad, cX12_bad, 2, some .boolean, none)
set_option maxRecDepth 20000 in
theorem ok_X12_bad : xYok Y_X12_bad 1 := ⟨by decide +kernel, xsg6 138 rfl rfl, xsg1 14 rfl rfl, ⟨by decide +kernel, by decide +kernel, by decide +kernel⟩, by decide, rfl⟩
set_option maxRecDepth 20000 in
abbrev Y_X12_begins : xY := (yX12_begins, cX12_begins, 3, none, none)
set_option maxRecDepth 20000 in
theorem ok_X12_begins : xYok Y_X12_begins 1 := ⟨by decide +kernel, xsg5 189 rfl rfl, xsg1 14 rfl rfl, ⟨by decide +kernel, by decide +kernel, by decide +kernel⟩, by decide, rfl⟩
set_option maxRecDepth 20000 in
abbrev Y_X12_best : xY := (yX12_best, cX12_best, 4, some .int, none)
set_option maxRecDepth 20000 in
theorem ok_X12_best : xYok Y_X12_best 2 := ⟨by decide +kernel, xsg7 65 rfl rfl, xsg1 14 rfl rfl, ⟨by decide +kernel, by decide +kernel, by decide +kernel⟩, by decide, rfl⟩
set_option maxRecDepth 20000 in
abbrev Y_X12_boat : xY := (yX12_boat, cX12_boat, 6, some .int, none)
set_option maxRecDepth 20000 in
theorem ok_X12_boat : xYok Y_X12_boat 3 := ⟨by decide +kernel, xsg7 133 rfl rfl, xsg1 14 rfl rfl, ⟨by decide +kernel, by decide +kernel, by decide +kernel⟩, by decide, rfl⟩
set_option maxRecDepth 20000 in
abbrev Y_X12_both : xY := (yX12_both, cX12_both, 3, some .int, none)
set_option maxRecDepth 20000 in
theorem ok_X12_both : xYok Y_X12_both 3 := ⟨by decide +kernel, xsg6 208 rfl rfl, xsg1 14 rfl rfl, ⟨by decide +kernel, by decide +kernel, by decide +kernel⟩, by decide, rfl⟩
set_option maxRecDepth 20000 in
abbrev Y_X12_canBe : xY := (yX12_canBe, cX12_canBe, 7, some .boolean, none)
set_option maxRecDepth 20000 in
theorem ok_X12_canBe : xYok Y_X12_canBe 4 := ⟨by decide +kernel, xsg7 125 rfl rfl, xsg1 14 rfl rfl, ⟨by decide +kernel, by decide +kernel, by decide +kernel⟩, by decide, rfl⟩
set_option maxRecDepth 20000 in
abbrev Y_X12_comesTo : xY := (yX12_comesTo, cX12_comesTo, 8, some .int, none)
set_option maxRecDepth 20000 in
theorem ok_X12_comesTo : xYok Y_X12_comesTo 3 := ⟨by decide +kernel, xsg6 205 rfl rfl, xsg1 14 rfl rfl, ⟨by decide +kernel, by decide +kernel, by decide +kernel⟩, by decide, rfl⟩
set_option maxRecDepth 20000 in
abbrev Y_X12_count : xY := (yX12_count, cX12_count, 3, some .int, none)
set_option maxRecDepth 20000 in
theorem ok_X12_count : xYok Y_X12_count 1 := ⟨by decide +kernel, xsg7 58 rfl rfl, xsg1 14 rfl rfl, ⟨by decide +kernel, by decide +kernel, by decide +kernel⟩, by decide, rfl⟩
set_option maxRecDepth 20000 in
abbrev Y_X12_drop : xY := (yX12_drop, cX12_drop, 2, some .boolean, none)
set_option maxRecDepth 20000 in
theorem ok_X12_drop : xYok Y_X12_drop 1 := ⟨by decide +kernel, xsg6 239 rfl rfl, xsg1 14 rfl rfl, ⟨by decide +kernel, by decide +kernel, by decide +kernel⟩, by decide, rfl⟩
set_option maxRecDepth 20000 in
abbrev Y_X12_end : xY := (yX12_end, cX12_end, 2, some .boolean, none)
set_option maxRecDepth 20000 in
theorem ok_X12_end : xYok Y_X12_end 1 := ⟨by decide +kernel, xsg6 86 rfl rfl, xsg1 14 rfl rfl, ⟨by decide +kernel, by decide +kernel, by decide +kernel⟩, by decide, rfl⟩
set_option maxRecDepth 20000 in
abbrev Y_X12_every : xY := (yX12_every, cX12_every, 1, some .boolean, none)
set_option maxRecDepth 20000 in
theorem ok_X12_every : xYok Y_X12_every 0 := ⟨by decide +kernel, xsg6 162 rfl rfl, xsg1 14 rfl rfl, ⟨by decide +kernel, by decide +kernel, by decide +kernel⟩, by decide, rfl⟩
set_option maxRecDepth 20000 in
abbrev Y_X12_fair : xY := (yX12_fair, cX12_fair, 3, some .int, none)
set_option maxRecDepth 20000 in
theorem ok_X12_fair : xYok Y_X12_fair 2 := ⟨by decide +kernel, xsg7 89 rfl rfl, xsg1 14 rfl rfl, ⟨by decide +kernel, by decide +kernel, by decide +kernel⟩, by decide, rfl⟩
set_option maxRecDepth 20000 in
abbrev Y_X12_fault : xY := (yX12_fault, cX12_fault, 2, some .int, none)
set_option maxRecDepth 20000 in
theorem ok_X12_fault : xYok Y_X12_fault 1 := ⟨by decide +kernel, xsg6 178 rfl rfl, xsg1 14 rfl rfl, ⟨by decide +kernel, by decide +kernel, by decide +kernel⟩, by decide, rfl⟩
set_option maxRecDepth 20000 in
abbrev Y_X12_feed : xY := (yX12_feed, cX12_feed, 8, some .int, none)
set_option maxRecDepth 20000 in
theorem ok_X12_feed : xYok Y_X12_feed 5 := ⟨by decide +kernel, xsg6 82 rfl rfl, xsg1 14 rfl rfl, ⟨by decide +kernel, by decide +kernel, by decide +kernel⟩, by decide, rfl⟩
set_option maxRecDepth 20000 in
abbrev Y_X12_fewest : xY := (yX12_fewest, cX12_fewest, 6, some .int, none)
set_option maxRecDepth 20000 in
theorem ok_X12_fewest : xYok Y_X12_fewest 1 := ⟨by decide +kernel, xsg7 121 rfl rfl, xsg1 14 rfl rfl, ⟨by decide +kernel, by decide +kernel, by decide +kernel⟩, by decide, rfl⟩
set_option maxRecDepth 20000 in
abbrev Y_X12_forgets : xY := (yX12_forgets, cX12_forgets, 1, none, none)
set_option maxRecDepth 20000 in
theorem ok_X12_forgets : xYok Y_X12_forgets 0 := ⟨by decide +kernel, xsg6 68 rfl rfl, xsg1 14 rfl rfl, ⟨by decide +kernel, by decide +kernel, by decide +kernel⟩, by decide, rfl⟩
set_option maxRecDepth 20000 in
abbrev Y_X12_gives : xY := (yX12_gives, cX12_gives, 3, none, none)
set_option maxRecDepth 20000 in
theorem ok_X12_gives : xYok Y_X12_gives 2 := ⟨by decide +kernel, xsg6 231 rfl rfl, xsg1 14 rfl rfl, ⟨by decide +kernel, by decide +kernel, by decide +kernel⟩, by decide, rfl⟩
set_option maxRecDepth 20000 in
abbrev Y_X12_goesWith : xY := (yX12_goesWith, cX12_goesWith, 5, some .boolean, none)
set_option maxRecDepth 20000 in
theorem ok_X12_goesWith : xYok Y_X12_goesWith 2 := ⟨by decide +kernel, xsg7 150 rfl rfl, xsg1 14 rfl rfl, ⟨by decide +kernel, by decide +kernel, by decide +kernel⟩, by decide, rfl⟩
set_option maxRecDepth 20000 in
abbrev Y_X12_holder : xY := (yX12_holder, cX12_holder, 3, some .int, none)
set_option maxRecDepth 20000 in
theorem ok_X12_holder : xYok Y_X12_holder 2 := ⟨by decide +kernel, xsg6 215 rfl rfl, xsg1 14 rfl rfl, ⟨by decide +kernel, by decide +kernel, by decide +kernel⟩, by decide, rfl⟩
set_option maxRecDepth 20000 in
abbrev Y_X12_holderOf : xY := (yX12_holderOf, cX12_holderOf, 4, some .int, none)
set_option maxRecDepth 20000 in
theorem ok_X12_holderOf : xYok Y_X12_holderOf 2 := ⟨by decide +kernel, xsg6 219 rfl rfl, xsg1 14 rfl rfl, ⟨by decide +kernel, by decide +kernel, by decide +kernel⟩, by decide, rfl⟩
set_option maxRecDepth 20000 in
abbrev Y_X12_image : xY := (yX12_image, cX12_image, 3, some .boolean, none)
set_option maxRecDepth 20000 in
theorem ok_X12_image : xYok Y_X12_image 1 := ⟨by decide +kernel, xsg7 156 rfl rfl, xsg1 14 rfl rfl, ⟨by decide +kernel, by decide +kernel, by decide +kernel⟩, by decide, rfl⟩
set_option maxRecDepth 20000 in
abbrev Y_X12_init : xY := (yX12_init, cX12_init, 1, none, none)
set_option maxRecDepth 20000 in
theorem ok_X12_init : xYok Y_X12_init 0 := ⟨by decide +kernel, xsg5 184 rfl rfl, xsg1 14 rfl rfl, ⟨by decide +kernel, by decide +kernel, by decide +kernel⟩, by decide, rfl⟩
set_option maxRecDepth 20000 in
abbrev Y_X12_is : xY := (yX12_is, cX12_is, 4, some .boolean, none)
set_option maxRecDepth 20000 in
theorem ok_X12_is : xYok Y_X12_is 1 := ⟨by decide +kernel, xsg6 110 rfl rfl, xsg1 14 rfl rfl, ⟨by decide +kernel, by decide +kernel, by decide +kernel⟩, by decide, rfl⟩
set_option maxRecDepth 20000 in
abbrev Y_X12_isAngle : xY := (yX12_isAngle, cX12_isAngle, 2, some .boolean, none)
set_option maxRecDepth 20000 in
theorem ok_X12_isAngle : xYok Y_X12_isAngle 1 := ⟨by decide +kernel, xsg6 64 rfl rfl, xsg1 14 rfl rfl, ⟨by decide +kernel, by decide +kernel, by decide +kernel⟩, by decide, rfl⟩
set_option maxRecDepth 20000 in
abbrev Y_X12_isDay : xY := (yX12_isDay, cX12_isDay, 1, some .boolean, none)
set_option maxRecDepth 20000 in
theorem ok_X12_isDay : xYok Y_X12_isDay 1 := ⟨by decide +kernel, xsg6 189 rfl rfl, xsg1 14 rfl rfl, ⟨by decide +kernel, by decide +kernel, by decide +kernel⟩, by decide, rfl⟩
set_option maxRecDepth 20000 in
abbrev Y_X12_isDigit : xY := (yX12_isDigit, cX12_isDigit, 1, some .boolean, none)
set_option maxRecDepth 20000 in
theorem ok_X12_isDigit : xYok Y_X12_isDigit 1 := ⟨by decide +kernel, xsg6 130 rfl rfl, xsg1 14 rfl rfl, ⟨by decide +kernel, by decide +kernel, by decide +kernel⟩, by decide, rfl⟩
set_option maxRecDepth 20000 in
abbrev Y_X12_isEnough : xY := (yX12_isEnough, cX12_isEnough, 2, some .boolean, none)
set_option maxRecDepth 20000 in
theorem ok_X12_isEnough : xYok Y_X12_isEnough 1 := ⟨by decide +kernel, xsg7 31 rfl rfl, xsg1 14 rfl rfl, ⟨by decide +kernel, by decide +kernel, by decide +kernel⟩, by decide, rfl⟩
set_option maxRecDepth 20000 in
abbrev Y_X12_isIn : xY := (yX12_isIn, cX12_isIn, 3, some .boolean, none)
set_option maxRecDepth 20000 in
theorem ok_X12_isIn : xYok Y_X12_isIn 3 := ⟨by decide +kernel, xsg6 56 rfl rfl, xsg1 14 rfl rfl, ⟨by decide +kernel, by decide +kernel, by decide +kernel⟩, by decide, rfl⟩
set_option maxRecDepth 20000 in
abbrev Y_X12_isLetter : xY := (yX12_isLetter, cX12_isLetter, 1, some .boolean, none)
set_option maxRecDepth 20000 in
theorem ok_X12_isLetter : xYok Y_X12_isLetter 1 := ⟨by decide +kernel, xsg6 101 rfl rfl, xsg1 14 rfl rfl, ⟨by decide +kernel, by decide +kernel, by decide +kernel⟩, by decide, rfl⟩
set_option maxRecDepth 20000 in
abbrev Y_X12_isPlot : xY := (yX12_isPlot, cX12_isPlot, 2, some .boolean, none)
set_option maxRecDepth 20000 in
theorem ok_X12_isPlot : xYok Y_X12_isPlot 1 := ⟨by decide +kernel, xsg6 186 rfl rfl, xsg1 14 rfl rfl, ⟨by decide +kernel, by decide +kernel, by decide +kernel⟩, by decide, rfl⟩
set_option maxRecDepth 20000 in
abbrev Y_X12_keeps : xY := (yX12_keeps, cX12_keeps, 3, none, none)
set_option maxRecDepth 20000 in
theorem ok_X12_keeps : xYok Y_X12_keeps 0 := ⟨by decide +kernel, xsg7 23 rfl rfl, xsg1 14 rfl rfl, ⟨by decide +kernel, by decide +kernel, by decide +kernel⟩, by decide, rfl⟩
set_option maxRecDepth 20000 in
abbrev Y_X12_lay : xY := (yX12_lay, cX12_lay, 3, none, none)
set_option maxRecDepth 20000 in
theorem ok_X12_lay : xYok Y_X12_lay 2 := ⟨by decide +kernel, xsg6 154 rfl rfl, xsg1 14 rfl rfl, ⟨by decide +kernel, by decide +kernel, by decide +kernel⟩, by decide, rfl⟩
set_option maxRecDepth 20000 in
abbrev Y_X12_laysBest : xY := (yX12_laysBest, cX12_laysBest, 9, none, none)
set_option maxRecDepth 20000 in
theorem ok_X12_laysBest : xYok Y_X12_laysBest 3 := ⟨by decide +kernel, xsg7 74 rfl rfl, xsg1 14 rfl rfl, ⟨by decide +kernel, by decide +kernel, by decide +kernel⟩, by decide, rfl⟩
set_option maxRecDepth 20000 in
abbrev Y_X12_laysTurns : xY := (yX12_laysTurns, cX12_laysTurns, 5, some .int, none)
set_option maxRecDepth 20000 in
theorem ok_X12_laysTurns : xYok Y_X12_laysTurns 1 := ⟨by decide +kernel, xsg7 70 rfl rfl, xsg1 14 rfl rfl, ⟨by decide +kernel, by decide +kernel, by decide +kernel⟩, by decide, rfl⟩
set_option maxRecDepth 20000 in
abbrev Y_X12_laysWays : xY := (yX12_laysWays, cX12_laysWays, 9, none, none)
set_option maxRecDepth 20000 in
theorem ok_X12_laysWays : xYok Y_X12_laysWays 2 := ⟨by decide +kernel, xsg7 146 rfl rfl, xsg1 14 rfl rfl, ⟨by decide +kernel, by decide +kernel, by decide +kernel⟩, by decide, rfl⟩
set_option maxRecDepth 20000 in
abbrev Y_X12_leave : xY := (yX12_leave, cX12_leave, 6, some .int, none)
set_option maxRecDepth 20000 in
theorem ok_X12_leave : xYok Y_X12_leave 1 := ⟨by decide +kernel, xsg7 109 rfl rfl, xsg1 14 rfl rfl, ⟨by decide +kernel, by decide +kernel, by decide +kernel⟩, by decide, rfl⟩
set_option maxRecDepth 20000 in
abbrev Y_X12_log : xY := (yX12_log, cX12_log, 5, some .boolean, none)
set_option maxRecDepth 20000 in
theorem ok_X12_log : xYok Y_X12_log 3 := ⟨by decide +kernel, xsg7 137 rfl rfl, xsg1 14 rfl rfl, ⟨by decide +kernel, by decide +kernel, by decide +kernel⟩, by decide, rfl⟩
set_option maxRecDepth 20000 in
abbrev Y_X12_look : xY := (yX12_look, cX12_look, 2, some .int, none)
set_option maxRecDepth 20000 in
theorem ok_X12_look : xYok Y_X12_look 1 := ⟨by decide +kernel, xsg7 160 rfl rfl, xsg1 14 rfl rfl, ⟨by decide +kernel, by decide +kernel, by decide +kernel⟩, by decide, rfl⟩
set_option maxRecDepth 20000 in
abbrev Y_X12_modulo : xY := (yX12_modulo, cX12_modulo, 2, some .int, none)
set_option maxRecDepth 20000 in
theorem ok_X12_modulo : xYok Y_X12_modulo 1 := ⟨by decide +kernel, xsg6 201 rfl rfl, xsg1 14 rfl rfl, ⟨by decide +kernel, by decide +kernel, by decide +kernel⟩, by decide, rfl⟩
set_option maxRecDepth 20000 in
abbrev Y_X12_nameWord : xY := (yX12_nameWord, cX12_nameWord, 1, some .int, none)
set_option maxRecDepth 20000 in
theorem ok_X12_nameWord : xYok Y_X12_nameWord 0 := ⟨by decide +kernel, xsg6 120 rfl rfl, xsg1 14 rfl rfl, ⟨by decide +kernel, by decide +kernel, by decide +kernel⟩, by decide, rfl⟩
set_option maxRecDepth 20000 in
abbrev Y_X12_need : xY := (yX12_need, cX12_need, 2, some .boolean, none)
set_option maxRecDepth 20000 in
theorem ok_X12_need : xYok Y_X12_need 1 := ⟨by decide +kernel, xsg6 174 rfl rfl, xsg1 14 rfl rfl, ⟨by decide +kernel, by decide +kernel, by decide +kernel⟩, by decide, rfl⟩
set_option maxRecDepth 20000 in
abbrev Y_X12_next0 : xY := (yX12_next0, cX12_next0, 3, none, none)
set_option maxRecDepth 20000 in
theorem ok_X12_next0 : xYok Y_X12_next0 0 := ⟨by decide +kernel, xsg6 94 rfl rfl, xsg1 14 rfl rfl, ⟨by decide +kernel, by decide +kernel, by decide +kernel⟩, by decide, rfl⟩
set_option maxRecDepth 20000 in
abbrev Y_X12_noons : xY := (yX12_noons, cX12_noons, 4, some .int, none)
set_option maxRecDepth 20000 in
theorem ok_X12_noons : xYok Y_X12_noons 1 := ⟨by decide +kernel, xsg7 19 rfl rfl, xsg1 14 rfl rfl, ⟨by decide +kernel, by decide +kernel, by decide +kernel⟩, by decide, rfl⟩
set_option maxRecDepth 20000 in
abbrev Y_X12_notches : xY := (yX12_notches, cX12_notches, 2, some .boolean, none)
set_option maxRecDepth 20000 in
theorem ok_X12_notches : xYok Y_X12_notches 1 := ⟨by decide +kernel, xsg6 53 rfl rfl, xsg1 14 rfl rfl, ⟨by decide +kernel, by decide +kernel, by decide +kernel⟩, by decide, rfl⟩
set_option maxRecDepth 20000 in
abbrev Y_X12_of : xY := (yX12_of, cX12_of, 3, some .int, none)
set_option maxRecDepth 20000 in
theorem ok_X12_of : xYok Y_X12_of 2 := ⟨by decide +kernel, xsg7 51 rfl rfl, xsg1 14 rfl rfl, ⟨by decide +kernel, by decide +kernel, by decide +kernel⟩, by decide, rfl⟩
set_option maxRecDepth 20000 in
abbrev Y_X12_of0 : xY := (yX12_of0, cX12_of0, 3, some .int, none)
set_option maxRecDepth 20000 in
theorem ok_X12_of0 : xYok Y_X12_of0 2 := ⟨by decide +kernel, xsg6 197 rfl rfl, xsg1 14 rfl rfl, ⟨by decide +kernel, by decide +kernel, by decide +kernel⟩, by decide, rfl⟩
set_option maxRecDepth 20000 in
abbrev Y_X12_one : xY := (yX12_one, cX12_one, 2, some .boolean, none)
set_option maxRecDepth 20000 in
theorem ok_X12_one : xYok Y_X12_one 0 := ⟨by decide +kernel, xsg6 166 rfl rfl, xsg1 14 rfl rfl, ⟨by decide +kernel, by decide +kernel, by decide +kernel⟩, by decide, rfl⟩
set_option maxRecDepth 20000 in
abbrev Y_X12_opens : xY := (yX12_opens, cX12_opens, 1, some .boolean, none)
set_option maxRecDepth 20000 in
theorem ok_X12_opens : xYok Y_X12_opens 0 := ⟨by decide +kernel, xsg6 170 rfl rfl, xsg1 14 rfl rfl, ⟨by decide +kernel, by decide +kernel, by decide +kernel⟩, by decide, rfl⟩
set_option maxRecDepth 20000 in
abbrev Y_X12_orders : xY := (yX12_orders, cX12_orders, 1, some .int, none)
set_option maxRecDepth 20000 in
theorem ok_X12_orders : xYok Y_X12_orders 1 := ⟨by decide +kernel, xsg7 61 rfl rfl, xsg1 14 rfl rfl, ⟨by decide +kernel, by decide +kernel, by decide +kernel⟩, by decide, rfl⟩
set_option maxRecDepth 20000 in
abbrev Y_X12_pay : xY := (yX12_pay, cX12_pay, 3, some .boolean, none)
set_option maxRecDepth 20000 in
theorem ok_X12_pay : xYok Y_X12_pay 2 := ⟨by decide +kernel, xsg7 105 rfl rfl, xsg1 14 rfl rfl, ⟨by decide +kernel, by decide +kernel, by decide +kernel⟩, by decide, rfl⟩
set_option maxRecDepth 20000 in
abbrev Y_X12_pivots : xY := (yX12_pivots, cX12_pivots, 5, some .int, none)
set_option maxRecDepth 20000 in
theorem ok_X12_pivots : xYok Y_X12_pivots 2 := ⟨by decide +kernel, xsg7 55 rfl rfl, xsg1 14 rfl rfl, ⟨by decide +kernel, by decide +kernel, by decide +kernel⟩, by decide, rfl⟩
set_option maxRecDepth 20000 in
abbrev Y_X12_placeOf : xY := (yX12_placeOf, cX12_placeOf, 4, some .int, none)
set_option maxRecDepth 20000 in
theorem ok_X12_placeOf : xYok Y_X12_placeOf 3 := ⟨by decide +kernel, xsg7 78 rfl rfl, xsg1 14 rfl rfl, ⟨by decide +kernel, by decide +kernel, by decide +kernel⟩, by decide, rfl⟩
set_option maxRecDepth 20000 in
abbrev Y_X12_plan : xY := (yX12_plan, cX12_plan, 3, some .boolean, none)
set_option maxRecDepth 20000 in
theorem ok_X12_plan : xYok Y_X12_plan 2 := ⟨by decide +kernel, xsg7 129 rfl rfl, xsg1 14 rfl rfl, ⟨by decide +kernel, by decide +kernel, by decide +kernel⟩, by decide, rfl⟩
set_option maxRecDepth 20000 in
abbrev Y_X12_plot : xY := (yX12_plot, cX12_plot, 6, some .int, none)
set_option maxRecDepth 20000 in
theorem ok_X12_plot : xYok Y_X12_plot 4 := ⟨by decide +kernel, xsg6 72 rfl rfl, xsg1 14 rfl rfl, ⟨by decide +kernel, by decide +kernel, by decide +kernel⟩, by decide, rfl⟩
set_option maxRecDepth 20000 in
abbrev Y_X12_product : xY := (yX12_product, cX12_product, 3, some .boolean, none)
set_option maxRecDepth 20000 in
theorem ok_X12_product : xYok Y_X12_product 0 := ⟨by decide +kernel, xsg6 146 rfl rfl, xsg1 14 rfl rfl, ⟨by decide +kernel, by decide +kernel, by decide +kernel⟩, by decide, rfl⟩
set_option maxRecDepth 20000 in
abbrev Y_X12_promise : xY := (yX12_promise, cX12_promise, 7, some .int, none)
set_option maxRecDepth 20000 in
theorem ok_X12_promise : xYok Y_X12_promise 4 := ⟨by decide +kernel, xsg6 235 rfl rfl, xsg1 14 rfl rfl, ⟨by decide +kernel, by decide +kernel, by decide +kernel⟩, by decide, rfl⟩
set_option maxRecDepth 20000 in
abbrev Y_X12_quarrel : xY := (yX12_quarrel, cX12_quarrel, 3, some .int, none)
set_option maxRecDepth 20000 in
theorem ok_X12_quarrel : xYok Y_X12_quarrel 0 := ⟨by decide +kernel, xsg7 113 rfl rfl, xsg1 14 rfl rfl, ⟨by decide +kernel, by decide +kernel, by decide +kernel⟩, by decide, rfl⟩
set_option maxRecDepth 20000 in
abbrev Y_X12_saleOf : xY := (yX12_saleOf, cX12_saleOf, 5, some .int, none)
set_option maxRecDepth 20000 in
theorem ok_X12_saleOf : xYok Y_X12_saleOf 2 := ⟨by decide +kernel, xsg6 223 rfl rfl, xsg1 14 rfl rfl, ⟨by decide +kernel, by decide +kernel, by decide +kernel⟩, by decide, rfl⟩
set_option maxRecDepth 20000 in
abbrev Y_X12_see : xY := (yX12_see, cX12_see, 2, some .int, none)
set_option maxRecDepth 20000 in
theorem ok_X12_see : xYok Y_X12_see 1 := ⟨by decide +kernel, xsg6 98 rfl rfl, xsg1 14 rfl rfl, ⟨by decide +kernel, by decide +kernel, by decide +kernel⟩, by decide, rfl⟩
set_option maxRecDepth 20000 in
abbrev Y_X12_sell : xY := (yX12_sell, cX12_sell, 7, some .boolean, none)
set_option maxRecDepth 20000 in
theorem ok_X12_sell : xYok Y_X12_sell 5 := ⟨by decide +kernel, xsg6 227 rfl rfl, xsg1 14 rfl rfl, ⟨by decide +kernel, by decide +kernel, by decide +kernel⟩, by decide, rfl⟩
set_option maxRecDepth 20000 in
abbrev Y_X12_set : xY := (yX12_set, cX12_set, 4, some .boolean, none)
set_option maxRecDepth 20000 in
theorem ok_X12_set : xYok Y_X12_set 2 := ⟨by decide +kernel, xsg6 78 rfl rfl, xsg1 14 rfl rfl, ⟨by decide +kernel, by decide +kernel, by decide +kernel⟩, by decide, rfl⟩
set_option maxRecDepth 20000 in
abbrev Y_X12_sky : xY := (yX12_sky, cX12_sky, 5, some .boolean, none)
set_option maxRecDepth 20000 in
theorem ok_X12_sky : xYok Y_X12_sky 4 := ⟨by decide +kernel, xsg6 60 rfl rfl, xsg1 14 rfl rfl, ⟨by decide +kernel, by decide +kernel, by decide +kernel⟩, by decide, rfl⟩
set_option maxRecDepth 20000 in
abbrev Y_X12_stands : xY := (yX12_stands, cX12_stands, 2, some .boolean, none)
set_option maxRecDepth 20000 in
theorem ok_X12_stands : xYok Y_X12_stands 1 := ⟨by decide +kernel, xsg7 3 rfl rfl, xsg1 14 rfl rfl, ⟨by decide +kernel, by decide +kernel, by decide +kernel⟩, by decide, rfl⟩
set_option maxRecDepth 20000 in
abbrev Y_X12_sumUp : xY := (yX12_sumUp, cX12_sumUp, 2, some .boolean, none)
set_option maxRecDepth 20000 in
theorem ok_X12_sumUp : xYok Y_X12_sumUp 0 := ⟨by decide +kernel, xsg6 142 rfl rfl, xsg1 14 rfl rfl, ⟨by decide +kernel, by decide +kernel, by decide +kernel⟩, by decide, rfl⟩
set_option maxRecDepth 20000 in
abbrev Y_X12_text : xY := (yX12_text, cX12_text, 4, some .int, none)
set_option maxRecDepth 20000 in
theorem ok_X12_text : xYok Y_X12_text 1 := ⟨by decide +kernel, xsg6 90 rfl rfl, xsg1 14 rfl rfl, ⟨by decide +kernel, by decide +kernel, by decide +kernel⟩, by decide, rfl⟩
set_option maxRecDepth 20000 in
abbrev Y_X12_triesFair : xY := (yX12_triesFair, cX12_triesFair, 7, none, none)
set_option maxRecDepth 20000 in
theorem ok_X12_triesFair : xYok Y_X12_triesFair 3 := ⟨by decide +kernel, xsg7 93 rfl rfl, xsg1 14 rfl rfl, ⟨by decide +kernel, by decide +kernel, by decide +kernel⟩, by decide, rfl⟩
set_option maxRecDepth 20000 in
abbrev Y_X12_turnOf : xY := (yX12_turnOf, cX12_turnOf, 1, some .int, none)
set_option maxRecDepth 20000 in
theorem ok_X12_turnOf : xYok Y_X12_turnOf 1 := ⟨by decide +kernel, xsg7 81 rfl rfl, xsg1 14 rfl rfl, ⟨by decide +kernel, by decide +kernel, by decide +kernel⟩, by decide, rfl⟩
set_option maxRecDepth 20000 in
abbrev Y_X12_turned : xY := (yX12_turned, cX12_turned, 3, some .int, none)
set_option maxRecDepth 20000 in
theorem ok_X12_turned : xYok Y_X12_turned 1 := ⟨by decide +kernel, xsg7 47 rfl rfl, xsg1 14 rfl rfl, ⟨by decide +kernel, by decide +kernel, by decide +kernel⟩, by decide, rfl⟩
set_option maxRecDepth 20000 in
abbrev Y_X12_undo : xY := (yX12_undo, cX12_undo, 3, some .boolean, none)
set_option maxRecDepth 20000 in
theorem ok_X12_undo : xYok Y_X12_undo 0 := ⟨by decide +kernel, xsg7 15 rfl rfl, xsg1 14 rfl rfl, ⟨by decide +kernel, by decide +kernel, by decide +kernel⟩, by decide, rfl⟩
set_option maxRecDepth 20000 in
abbrev Y_X12_unit : xY := (yX12_unit, cX12_unit, 2, some .boolean, none)
set_option maxRecDepth 20000 in
theorem ok_X12_unit : xYok Y_X12_unit 0 := ⟨by decide +kernel, xsg6 150 rfl rfl, xsg1 14 rfl rfl, ⟨by decide +kernel, by decide +kernel, by decide +kernel⟩, by decide, rfl⟩
set_option maxRecDepth 20000 in
abbrev Y_X12_voteOf : xY := (yX12_voteOf, cX12_voteOf, 5, some .int, none)
set_option maxRecDepth 20000 in
theorem ok_X12_voteOf : xYok Y_X12_voteOf 1 := ⟨by decide +kernel, xsg7 11 rfl rfl, xsg1 14 rfl rfl, ⟨by decide +kernel, by decide +kernel, by decide +kernel⟩, by decide, rfl⟩
set_option maxRecDepth 20000 in
abbrev Y_X12_votes : xY := (yX12_votes, cX12_votes, 2, some .int, none)
set_option maxRecDepth 20000 in
theorem ok_X12_votes : xYok Y_X12_votes 1 := ⟨by decide +kernel, xsg7 7 rfl rfl, xsg1 14 rfl rfl, ⟨by decide +kernel, by decide +kernel, by decide +kernel⟩, by decide, rfl⟩
set_option maxRecDepth 20000 in
abbrev Y_X12_weighs : xY := (yX12_weighs, cX12_weighs, 4, some .int, none)
set_option maxRecDepth 20000 in
theorem ok_X12_weighs : xYok Y_X12_weighs 1 := ⟨by decide +kernel, xsg7 35 rfl rfl, xsg1 14 rfl rfl, ⟨by decide +kernel, by decide +kernel, by decide +kernel⟩, by decide, rfl⟩
set_option maxRecDepth 20000 in
abbrev Y_X12_word : xY := (yX12_word, cX12_word, 1, some .int, none)
set_option maxRecDepth 20000 in
theorem ok_X12_word : xYok Y_X12_word 0 := ⟨by decide +kernel, xsg6 105 rfl rfl, xsg1 14 rfl rfl, ⟨by decide +kernel, by decide +kernel, by decide +kernel⟩, by decide, rfl⟩
set_option maxRecDepth 20000 in
abbrev Y_X12_worth : xY := (yX12_worth, cX12_worth, 5, some .int, none)
set_option maxRecDepth 20000 in
theorem ok_X12_worth : xYok Y_X12_worth 4 := ⟨by decide +kernel, xsg6 182 rfl rfl, xsg1 14 rfl rfl, ⟨by decide +kernel, by decide +kernel, by decide +kernel⟩, by decide, rfl⟩
set_option maxRecDepth 20000 in
abbrev Y_X12_worthOf : xY := (yX12_worthOf, cX12_worthOf, 12, some .int, none)
set_option maxRecDepth 20000 in
theorem ok_X12_worthOf : xYok Y_X12_worthOf 4 := ⟨by decide +kernel, xsg6 193 rfl rfl, xsg1 14 rfl rfl, ⟨by decide +kernel, by decide +kernel, by decide +kernel⟩, by decide, rfl⟩
set_option maxRecDepth 20000 in
abbrev Y_X12_worthTo : xY := (yX12_worthTo, cX12_worthTo, 7, some .int, none)
set_option maxRecDepth 20000 in
theorem ok_X12_worthTo : xYok Y_X12_worthTo 4 := ⟨by decide +kernel, xsg7 85 rfl rfl, xsg1 14 rfl rfl, ⟨by decide +kernel, by decide +kernel, by decide +kernel⟩, by decide, rfl⟩
set_option maxRecDepth 20000 in
abbrev Y_X12_writes : xY := (yX12_writes, cX12_writes, 3, none, none)
set_option maxRecDepth 20000 in
theorem ok_X12_writes : xYok Y_X12_writes 1 := ⟨by decide +kernel, xsg7 43 rfl rfl, xsg1 14 rfl rfl, ⟨by decide +kernel, by decide +kernel, by decide +kernel⟩, by decide, rfl⟩
set_option maxRecDepth 20000 in
abbrev Y_X1_angleOf : xY := (yX1_angleOf, cX1_angleOf, 3, some .int, none)
set_option maxRecDepth 20000 in
theorem ok_X1_angleOf : xYok Y_X1_angleOf 2 := ⟨by decide +kernel, xsg4 29 rfl rfl, xsg1 2 rfl rfl, ⟨by decide +kernel, by decide +kernel, by decide +kernel⟩, by decide, rfl⟩
set_option maxRecDepth 20000 in
abbrev Y_X1_begin : xY := (yX1_begin, cX1_begin, 3, none, none)
set_option maxRecDepth 20000 in
theorem ok_X1_begin : xYok Y_X1_begin 1 := ⟨by decide +kernel, xsg2 20 rfl rfl, xsg1 2 rfl rfl, ⟨by decide +kernel, by decide +kernel, by decide +kernel⟩, by decide, rfl⟩
set_option maxRecDepth 20000 in
abbrev Y_X1_bookCell : xY := (yX1_bookCell, cX1_bookCell, 1, some .int, none)
set_option maxRecDepth 20000 in
theorem ok_X1_bookCell : xYok Y_X1_bookCell 1 := ⟨by decide +kernel, xsg4 165 rfl rfl, xsg1 2 rfl rfl, ⟨by decide +kernel, by decide +kernel, by decide +kernel⟩, by decide, rfl⟩
set_option maxRecDepth 20000 in
abbrev Y_X1_copyFrom : xY := (yX1_copyFrom, cX1_copyFrom, 3, none, none)
set_option maxRecDepth 20000 in
theorem ok_X1_copyFrom : xYok Y_X1_copyFrom 1 := ⟨by decide +kernel, xsg5 153 rfl rfl, xsg1 2 rfl rfl, ⟨by decide +kernel, by decide +kernel, by decide +kernel⟩, by decide, rfl⟩
set_option maxRecDepth 20000 in
abbrev Y_X1_endDay : xY := (yX1_endDay, cX1_endDay, 2, none, none)
set_option maxRecDepth 20000 in
theorem ok_X1_endDay : xYok Y_X1_endDay 1 := ⟨by decide +kernel, xsg4 162 rfl rfl, xsg1 2 rfl rfl, ⟨by decide +kernel, by decide +kernel, by decide +kernel⟩, by decide, rfl⟩
set_option maxRecDepth 20000 in
abbrev Y_X1_hasAngle : xY := (yX1_hasAngle, cX1_hasAngle, 2, some .boolean, none)
set_option maxRecDepth 20000 in
theorem ok_X1_hasAngle : xYok Y_X1_hasAngle 1 := ⟨by decide +kernel, xsg3 5 rfl rfl, xsg1 2 rfl rfl, ⟨by decide +kernel, by decide +kernel, by decide +kernel⟩, by decide, rfl⟩
set_option maxRecDepth 20000 in
abbrev Y_X1_holderOn : xY := (yX1_holderOn, cX1_holderOn, 4, some .int, none)
set_option maxRecDepth 20000 in
theorem ok_X1_holderOn : xYok Y_X1_holderOn 2 := ⟨by decide +kernel, xsg4 103 rfl rfl, xsg1 2 rfl rfl, ⟨by decide +kernel, by decide +kernel, by decide +kernel⟩, by decide, rfl⟩
set_option maxRecDepth 20000 in
abbrev Y_X1_init : xY := (yX1_init, cX1_init, 1, none, none)
set_option maxRecDepth 20000 in
theorem ok_X1_init : xYok Y_X1_init 0 := ⟨by decide +kernel, xsg1 35 rfl rfl, xsg1 2 rfl rfl, ⟨by decide +kernel, by decide +kernel, by decide +kernel⟩, by decide, rfl⟩
set_option maxRecDepth 20000 in
abbrev Y_X1_makeTurn : xY := (yX1_makeTurn, cX1_makeTurn, 4, none, none)
set_option maxRecDepth 20000 in
theorem ok_X1_makeTurn : xYok Y_X1_makeTurn 1 := ⟨by decide +kernel, xsg4 157 rfl rfl, xsg1 2 rfl rfl, ⟨by decide +kernel, by decide +kernel, by decide +kernel⟩, by decide, rfl⟩
set_option maxRecDepth 20000 in
abbrev Y_X1_skyCell : xY := (yX1_skyCell, cX1_skyCell, 3, some .int, none)
set_option maxRecDepth 20000 in
theorem ok_X1_skyCell : xYok Y_X1_skyCell 3 := ⟨by decide +kernel, xsg3 9 rfl rfl, xsg1 2 rfl rfl, ⟨by decide +kernel, by decide +kernel, by decide +kernel⟩, by decide, rfl⟩
set_option maxRecDepth 20000 in
abbrev Y_X2_copyFrom : xY := (yX2_copyFrom, cX2_copyFrom, 2, none, none)
set_option maxRecDepth 20000 in
theorem ok_X2_copyFrom : xYok Y_X2_copyFrom 1 := ⟨by decide +kernel, xsg5 173 rfl rfl, xsg1 6 rfl rfl, ⟨by decide +kernel, by decide +kernel, by decide +kernel⟩, by decide, rfl⟩
set_option maxRecDepth 20000 in
abbrev Y_X2_init : xY := (yX2_init, cX2_init, 1, none, none)
set_option maxRecDepth 20000 in
theorem ok_X2_init : xYok Y_X2_init 0 := ⟨by decide +kernel, xsg1 141 rfl rfl, xsg1 6 rfl rfl, ⟨by decide +kernel, by decide +kernel, by decide +kernel⟩, by decide, rfl⟩
set_option maxRecDepth 20000 in
abbrev Y_X2_take : xY := (yX2_take, cX2_take, 4, none, none)
set_option maxRecDepth 20000 in
theorem ok_X2_take : xYok Y_X2_take 3 := ⟨by decide +kernel, xsg5 98 rfl rfl, xsg1 6 rfl rfl, ⟨by decide +kernel, by decide +kernel, by decide +kernel⟩, by decide, rfl⟩
set_option maxRecDepth 20000 in
abbrev Y_X3_addOwn : xY := (yX3_addOwn, cX3_addOwn, 6, none, none)
set_option maxRecDepth 20000 in
theorem ok_X3_addOwn : xYok Y_X3_addOwn 2 := ⟨by decide +kernel, xsg5 53 rfl rfl, xsg1 11 rfl rfl, ⟨by decide +kernel, by decide +kernel, by decide +kernel⟩, by decide, rfl⟩
set_option maxRecDepth 20000 in
abbrev Y_X3_aheadOf : xY := (yX3_aheadOf, cX3_aheadOf, 3, some .int, none)
set_option maxRecDepth 20000 in
theorem ok_X3_aheadOf : xYok Y_X3_aheadOf 2 := ⟨by decide +kernel, xsg4 224 rfl rfl, xsg1 11 rfl rfl, ⟨by decide +kernel, by decide +kernel, by decide +kernel⟩, by decide, rfl⟩
set_option maxRecDepth 20000 in
abbrev Y_X3_cellOf : xY := (yX3_cellOf, cX3_cellOf, 4, some .int, none)
set_option maxRecDepth 20000 in
theorem ok_X3_cellOf : xYok Y_X3_cellOf 3 := ⟨by decide +kernel, xsg4 216 rfl rfl, xsg1 11 rfl rfl, ⟨by decide +kernel, by decide +kernel, by decide +kernel⟩, by decide, rfl⟩
set_option maxRecDepth 20000 in
abbrev Y_X3_findAlone : xY := (yX3_findAlone, cX3_findAlone, 4, some .int, none)
set_option maxRecDepth 20000 in
theorem ok_X3_findAlone : xYok Y_X3_findAlone 3 := ⟨by decide +kernel, xsg5 26 rfl rfl, xsg1 11 rfl rfl, ⟨by decide +kernel, by decide +kernel, by decide +kernel⟩, by decide, rfl⟩
set_option maxRecDepth 20000 in
abbrev Y_X3_findBest : xY := (yX3_findBest, cX3_findBest, 6, some .int, none)
set_option maxRecDepth 20000 in
theorem ok_X3_findBest : xYok Y_X3_findBest 2 := ⟨by decide +kernel, xsg4 205 rfl rfl, xsg1 11 rfl rfl, ⟨by decide +kernel, by decide +kernel, by decide +kernel⟩, by decide, rfl⟩
set_option maxRecDepth 20000 in
abbrev Y_X3_findFair : xY := (yX3_findFair, cX3_findFair, 3, none, none)
set_option maxRecDepth 20000 in
theorem ok_X3_findFair : xYok Y_X3_findFair 2 := ⟨by decide +kernel, xsg5 3 rfl rfl, xsg1 11 rfl rfl, ⟨by decide +kernel, by decide +kernel, by decide +kernel⟩, by decide, rfl⟩
set_option maxRecDepth 20000 in
abbrev Y_X3_findLeavers : xY := (yX3_findLeavers, cX3_findLeavers, 11, some .int, none)
set_option maxRecDepth 20000 in
theorem ok_X3_findLeavers : xYok Y_X3_findLeavers 2 := ⟨by decide +kernel, xsg5 40 rfl rfl, xsg1 11 rfl rfl, ⟨by decide +kernel, by decide +kernel, by decide +kernel⟩, by decide, rfl⟩
set_option maxRecDepth 20000 in
abbrev Y_X3_firstTurn : xY := (yX3_firstTurn, cX3_firstTurn, 4, some .int, none)
set_option maxRecDepth 20000 in
theorem ok_X3_firstTurn : xYok Y_X3_firstTurn 2 := ⟨by decide +kernel, xsg4 234 rfl rfl, xsg1 11 rfl rfl, ⟨by decide +kernel, by decide +kernel, by decide +kernel⟩, by decide, rfl⟩
set_option maxRecDepth 20000 in
abbrev Y_X3_gather : xY := (yX3_gather, cX3_gather, 10, none, none)
set_option maxRecDepth 20000 in
theorem ok_X3_gather : xYok Y_X3_gather 3 := ⟨by decide +kernel, xsg4 210 rfl rfl, xsg1 11 rfl rfl, ⟨by decide +kernel, by decide +kernel, by decide +kernel⟩, by decide, rfl⟩
set_option maxRecDepth 20000 in
abbrev Y_X3_gatherEach : xY := (yX3_gatherEach, cX3_gatherEach, 3, none, none)
set_option maxRecDepth 20000 in
theorem ok_X3_gatherEach : xYok Y_X3_gatherEach 1 := ⟨by decide +kernel, xsg5 7 rfl rfl, xsg1 11 rfl rfl, ⟨by decide +kernel, by decide +kernel, by decide +kernel⟩, by decide, rfl⟩
set_option maxRecDepth 20000 in
abbrev Y_X3_init : xY := (yX3_init, cX3_init, 2, none, none)
set_option maxRecDepth 20000 in
theorem ok_X3_init : xYok Y_X3_init 1 := ⟨by decide +kernel, xsg2 104 rfl rfl, xsg1 11 rfl rfl, ⟨by decide +kernel, by decide +kernel, by decide +kernel⟩, by decide, rfl⟩
set_option maxRecDepth 20000 in
abbrev Y_X3_isAhead : xY := (yX3_isAhead, cX3_isAhead, 3, some .boolean, none)
set_option maxRecDepth 20000 in
theorem ok_X3_isAhead : xYok Y_X3_isAhead 2 := ⟨by decide +kernel, xsg5 56 rfl rfl, xsg1 11 rfl rfl, ⟨by decide +kernel, by decide +kernel, by decide +kernel⟩, by decide, rfl⟩
set_option maxRecDepth 20000 in
abbrev Y_X3_reckon : xY := (yX3_reckon, cX3_reckon, 7, some .int, none)
set_option maxRecDepth 20000 in
theorem ok_X3_reckon : xYok Y_X3_reckon 1 := ⟨by decide +kernel, xsg4 220 rfl rfl, xsg1 11 rfl rfl, ⟨by decide +kernel, by decide +kernel, by decide +kernel⟩, by decide, rfl⟩
set_option maxRecDepth 20000 in
abbrev Y_X3_shareOut : xY := (yX3_shareOut, cX3_shareOut, 5, none, none)
set_option maxRecDepth 20000 in
theorem ok_X3_shareOut : xYok Y_X3_shareOut 1 := ⟨by decide +kernel, xsg5 45 rfl rfl, xsg1 11 rfl rfl, ⟨by decide +kernel, by decide +kernel, by decide +kernel⟩, by decide, rfl⟩
set_option maxRecDepth 20000 in
abbrev Y_X3_tryTurns : xY := (yX3_tryTurns, cX3_tryTurns, 8, none, none)
set_option maxRecDepth 20000 in
theorem ok_X3_tryTurns : xYok Y_X3_tryTurns 3 := ⟨by decide +kernel, xsg5 12 rfl rfl, xsg1 11 rfl rfl, ⟨by decide +kernel, by decide +kernel, by decide +kernel⟩, by decide, rfl⟩
set_option maxRecDepth 20000 in
abbrev Y_X3_weighTried : xY := (yX3_weighTried, cX3_weighTried, 6, none, none)
set_option maxRecDepth 20000 in
theorem ok_X3_weighTried : xYok Y_X3_weighTried 1 := ⟨by decide +kernel, xsg5 16 rfl rfl, xsg1 11 rfl rfl, ⟨by decide +kernel, by decide +kernel, by decide +kernel⟩, by decide, rfl⟩
set_option maxRecDepth 20000 in
abbrev Y_X3_withTurn : xY := (yX3_withTurn, cX3_withTurn, 4, some .int, none)
set_option maxRecDepth 20000 in
theorem ok_X3_withTurn : xYok Y_X3_withTurn 3 := ⟨by decide +kernel, xsg4 228 rfl rfl, xsg1 11 rfl rfl, ⟨by decide +kernel, by decide +kernel, by decide +kernel⟩, by decide, rfl⟩
set_option maxRecDepth 20000 in
abbrev Y_X4_all : xY := (yX4_all, cX4_all, 1, some .int, none)
set_option maxRecDepth 20000 in
theorem ok_X4_all : xYok Y_X4_all 0 := ⟨by decide +kernel, xsg4 149 rfl rfl, xsg1 3 rfl rfl, ⟨by decide +kernel, by decide +kernel, by decide +kernel⟩, by decide, rfl⟩
set_option maxRecDepth 20000 in
abbrev Y_X4_carriedTurn : xY := (yX4_carriedTurn, cX4_carriedTurn, 4, some .int, none)
set_option maxRecDepth 20000 in
theorem ok_X4_carriedTurn : xYok Y_X4_carriedTurn 0 := ⟨by decide +kernel, xsg4 141 rfl rfl, xsg1 3 rfl rfl, ⟨by decide +kernel, by decide +kernel, by decide +kernel⟩, by decide, rfl⟩
set_option maxRecDepth 20000 in
abbrev Y_X4_copyFrom : xY := (yX4_copyFrom, cX4_copyFrom, 2, none, none)
set_option maxRecDepth 20000 in
theorem ok_X4_copyFrom : xYok Y_X4_copyFrom 1 := ⟨by decide +kernel, xsg5 158 rfl rfl, xsg1 3 rfl rfl, ⟨by decide +kernel, by decide +kernel, by decide +kernel⟩, by decide, rfl⟩
set_option maxRecDepth 20000 in
abbrev Y_X4_has : xY := (yX4_has, cX4_has, 2, some .boolean, none)
set_option maxRecDepth 20000 in
theorem ok_X4_has : xYok Y_X4_has 1 := ⟨by decide +kernel, xsg4 15 rfl rfl, xsg1 3 rfl rfl, ⟨by decide +kernel, by decide +kernel, by decide +kernel⟩, by decide, rfl⟩
set_option maxRecDepth 20000 in
abbrev Y_X4_init : xY := (yX4_init, cX4_init, 1, none, none)
set_option maxRecDepth 20000 in
theorem ok_X4_init : xYok Y_X4_init 0 := ⟨by decide +kernel, xsg1 41 rfl rfl, xsg1 3 rfl rfl, ⟨by decide +kernel, by decide +kernel, by decide +kernel⟩, by decide, rfl⟩
set_option maxRecDepth 20000 in
abbrev Y_X4_isEnough : xY := (yX4_isEnough, cX4_isEnough, 2, some .boolean, none)
set_option maxRecDepth 20000 in
theorem ok_X4_isEnough : xYok Y_X4_isEnough 1 := ⟨by decide +kernel, xsg4 145 rfl rfl, xsg1 3 rfl rfl, ⟨by decide +kernel, by decide +kernel, by decide +kernel⟩, by decide, rfl⟩
set_option maxRecDepth 20000 in
abbrev Y_X4_join : xY := (yX4_join, cX4_join, 6, some .int, none)
set_option maxRecDepth 20000 in
theorem ok_X4_join : xYok Y_X4_join 4 := ⟨by decide +kernel, xsg3 19 rfl rfl, xsg1 3 rfl rfl, ⟨by decide +kernel, by decide +kernel, by decide +kernel⟩, by decide, rfl⟩
set_option maxRecDepth 20000 in
abbrev Y_X4_orders : xY := (yX4_orders, cX4_orders, 3, some .int, none)
set_option maxRecDepth 20000 in
theorem ok_X4_orders : xYok Y_X4_orders 1 := ⟨by decide +kernel, xsg4 186 rfl rfl, xsg1 3 rfl rfl, ⟨by decide +kernel, by decide +kernel, by decide +kernel⟩, by decide, rfl⟩
set_option maxRecDepth 20000 in
abbrev Y_X4_power : xY := (yX4_power, cX4_power, 8, some .int, none)
set_option maxRecDepth 20000 in
theorem ok_X4_power : xYok Y_X4_power 2 := ⟨by decide +kernel, xsg4 176 rfl rfl, xsg1 3 rfl rfl, ⟨by decide +kernel, by decide +kernel, by decide +kernel⟩, by decide, rfl⟩
set_option maxRecDepth 20000 in
abbrev Y_X4_weightOf : xY := (yX4_weightOf, cX4_weightOf, 4, some .int, none)
set_option maxRecDepth 20000 in
theorem ok_X4_weightOf : xYok Y_X4_weightOf 1 := ⟨by decide +kernel, xsg4 153 rfl rfl, xsg1 3 rfl rfl, ⟨by decide +kernel, by decide +kernel, by decide +kernel⟩, by decide, rfl⟩
set_option maxRecDepth 20000 in
abbrev Y_X5_agreeWithout : xY := (yX5_agreeWithout, cX5_agreeWithout, 5, some .boolean, none)
set_option maxRecDepth 20000 in
theorem ok_X5_agreeWithout : xYok Y_X5_agreeWithout 2 := ⟨by decide +kernel, xsg5 82 rfl rfl, xsg1 5 rfl rfl, ⟨by decide +kernel, by decide +kernel, by decide +kernel⟩, by decide, rfl⟩
set_option maxRecDepth 20000 in
abbrev Y_X5_copyFrom : xY := (yX5_copyFrom, cX5_copyFrom, 2, none, none)
set_option maxRecDepth 20000 in
theorem ok_X5_copyFrom : xYok Y_X5_copyFrom 1 := ⟨by decide +kernel, xsg5 168 rfl rfl, xsg1 5 rfl rfl, ⟨by decide +kernel, by decide +kernel, by decide +kernel⟩, by decide, rfl⟩
set_option maxRecDepth 20000 in
abbrev Y_X5_disagree : xY := (yX5_disagree, cX5_disagree, 3, some .boolean, none)
set_option maxRecDepth 20000 in
theorem ok_X5_disagree : xYok Y_X5_disagree 2 := ⟨by decide +kernel, xsg5 69 rfl rfl, xsg1 5 rfl rfl, ⟨by decide +kernel, by decide +kernel, by decide +kernel⟩, by decide, rfl⟩
set_option maxRecDepth 20000 in
abbrev Y_X5_fewestOf : xY := (yX5_fewestOf, cX5_fewestOf, 6, some .int, none)
set_option maxRecDepth 20000 in
theorem ok_X5_fewestOf : xYok Y_X5_fewestOf 1 := ⟨by decide +kernel, xsg5 77 rfl rfl, xsg1 5 rfl rfl, ⟨by decide +kernel, by decide +kernel, by decide +kernel⟩, by decide, rfl⟩
set_option maxRecDepth 20000 in
abbrev Y_X5_firstOn : xY := (yX5_firstOn, cX5_firstOn, 4, some .int, none)
set_option maxRecDepth 20000 in
theorem ok_X5_firstOn : xYok Y_X5_firstOn 2 := ⟨by decide +kernel, xsg4 115 rfl rfl, xsg1 5 rfl rfl, ⟨by decide +kernel, by decide +kernel, by decide +kernel⟩, by decide, rfl⟩
set_option maxRecDepth 20000 in
abbrev Y_X5_firstQuarrel : xY := (yX5_firstQuarrel, cX5_firstQuarrel, 3, some .int, none)
set_option maxRecDepth 20000 in
theorem ok_X5_firstQuarrel : xYok Y_X5_firstQuarrel 0 := ⟨by decide +kernel, xsg5 65 rfl rfl, xsg1 5 rfl rfl, ⟨by decide +kernel, by decide +kernel, by decide +kernel⟩, by decide, rfl⟩
set_option maxRecDepth 20000 in
abbrev Y_X5_init : xY := (yX5_init, cX5_init, 1, none, none)
set_option maxRecDepth 20000 in
theorem ok_X5_init : xYok Y_X5_init 0 := ⟨by decide +kernel, xsg1 110 rfl rfl, xsg1 5 rfl rfl, ⟨by decide +kernel, by decide +kernel, by decide +kernel⟩, by decide, rfl⟩
set_option maxRecDepth 20000 in
abbrev Y_X5_mayTake : xY := (yX5_mayTake, cX5_mayTake, 4, some .boolean, none)
set_option maxRecDepth 20000 in
theorem ok_X5_mayTake : xYok Y_X5_mayTake 1 := ⟨by decide +kernel, xsg4 78 rfl rfl, xsg1 5 rfl rfl, ⟨by decide +kernel, by decide +kernel, by decide +kernel⟩, by decide, rfl⟩
set_option maxRecDepth 20000 in
abbrev Y_X5_release : xY := (yX5_release, cX5_release, 2, none, none)
set_option maxRecDepth 20000 in
theorem ok_X5_release : xYok Y_X5_release 1 := ⟨by decide +kernel, xsg4 95 rfl rfl, xsg1 5 rfl rfl, ⟨by decide +kernel, by decide +kernel, by decide +kernel⟩, by decide, rfl⟩
set_option maxRecDepth 20000 in
abbrev Y_X5_stands : xY := (yX5_stands, cX5_stands, 2, some .boolean, none)
set_option maxRecDepth 20000 in
theorem ok_X5_stands : xYok Y_X5_stands 1 := ⟨by decide +kernel, xsg4 90 rfl rfl, xsg1 5 rfl rfl, ⟨by decide +kernel, by decide +kernel, by decide +kernel⟩, by decide, rfl⟩
set_option maxRecDepth 20000 in
abbrev Y_X5_take : xY := (yX5_take, cX5_take, 6, some .int, none)
set_option maxRecDepth 20000 in
theorem ok_X5_take : xYok Y_X5_take 4 := ⟨by decide +kernel, xsg4 82 rfl rfl, xsg1 5 rfl rfl, ⟨by decide +kernel, by decide +kernel, by decide +kernel⟩, by decide, rfl⟩
set_option maxRecDepth 20000 in
abbrev Y_X6_buyerOn : xY := (yX6_buyerOn, cX6_buyerOn, 4, some .int, none)
set_option maxRecDepth 20000 in
theorem ok_X6_buyerOn : xYok Y_X6_buyerOn 2 := ⟨by decide +kernel, xsg4 107 rfl rfl, xsg1 4 rfl rfl, ⟨by decide +kernel, by decide +kernel, by decide +kernel⟩, by decide, rfl⟩
set_option maxRecDepth 20000 in
abbrev Y_X6_copyFrom : xY := (yX6_copyFrom, cX6_copyFrom, 2, none, none)
set_option maxRecDepth 20000 in
theorem ok_X6_copyFrom : xYok Y_X6_copyFrom 1 := ⟨by decide +kernel, xsg5 163 rfl rfl, xsg1 4 rfl rfl, ⟨by decide +kernel, by decide +kernel, by decide +kernel⟩, by decide, rfl⟩
set_option maxRecDepth 20000 in
abbrev Y_X6_init : xY := (yX6_init, cX6_init, 1, none, none)
set_option maxRecDepth 20000 in
theorem ok_X6_init : xYok Y_X6_init 0 := ⟨by decide +kernel, xsg1 86 rfl rfl, xsg1 4 rfl rfl, ⟨by decide +kernel, by decide +kernel, by decide +kernel⟩, by decide, rfl⟩
set_option maxRecDepth 20000 in
abbrev Y_X6_mayTake : xY := (yX6_mayTake, cX6_mayTake, 5, some .boolean, none)
set_option maxRecDepth 20000 in
theorem ok_X6_mayTake : xYok Y_X6_mayTake 3 := ⟨by decide +kernel, xsg4 66 rfl rfl, xsg1 4 rfl rfl, ⟨by decide +kernel, by decide +kernel, by decide +kernel⟩, by decide, rfl⟩
set_option maxRecDepth 20000 in
abbrev Y_X6_take : xY := (yX6_take, cX6_take, 5, none, none)
set_option maxRecDepth 20000 in
theorem ok_X6_take : xYok Y_X6_take 4 := ⟨by decide +kernel, xsg4 70 rfl rfl, xsg1 4 rfl rfl, ⟨by decide +kernel, by decide +kernel, by decide +kernel⟩, by decide, rfl⟩
set_option maxRecDepth 20000 in
abbrev Y_X7_add : xY := (yX7_add, cX7_add, 3, none, none)
set_option maxRecDepth 20000 in
theorem ok_X7_add : xYok Y_X7_add 1 := ⟨by decide +kernel, xsg3 42 rfl rfl, xsg1 9 rfl rfl, ⟨by decide +kernel, by decide +kernel, by decide +kernel⟩, by decide, rfl⟩
set_option maxRecDepth 20000 in
abbrev Y_X7_addToken : xY := (yX7_addToken, cX7_addToken, 4, none, none)
set_option maxRecDepth 20000 in
theorem ok_X7_addToken : xYok Y_X7_addToken 3 := ⟨by decide +kernel, xsg3 130 rfl rfl, xsg1 9 rfl rfl, ⟨by decide +kernel, by decide +kernel, by decide +kernel⟩, by decide, rfl⟩
set_option maxRecDepth 20000 in
abbrev Y_X7_expect : xY := (yX7_expect, cX7_expect, 2, some .boolean, none)
set_option maxRecDepth 20000 in
theorem ok_X7_expect : xYok Y_X7_expect 1 := ⟨by decide +kernel, xsg3 211 rfl rfl, xsg1 9 rfl rfl, ⟨by decide +kernel, by decide +kernel, by decide +kernel⟩, by decide, rfl⟩
set_option maxRecDepth 20000 in
abbrev Y_X7_fail : xY := (yX7_fail, cX7_fail, 2, some .boolean, none)
set_option maxRecDepth 20000 in
theorem ok_X7_fail : xYok Y_X7_fail 1 := ⟨by decide +kernel, xsg3 207 rfl rfl, xsg1 9 rfl rfl, ⟨by decide +kernel, by decide +kernel, by decide +kernel⟩, by decide, rfl⟩
set_option maxRecDepth 20000 in
abbrev Y_X7_hasRoom : xY := (yX7_hasRoom, cX7_hasRoom, 1, some .boolean, none)
set_option maxRecDepth 20000 in
theorem ok_X7_hasRoom : xYok Y_X7_hasRoom 0 := ⟨by decide +kernel, xsg3 38 rfl rfl, xsg1 9 rfl rfl, ⟨by decide +kernel, by decide +kernel, by decide +kernel⟩, by decide, rfl⟩
set_option maxRecDepth 20000 in
abbrev Y_X7_init : xY := (yX7_init, cX7_init, 1, none, none)
set_option maxRecDepth 20000 in
theorem ok_X7_init : xYok Y_X7_init 0 := ⟨by decide +kernel, xsg2 32 rfl rfl, xsg1 9 rfl rfl, ⟨by decide +kernel, by decide +kernel, by decide +kernel⟩, by decide, rfl⟩
set_option maxRecDepth 20000 in
abbrev Y_X7_isDigit : xY := (yX7_isDigit, cX7_isDigit, 1, some .boolean, none)
set_option maxRecDepth 20000 in
theorem ok_X7_isDigit : xYok Y_X7_isDigit 1 := ⟨by decide +kernel, xsg3 133 rfl rfl, xsg1 9 rfl rfl, ⟨by decide +kernel, by decide +kernel, by decide +kernel⟩, by decide, rfl⟩
set_option maxRecDepth 20000 in
abbrev Y_X7_isKeyword : xY := (yX7_isKeyword, cX7_isKeyword, 5, some .boolean, none)
set_option maxRecDepth 20000 in
theorem ok_X7_isKeyword : xYok Y_X7_isKeyword 3 := ⟨by decide +kernel, xsg3 126 rfl rfl, xsg1 9 rfl rfl, ⟨by decide +kernel, by decide +kernel, by decide +kernel⟩, by decide, rfl⟩
set_option maxRecDepth 20000 in
abbrev Y_X7_isLetter : xY := (yX7_isLetter, cX7_isLetter, 1, some .boolean, none)
set_option maxRecDepth 20000 in
theorem ok_X7_isLetter : xYok Y_X7_isLetter 1 := ⟨by decide +kernel, xsg3 65 rfl rfl, xsg1 9 rfl rfl, ⟨by decide +kernel, by decide +kernel, by decide +kernel⟩, by decide, rfl⟩
set_option maxRecDepth 20000 in
abbrev Y_X7_keywordOf : xY := (yX7_keywordOf, cX7_keywordOf, 6, some .int, none)
set_option maxRecDepth 20000 in
theorem ok_X7_keywordOf : xYok Y_X7_keywordOf 2 := ⟨by decide +kernel, xsg3 73 rfl rfl, xsg1 9 rfl rfl, ⟨by decide +kernel, by decide +kernel, by decide +kernel⟩, by decide, rfl⟩
set_option maxRecDepth 20000 in
abbrev Y_X7_leaveUnread : xY := (yX7_leaveUnread, cX7_leaveUnread, 1, none, none)
set_option maxRecDepth 20000 in
theorem ok_X7_leaveUnread : xYok Y_X7_leaveUnread 0 := ⟨by decide +kernel, xsg3 54 rfl rfl, xsg1 9 rfl rfl, ⟨by decide +kernel, by decide +kernel, by decide +kernel⟩, by decide, rfl⟩
set_option maxRecDepth 20000 in
abbrev Y_X7_readCondition : xY := (yX7_readCondition, cX7_readCondition, 5, some .boolean, none)
set_option maxRecDepth 20000 in
theorem ok_X7_readCondition : xYok Y_X7_readCondition 1 := ⟨by decide +kernel, xsg3 235 rfl rfl, xsg1 9 rfl rfl, ⟨by decide +kernel, by decide +kernel, by decide +kernel⟩, by decide, rfl⟩
set_option maxRecDepth 20000 in
abbrev Y_X7_readDivisor : xY := (yX7_readDivisor, cX7_readDivisor, 1, some .boolean, none)
set_option maxRecDepth 20000 in
theorem ok_X7_readDivisor : xYok Y_X7_readDivisor 0 := ⟨by decide +kernel, xsg3 227 rfl rfl, xsg1 9 rfl rfl, ⟨by decide +kernel, by decide +kernel, by decide +kernel⟩, by decide, rfl⟩
set_option maxRecDepth 20000 in
abbrev Y_X7_readEither : xY := (yX7_readEither, cX7_readEither, 6, some .boolean, none)
set_option maxRecDepth 20000 in
theorem ok_X7_readEither : xYok Y_X7_readEither 1 := ⟨by decide +kernel, xsg3 231 rfl rfl, xsg1 9 rfl rfl, ⟨by decide +kernel, by decide +kernel, by decide +kernel⟩, by decide, rfl⟩
set_option maxRecDepth 20000 in
abbrev Y_X7_readInto : xY := (yX7_readInto, cX7_readInto, 3, some .int, none)
set_option maxRecDepth 20000 in
theorem ok_X7_readInto : xYok Y_X7_readInto 1 := ⟨by decide +kernel, xsg3 58 rfl rfl, xsg1 9 rfl rfl, ⟨by decide +kernel, by decide +kernel, by decide +kernel⟩, by decide, rfl⟩
set_option maxRecDepth 20000 in
abbrev Y_X7_readLine : xY := (yX7_readLine, cX7_readLine, 2, some .boolean, none)
set_option maxRecDepth 20000 in
theorem ok_X7_readLine : xYok Y_X7_readLine 0 := ⟨by decide +kernel, xsg3 203 rfl rfl, xsg1 9 rfl rfl, ⟨by decide +kernel, by decide +kernel, by decide +kernel⟩, by decide, rfl⟩
set_option maxRecDepth 20000 in
abbrev Y_X7_readSum : xY := (yX7_readSum, cX7_readSum, 6, some .boolean, none)
set_option maxRecDepth 20000 in
theorem ok_X7_readSum : xYok Y_X7_readSum 0 := ⟨by decide +kernel, xsg3 215 rfl rfl, xsg1 9 rfl rfl, ⟨by decide +kernel, by decide +kernel, by decide +kernel⟩, by decide, rfl⟩
set_option maxRecDepth 20000 in
abbrev Y_X7_readUnit : xY := (yX7_readUnit, cX7_readUnit, 1, some .boolean, none)
set_option maxRecDepth 20000 in
theorem ok_X7_readUnit : xYok Y_X7_readUnit 0 := ⟨by decide +kernel, xsg3 219 rfl rfl, xsg1 9 rfl rfl, ⟨by decide +kernel, by decide +kernel, by decide +kernel⟩, by decide, rfl⟩
set_option maxRecDepth 20000 in
abbrev Y_X7_splitNumber : xY := (yX7_splitNumber, cX7_splitNumber, 4, some .int, none)
set_option maxRecDepth 20000 in
theorem ok_X7_splitNumber : xYok Y_X7_splitNumber 1 := ⟨by decide +kernel, xsg3 137 rfl rfl, xsg1 9 rfl rfl, ⟨by decide +kernel, by decide +kernel, by decide +kernel⟩, by decide, rfl⟩
set_option maxRecDepth 20000 in
abbrev Y_X7_splitTokens : xY := (yX7_splitTokens, cX7_splitTokens, 5, none, none)
set_option maxRecDepth 20000 in
theorem ok_X7_splitTokens : xYok Y_X7_splitTokens 0 := ⟨by decide +kernel, xsg3 62 rfl rfl, xsg1 9 rfl rfl, ⟨by decide +kernel, by decide +kernel, by decide +kernel⟩, by decide, rfl⟩
set_option maxRecDepth 20000 in
abbrev Y_X7_splitWord : xY := (yX7_splitWord, cX7_splitWord, 3, some .int, none)
set_option maxRecDepth 20000 in
theorem ok_X7_splitWord : xYok Y_X7_splitWord 1 := ⟨by decide +kernel, xsg3 69 rfl rfl, xsg1 9 rfl rfl, ⟨by decide +kernel, by decide +kernel, by decide +kernel⟩, by decide, rfl⟩
set_option maxRecDepth 20000 in
abbrev Y_X8_countRows : xY := (yX8_countRows, cX8_countRows, 7, some .long, none)
set_option maxRecDepth 20000 in
theorem ok_X8_countRows : xYok Y_X8_countRows 3 := ⟨by decide +kernel, xsg5 107 rfl rfl, xsg1 12 rfl rfl, ⟨by decide +kernel, by decide +kernel, by decide +kernel⟩, by decide, rfl⟩
set_option maxRecDepth 20000 in
abbrev Y_X8_countWays : xY := (yX8_countWays, cX8_countWays, 7, none, none)
set_option maxRecDepth 20000 in
theorem ok_X8_countWays : xYok Y_X8_countWays 1 := ⟨by decide +kernel, xsg5 117 rfl rfl, xsg1 12 rfl rfl, ⟨by decide +kernel, by decide +kernel, by decide +kernel⟩, by decide, rfl⟩
set_option maxRecDepth 20000 in
abbrev Y_X8_denyUnlike : xY := (yX8_denyUnlike, cX8_denyUnlike, 5, none, none)
set_option maxRecDepth 20000 in
theorem ok_X8_denyUnlike : xYok Y_X8_denyUnlike 3 := ⟨by decide +kernel, xsg5 112 rfl rfl, xsg1 12 rfl rfl, ⟨by decide +kernel, by decide +kernel, by decide +kernel⟩, by decide, rfl⟩
set_option maxRecDepth 20000 in
abbrev Y_X8_findFirst : xY := (yX8_findFirst, cX8_findFirst, 4, none, none)
set_option maxRecDepth 20000 in
theorem ok_X8_findFirst : xYok Y_X8_findFirst 1 := ⟨by decide +kernel, xsg5 129 rfl rfl, xsg1 12 rfl rfl, ⟨by decide +kernel, by decide +kernel, by decide +kernel⟩, by decide, rfl⟩
set_option maxRecDepth 20000 in
abbrev Y_X8_firstTurn : xY := (yX8_firstTurn, cX8_firstTurn, 5, some .int, none)
set_option maxRecDepth 20000 in
theorem ok_X8_firstTurn : xYok Y_X8_firstTurn 3 := ⟨by decide +kernel, xsg5 133 rfl rfl, xsg1 12 rfl rfl, ⟨by decide +kernel, by decide +kernel, by decide +kernel⟩, by decide, rfl⟩
set_option maxRecDepth 20000 in
abbrev Y_X8_init : xY := (yX8_init, cX8_init, 1, none, none)
set_option maxRecDepth 20000 in
theorem ok_X8_init : xYok Y_X8_init 0 := ⟨by decide +kernel, xsg2 152 rfl rfl, xsg1 12 rfl rfl, ⟨by decide +kernel, by decide +kernel, by decide +kernel⟩, by decide, rfl⟩
set_option maxRecDepth 20000 in
abbrev Y_X8_waysBehind : xY := (yX8_waysBehind, cX8_waysBehind, 3, some .long, none)
set_option maxRecDepth 20000 in
theorem ok_X8_waysBehind : xYok Y_X8_waysBehind 2 := ⟨by decide +kernel, xsg5 123 rfl rfl, xsg1 12 rfl rfl, ⟨by decide +kernel, by decide +kernel, by decide +kernel⟩, by decide, rfl⟩
set_option maxRecDepth 20000 in
abbrev Y_X9_add : xY := (yX9_add, cX9_add, 2, none, none)
set_option maxRecDepth 20000 in
theorem ok_X9_add : xYok Y_X9_add 1 := ⟨by decide +kernel, xsg3 223 rfl rfl, xsg1 7 rfl rfl, ⟨by decide +kernel, by decide +kernel, by decide +kernel⟩, by decide, rfl⟩
set_option maxRecDepth 20000 in
abbrev Y_X9_clear : xY := (yX9_clear, cX9_clear, 1, none, none)
set_option maxRecDepth 20000 in
theorem ok_X9_clear : xYok Y_X9_clear 0 := ⟨by decide +kernel, xsg2 27 rfl rfl, xsg1 7 rfl rfl, ⟨by decide +kernel, by decide +kernel, by decide +kernel⟩, by decide, rfl⟩
set_option maxRecDepth 20000 in
abbrev Y_X9_copyFrom : xY := (yX9_copyFrom, cX9_copyFrom, 2, none, none)
set_option maxRecDepth 20000 in
theorem ok_X9_copyFrom : xYok Y_X9_copyFrom 1 := ⟨by decide +kernel, xsg3 239 rfl rfl, xsg1 7 rfl rfl, ⟨by decide +kernel, by decide +kernel, by decide +kernel⟩, by decide, rfl⟩
set_option maxRecDepth 20000 in
abbrev Y_X9_init : xY := (yX9_init, cX9_init, 1, none, none)
set_option maxRecDepth 20000 in
theorem ok_X9_init : xYok Y_X9_init 0 := ⟨by decide +kernel, xsg1 167 rfl rfl, xsg1 7 rfl rfl, ⟨by decide +kernel, by decide +kernel, by decide +kernel⟩, by decide, rfl⟩
set_option maxRecDepth 20000 in
abbrev Y_X9_joined : xY := (yX9_joined, cX9_joined, 3, some .int, none)
set_option maxRecDepth 20000 in
theorem ok_X9_joined : xYok Y_X9_joined 3 := ⟨by decide +kernel, xsg4 47 rfl rfl, xsg1 7 rfl rfl, ⟨by decide +kernel, by decide +kernel, by decide +kernel⟩, by decide, rfl⟩
set_option maxRecDepth 20000 in
abbrev Y_X9_valueOf : xY := (yX9_valueOf, cX9_valueOf, 8, some .int, none)
set_option maxRecDepth 20000 in
theorem ok_X9_valueOf : xYok Y_X9_valueOf 2 := ⟨by decide +kernel, xsg4 44 rfl rfl, xsg1 7 rfl rfl, ⟨by decide +kernel, by decide +kernel, by decide +kernel⟩, by decide, rfl⟩
set_option maxRecDepth 20000 in
theorem fl_X11_12 : xFl RX11 12 11 0 := ⟨_, _, _, rfl, by decide, by decide, xsg2 201 rfl rfl⟩
set_option maxRecDepth 20000 in
theorem fl_X11_23 : xFl RX11 23 11 1 := ⟨_, _, _, rfl, by decide, by decide, xsg2 202 rfl rfl⟩
set_option maxRecDepth 20000 in
theorem fl_X11_30 : xFl RX11 30 11 2 := ⟨_, _, _, rfl, by decide, by decide, xsg2 203 rfl rfl⟩
set_option maxRecDepth 20000 in
theorem fl_X11_39 : xFl RX11 39 11 3 := ⟨_, _, _, rfl, by decide, by decide, xsg2 204 rfl rfl⟩
set_option maxRecDepth 20000 in
theorem fl_X11_46 : xFl RX11 46 11 4 := ⟨_, _, _, rfl, by decide, by decide, xsg2 205 rfl rfl⟩
set_option maxRecDepth 20000 in
theorem fl_X11_53 : xFl RX11 53 11 5 := ⟨_, _, _, rfl, by decide, by decide, xsg2 206 rfl rfl⟩
set_option maxRecDepth 20000 in
theorem fl_X11_57 : xFl RX11 57 11 6 := ⟨_, _, _, rfl, by decide, by decide, xsg2 207 rfl rfl⟩
set_option maxRecDepth 20000 in
theorem fl_X11_72 : xFl RX11 72 1 6 := ⟨_, _, _, rfl, by decide, by decide, xsg1 207 rfl rfl⟩
set_option maxRecDepth 20000 in
theorem fl_X11_82 : xFl RX11 82 1 9 := ⟨_, _, _, rfl, by decide, by decide, xsg1 216 rfl rfl⟩
set_option maxRecDepth 20000 in
theorem fl_X11_86 : xFl RX11 86 4 0 := ⟨_, _, _, rfl, by decide, by decide, xsg1 44 rfl rfl⟩
set_option maxRecDepth 20000 in
theorem fl_X11_100 : xFl RX11 100 1 1 := ⟨_, _, _, rfl, by decide, by decide, xsg1 193 rfl rfl⟩
set_option maxRecDepth 20000 in
theorem fl_X11_103 : xFl RX11 103 1 2 := ⟨_, _, _, rfl, by decide, by decide, xsg1 197 rfl rfl⟩
set_option maxRecDepth 20000 in
theorem fl_X11_106 : xFl RX11 106 1 5 := ⟨_, _, _, rfl, by decide, by decide, xsg1 205 rfl rfl⟩
set_option maxRecDepth 20000 in
theorem fl_X11_109 : xFl RX11 109 1 3 := ⟨_, _, _, rfl, by decide, by decide, xsg1 200 rfl rfl⟩
set_option maxRecDepth 20000 in
theorem fl_X11_112 : xFl RX11 112 1 4 := ⟨_, _, _, rfl, by decide, by decide, xsg1 202 rfl rfl⟩
set_option maxRecDepth 20000 in
theorem fl_X11_125 : xFl RX11 125 7 0 := ⟨_, _, _, rfl, by decide, by decide, xsg2 37 rfl rfl⟩
set_option maxRecDepth 20000 in
theorem fl_X11_131 : xFl RX11 131 1 13 := ⟨_, _, _, rfl, by decide, by decide, xsg1 227 rfl rfl⟩
set_option maxRecDepth 20000 in
theorem fl_X11_139 : xFl RX11 139 7 1 := ⟨_, _, _, rfl, by decide, by decide, xsg2 39 rfl rfl⟩
set_option maxRecDepth 20000 in
theorem fl_X11_142 : xFl RX11 142 7 2 := ⟨_, _, _, rfl, by decide, by decide, xsg2 41 rfl rfl⟩
set_option maxRecDepth 20000 in
theorem fl_X11_159 : xFl RX11 159 1 10 := ⟨_, _, _, rfl, by decide, by decide, xsg1 219 rfl rfl⟩
set_option maxRecDepth 20000 in
theorem fl_X11_172 : xFl RX11 172 4 4 := ⟨_, _, _, rfl, by decide, by decide, xsg1 59 rfl rfl⟩
set_option maxRecDepth 20000 in
theorem fl_X11_175 : xFl RX11 175 1 11 := ⟨_, _, _, rfl, by decide, by decide, xsg1 221 rfl rfl⟩
set_option maxRecDepth 20000 in
theorem fl_X11_207 : xFl RX11 207 4 6 := ⟨_, _, _, rfl, by decide, by decide, xsg1 65 rfl rfl⟩
set_option maxRecDepth 20000 in
theorem fl_X11_222 : xFl RX11 222 5 1 := ⟨_, _, _, rfl, by decide, by decide, xsg1 116 rfl rfl⟩
set_option maxRecDepth 20000 in
theorem fl_X11_228 : xFl RX11 228 1 0 := ⟨_, _, _, rfl, by decide, by decide, xsg1 189 rfl rfl⟩
set_option maxRecDepth 20000 in
theorem fl_X11_234 : xFl RX11 234 4 1 := ⟨_, _, _, rfl, by decide, by decide, xsg1 49 rfl rfl⟩
set_option maxRecDepth 20000 in
theorem fl_X11_237 : xFl RX11 237 4 2 := ⟨_, _, _, rfl, by decide, by decide, xsg1 52 rfl rfl⟩
set_option maxRecDepth 20000 in
theorem fl_X11_240 : xFl RX11 240 4 3 := ⟨_, _, _, rfl, by decide, by decide, xsg1 55 rfl rfl⟩
set_option maxRecDepth 20000 in
theorem fl_X11_250 : xFl RX11 250 1 7 := ⟨_, _, _, rfl, by decide, by decide, xsg1 210 rfl rfl⟩
set_option maxRecDepth 20000 in
theorem fl_X11_264 : xFl RX11 264 3 5 := ⟨_, _, _, rfl, by decide, by decide, xsg2 114 rfl rfl⟩
set_option maxRecDepth 20000 in
theorem fl_X11_271 : xFl RX11 271 3 9 := ⟨_, _, _, rfl, by decide, by decide, xsg2 119 rfl rfl⟩
set_option maxRecDepth 20000 in
theorem fl_X11_274 : xFl RX11 274 3 10 := ⟨_, _, _, rfl, by decide, by decide, xsg2 121 rfl rfl⟩
set_option maxRecDepth 20000 in
theorem fl_X11_284 : xFl RX11 284 4 5 := ⟨_, _, _, rfl, by decide, by decide, xsg1 62 rfl rfl⟩
set_option maxRecDepth 20000 in
theorem fl_X11_296 : xFl RX11 296 1 8 := ⟨_, _, _, rfl, by decide, by decide, xsg1 212 rfl rfl⟩
set_option maxRecDepth 20000 in
theorem fl_X11_299 : xFl RX11 299 1 12 := ⟨_, _, _, rfl, by decide, by decide, xsg1 224 rfl rfl⟩
set_option maxRecDepth 20000 in
theorem fl_X11_303 : xFl RX11 303 2 0 := ⟨_, _, _, rfl, by decide, by decide, xsg1 146 rfl rfl⟩
set_option maxRecDepth 20000 in
theorem fl_X11_318 : xFl RX11 318 8 0 := ⟨_, _, _, rfl, by decide, by decide, xsg2 155 rfl rfl⟩
set_option maxRecDepth 20000 in
theorem fl_X11_321 : xFl RX11 321 8 1 := ⟨_, _, _, rfl, by decide, by decide, xsg2 157 rfl rfl⟩
set_option maxRecDepth 20000 in
theorem fl_X11_322 : xFl RX11 322 0 0 := ⟨_, _, _, rfl, by decide, by decide, xsg2 182 rfl rfl⟩
set_option maxRecDepth 20000 in
theorem fl_X11_332 : xFl RX11 332 9 0 := ⟨_, _, _, rfl, by decide, by decide, xsg1 171 rfl rfl⟩
set_option maxRecDepth 20000 in
theorem fl_X11_337 : xFl RX11 337 6 0 := ⟨_, _, _, rfl, by decide, by decide, xsg1 90 rfl rfl⟩
set_option maxRecDepth 20000 in
theorem fl_X11_338 : xFl RX11 338 5 0 := ⟨_, _, _, rfl, by decide, by decide, xsg1 114 rfl rfl⟩
set_option maxRecDepth 20000 in
theorem fl_X0_11 : xFl RX0 11 0 2 := ⟨_, _, _, rfl, by decide, by decide, xsg2 184 rfl rfl⟩
set_option maxRecDepth 20000 in
theorem fl_X0_15 : xFl RX0 15 0 3 := ⟨_, _, _, rfl, by decide, by decide, xsg2 185 rfl rfl⟩
set_option maxRecDepth 20000 in
theorem fl_X0_18 : xFl RX0 18 0 4 := ⟨_, _, _, rfl, by decide, by decide, xsg2 186 rfl rfl⟩
set_option maxRecDepth 20000 in
theorem fl_X0_23 : xFl RX0 23 0 5 := ⟨_, _, _, rfl, by decide, by decide, xsg2 187 rfl rfl⟩
set_option maxRecDepth 20000 in
theorem fl_X0_26 : xFl RX0 26 0 0 := ⟨_, _, _, rfl, by decide, by decide, xsg2 181 rfl rfl⟩
set_option maxRecDepth 20000 in
theorem fl_X0_30 : xFl RX0 30 0 1 := ⟨_, _, _, rfl, by decide, by decide, xsg2 183 rfl rfl⟩
set_option maxRecDepth 20000 in
theorem fl_X0_33 : xFl RX0 33 1 1 := ⟨_, _, _, rfl, by decide, by decide, xsg1 190 rfl rfl⟩
set_option maxRecDepth 20000 in
theorem fl_X0_37 : xFl RX0 37 1 3 := ⟨_, _, _, rfl, by decide, by decide, xsg1 198 rfl rfl⟩
set_option maxRecDepth 20000 in
theorem fl_X0_39 : xFl RX0 39 1 5 := ⟨_, _, _, rfl, by decide, by decide, xsg1 203 rfl rfl⟩
set_option maxRecDepth 20000 in
theorem fl_X0_41 : xFl RX0 41 1 9 := ⟨_, _, _, rfl, by decide, by decide, xsg1 215 rfl rfl⟩
set_option maxRecDepth 20000 in
theorem fl_X0_45 : xFl RX0 45 4 4 := ⟨_, _, _, rfl, by decide, by decide, xsg1 57 rfl rfl⟩
set_option maxRecDepth 20000 in
theorem fl_X0_61 : xFl RX0 61 1 2 := ⟨_, _, _, rfl, by decide, by decide, xsg1 195 rfl rfl⟩
set_option maxRecDepth 20000 in
theorem fl_X1_11 : xFl RX1 11 1 6 := ⟨_, _, _, rfl, by decide, by decide, xsg1 206 rfl rfl⟩
set_option maxRecDepth 20000 in
theorem fl_X1_17 : xFl RX1 17 1 7 := ⟨_, _, _, rfl, by decide, by decide, xsg1 209 rfl rfl⟩
set_option maxRecDepth 20000 in
theorem fl_X1_20 : xFl RX1 20 1 8 := ⟨_, _, _, rfl, by decide, by decide, xsg1 211 rfl rfl⟩
set_option maxRecDepth 20000 in
theorem fl_X1_26 : xFl RX1 26 1 9 := ⟨_, _, _, rfl, by decide, by decide, xsg1 213 rfl rfl⟩
set_option maxRecDepth 20000 in
theorem fl_X1_33 : xFl RX1 33 1 10 := ⟨_, _, _, rfl, by decide, by decide, xsg1 218 rfl rfl⟩
set_option maxRecDepth 20000 in
theorem fl_X1_40 : xFl RX1 40 1 11 := ⟨_, _, _, rfl, by decide, by decide, xsg1 220 rfl rfl⟩
set_option maxRecDepth 20000 in
theorem fl_X1_47 : xFl RX1 47 1 12 := ⟨_, _, _, rfl, by decide, by decide, xsg1 222 rfl rfl⟩
set_option maxRecDepth 20000 in
theorem fl_X1_54 : xFl RX1 54 1 13 := ⟨_, _, _, rfl, by decide, by decide, xsg1 225 rfl rfl⟩
set_option maxRecDepth 20000 in
theorem fl_X1_64 : xFl RX1 64 1 0 := ⟨_, _, _, rfl, by decide, by decide, xsg1 187 rfl rfl⟩
set_option maxRecDepth 20000 in
theorem fl_X1_68 : xFl RX1 68 1 1 := ⟨_, _, _, rfl, by decide, by decide, xsg1 191 rfl rfl⟩
set_option maxRecDepth 20000 in
theorem fl_X1_71 : xFl RX1 71 1 2 := ⟨_, _, _, rfl, by decide, by decide, xsg1 194 rfl rfl⟩
set_option maxRecDepth 20000 in
theorem fl_X1_74 : xFl RX1 74 1 3 := ⟨_, _, _, rfl, by decide, by decide, xsg1 199 rfl rfl⟩
set_option maxRecDepth 20000 in
theorem fl_X1_77 : xFl RX1 77 1 4 := ⟨_, _, _, rfl, by decide, by decide, xsg1 201 rfl rfl⟩
set_option maxRecDepth 20000 in
theorem fl_X1_80 : xFl RX1 80 1 5 := ⟨_, _, _, rfl, by decide, by decide, xsg1 204 rfl rfl⟩
set_option maxRecDepth 20000 in
theorem fl_X1_89 : xFl RX1 89 4 0 := ⟨_, _, _, rfl, by decide, by decide, xsg1 45 rfl rfl⟩
set_option maxRecDepth 20000 in
theorem fl_X1_124 : xFl RX1 124 4 1 := ⟨_, _, _, rfl, by decide, by decide, xsg1 48 rfl rfl⟩
set_option maxRecDepth 20000 in
theorem fl_X1_133 : xFl RX1 133 4 6 := ⟨_, _, _, rfl, by decide, by decide, xsg1 64 rfl rfl⟩
set_option maxRecDepth 20000 in
theorem fl_X1_139 : xFl RX1 139 4 4 := ⟨_, _, _, rfl, by decide, by decide, xsg1 58 rfl rfl⟩
set_option maxRecDepth 20000 in
theorem fl_X2_9 : xFl RX2 9 2 1 := ⟨_, _, _, rfl, by decide, by decide, xsg1 147 rfl rfl⟩
set_option maxRecDepth 20000 in
theorem fl_X2_13 : xFl RX2 13 2 2 := ⟨_, _, _, rfl, by decide, by decide, xsg1 149 rfl rfl⟩
set_option maxRecDepth 20000 in
theorem fl_X2_16 : xFl RX2 16 2 3 := ⟨_, _, _, rfl, by decide, by decide, xsg1 151 rfl rfl⟩
set_option maxRecDepth 20000 in
theorem fl_X2_19 : xFl RX2 19 2 0 := ⟨_, _, _, rfl, by decide, by decide, xsg1 143 rfl rfl⟩
set_option maxRecDepth 20000 in
theorem fl_X3_11 : xFl RX3 11 3 2 := ⟨_, _, _, rfl, by decide, by decide, xsg2 110 rfl rfl⟩
set_option maxRecDepth 20000 in
theorem fl_X3_17 : xFl RX3 17 3 3 := ⟨_, _, _, rfl, by decide, by decide, xsg2 111 rfl rfl⟩
set_option maxRecDepth 20000 in
theorem fl_X3_20 : xFl RX3 20 3 4 := ⟨_, _, _, rfl, by decide, by decide, xsg2 112 rfl rfl⟩
set_option maxRecDepth 20000 in
theorem fl_X3_23 : xFl RX3 23 3 5 := ⟨_, _, _, rfl, by decide, by decide, xsg2 113 rfl rfl⟩
set_option maxRecDepth 20000 in
theorem fl_X3_26 : xFl RX3 26 3 6 := ⟨_, _, _, rfl, by decide, by decide, xsg2 115 rfl rfl⟩
set_option maxRecDepth 20000 in
theorem fl_X3_29 : xFl RX3 29 3 7 := ⟨_, _, _, rfl, by decide, by decide, xsg2 116 rfl rfl⟩
set_option maxRecDepth 20000 in
theorem fl_X3_32 : xFl RX3 32 3 8 := ⟨_, _, _, rfl, by decide, by decide, xsg2 117 rfl rfl⟩
set_option maxRecDepth 20000 in
theorem fl_X3_35 : xFl RX3 35 3 0 := ⟨_, _, _, rfl, by decide, by decide, xsg2 108 rfl rfl⟩
set_option maxRecDepth 20000 in
theorem fl_X3_39 : xFl RX3 39 3 1 := ⟨_, _, _, rfl, by decide, by decide, xsg2 109 rfl rfl⟩
set_option maxRecDepth 20000 in
theorem fl_X3_43 : xFl RX3 43 1 1 := ⟨_, _, _, rfl, by decide, by decide, xsg1 192 rfl rfl⟩
set_option maxRecDepth 20000 in
theorem fl_X3_48 : xFl RX3 48 1 0 := ⟨_, _, _, rfl, by decide, by decide, xsg1 188 rfl rfl⟩
set_option maxRecDepth 20000 in
theorem fl_X3_55 : xFl RX3 55 1 9 := ⟨_, _, _, rfl, by decide, by decide, xsg1 217 rfl rfl⟩
set_option maxRecDepth 20000 in
theorem fl_X3_59 : xFl RX3 59 4 0 := ⟨_, _, _, rfl, by decide, by decide, xsg1 46 rfl rfl⟩
set_option maxRecDepth 20000 in
theorem fl_X3_64 : xFl RX3 64 1 2 := ⟨_, _, _, rfl, by decide, by decide, xsg1 196 rfl rfl⟩
set_option maxRecDepth 20000 in
theorem fl_X3_121 : xFl RX3 121 3 11 := ⟨_, _, _, rfl, by decide, by decide, xsg2 122 rfl rfl⟩
set_option maxRecDepth 20000 in
theorem fl_X3_139 : xFl RX3 139 3 9 := ⟨_, _, _, rfl, by decide, by decide, xsg2 118 rfl rfl⟩
set_option maxRecDepth 20000 in
theorem fl_X3_142 : xFl RX3 142 3 10 := ⟨_, _, _, rfl, by decide, by decide, xsg2 120 rfl rfl⟩
set_option maxRecDepth 20000 in
theorem fl_X3_164 : xFl RX3 164 4 2 := ⟨_, _, _, rfl, by decide, by decide, xsg1 51 rfl rfl⟩
set_option maxRecDepth 20000 in
theorem fl_X3_175 : xFl RX3 175 4 5 := ⟨_, _, _, rfl, by decide, by decide, xsg1 61 rfl rfl⟩
set_option maxRecDepth 20000 in
theorem fl_X4_9 : xFl RX4 9 4 1 := ⟨_, _, _, rfl, by decide, by decide, xsg1 47 rfl rfl⟩
set_option maxRecDepth 20000 in
theorem fl_X4_15 : xFl RX4 15 4 2 := ⟨_, _, _, rfl, by decide, by decide, xsg1 50 rfl rfl⟩
set_option maxRecDepth 20000 in
theorem fl_X4_18 : xFl RX4 18 4 3 := ⟨_, _, _, rfl, by decide, by decide, xsg1 53 rfl rfl⟩
set_option maxRecDepth 20000 in
theorem fl_X4_21 : xFl RX4 21 4 4 := ⟨_, _, _, rfl, by decide, by decide, xsg1 56 rfl rfl⟩
set_option maxRecDepth 20000 in
theorem fl_X4_24 : xFl RX4 24 4 5 := ⟨_, _, _, rfl, by decide, by decide, xsg1 60 rfl rfl⟩
set_option maxRecDepth 20000 in
theorem fl_X4_27 : xFl RX4 27 4 6 := ⟨_, _, _, rfl, by decide, by decide, xsg1 63 rfl rfl⟩
set_option maxRecDepth 20000 in
theorem fl_X4_30 : xFl RX4 30 4 0 := ⟨_, _, _, rfl, by decide, by decide, xsg1 43 rfl rfl⟩
set_option maxRecDepth 20000 in
theorem fl_X5_11 : xFl RX5 11 5 1 := ⟨_, _, _, rfl, by decide, by decide, xsg1 115 rfl rfl⟩
set_option maxRecDepth 20000 in
theorem fl_X5_15 : xFl RX5 15 5 3 := ⟨_, _, _, rfl, by decide, by decide, xsg1 118 rfl rfl⟩
set_option maxRecDepth 20000 in
theorem fl_X5_18 : xFl RX5 18 5 4 := ⟨_, _, _, rfl, by decide, by decide, xsg1 119 rfl rfl⟩
set_option maxRecDepth 20000 in
theorem fl_X5_21 : xFl RX5 21 5 5 := ⟨_, _, _, rfl, by decide, by decide, xsg1 120 rfl rfl⟩
set_option maxRecDepth 20000 in
theorem fl_X5_24 : xFl RX5 24 5 6 := ⟨_, _, _, rfl, by decide, by decide, xsg1 121 rfl rfl⟩
set_option maxRecDepth 20000 in
theorem fl_X5_27 : xFl RX5 27 5 0 := ⟨_, _, _, rfl, by decide, by decide, xsg1 112 rfl rfl⟩
set_option maxRecDepth 20000 in
theorem fl_X5_31 : xFl RX5 31 5 2 := ⟨_, _, _, rfl, by decide, by decide, xsg1 117 rfl rfl⟩
set_option maxRecDepth 20000 in
theorem fl_X6_11 : xFl RX6 11 6 1 := ⟨_, _, _, rfl, by decide, by decide, xsg1 91 rfl rfl⟩
set_option maxRecDepth 20000 in
theorem fl_X6_15 : xFl RX6 15 6 2 := ⟨_, _, _, rfl, by decide, by decide, xsg1 92 rfl rfl⟩
set_option maxRecDepth 20000 in
theorem fl_X6_18 : xFl RX6 18 6 3 := ⟨_, _, _, rfl, by decide, by decide, xsg1 93 rfl rfl⟩
set_option maxRecDepth 20000 in
theorem fl_X6_21 : xFl RX6 21 6 4 := ⟨_, _, _, rfl, by decide, by decide, xsg1 94 rfl rfl⟩
set_option maxRecDepth 20000 in
theorem fl_X6_24 : xFl RX6 24 6 0 := ⟨_, _, _, rfl, by decide, by decide, xsg1 88 rfl rfl⟩
set_option maxRecDepth 20000 in
theorem fl_X7_15 : xFl RX7 15 7 3 := ⟨_, _, _, rfl, by decide, by decide, xsg2 42 rfl rfl⟩
set_option maxRecDepth 20000 in
theorem fl_X7_19 : xFl RX7 19 7 4 := ⟨_, _, _, rfl, by decide, by decide, xsg2 43 rfl rfl⟩
set_option maxRecDepth 20000 in
theorem fl_X7_23 : xFl RX7 23 7 5 := ⟨_, _, _, rfl, by decide, by decide, xsg2 44 rfl rfl⟩
set_option maxRecDepth 20000 in
theorem fl_X7_26 : xFl RX7 26 7 6 := ⟨_, _, _, rfl, by decide, by decide, xsg2 45 rfl rfl⟩
set_option maxRecDepth 20000 in
theorem fl_X7_32 : xFl RX7 32 7 9 := ⟨_, _, _, rfl, by decide, by decide, xsg2 48 rfl rfl⟩
set_option maxRecDepth 20000 in
theorem fl_X7_36 : xFl RX7 36 7 0 := ⟨_, _, _, rfl, by decide, by decide, xsg2 36 rfl rfl⟩
set_option maxRecDepth 20000 in
theorem fl_X7_39 : xFl RX7 39 7 1 := ⟨_, _, _, rfl, by decide, by decide, xsg2 38 rfl rfl⟩
set_option maxRecDepth 20000 in
theorem fl_X7_51 : xFl RX7 51 7 8 := ⟨_, _, _, rfl, by decide, by decide, xsg2 47 rfl rfl⟩
set_option maxRecDepth 20000 in
theorem fl_X7_62 : xFl RX7 62 9 0 := ⟨_, _, _, rfl, by decide, by decide, xsg1 170 rfl rfl⟩
set_option maxRecDepth 20000 in
theorem fl_X7_91 : xFl RX7 91 9 2 := ⟨_, _, _, rfl, by decide, by decide, xsg1 175 rfl rfl⟩
set_option maxRecDepth 20000 in
theorem fl_X7_95 : xFl RX7 95 7 7 := ⟨_, _, _, rfl, by decide, by decide, xsg2 46 rfl rfl⟩
set_option maxRecDepth 20000 in
theorem fl_X8_9 : xFl RX8 9 8 1 := ⟨_, _, _, rfl, by decide, by decide, xsg2 156 rfl rfl⟩
set_option maxRecDepth 20000 in
theorem fl_X8_15 : xFl RX8 15 8 3 := ⟨_, _, _, rfl, by decide, by decide, xsg2 159 rfl rfl⟩
set_option maxRecDepth 20000 in
theorem fl_X8_19 : xFl RX8 19 8 4 := ⟨_, _, _, rfl, by decide, by decide, xsg2 160 rfl rfl⟩
set_option maxRecDepth 20000 in
theorem fl_X8_23 : xFl RX8 23 8 2 := ⟨_, _, _, rfl, by decide, by decide, xsg2 158 rfl rfl⟩
set_option maxRecDepth 20000 in
theorem fl_X8_27 : xFl RX8 27 1 0 := ⟨_, _, _, rfl, by decide, by decide, xsg1 186 rfl rfl⟩
set_option maxRecDepth 20000 in
theorem fl_X8_32 : xFl RX8 32 1 12 := ⟨_, _, _, rfl, by decide, by decide, xsg1 223 rfl rfl⟩
set_option maxRecDepth 20000 in
theorem fl_X8_36 : xFl RX8 36 2 0 := ⟨_, _, _, rfl, by decide, by decide, xsg1 144 rfl rfl⟩
set_option maxRecDepth 20000 in
theorem fl_X8_41 : xFl RX8 41 2 1 := ⟨_, _, _, rfl, by decide, by decide, xsg1 148 rfl rfl⟩
set_option maxRecDepth 20000 in
theorem fl_X8_64 : xFl RX8 64 2 2 := ⟨_, _, _, rfl, by decide, by decide, xsg1 150 rfl rfl⟩
set_option maxRecDepth 20000 in
theorem fl_X8_71 : xFl RX8 71 2 3 := ⟨_, _, _, rfl, by decide, by decide, xsg1 152 rfl rfl⟩
set_option maxRecDepth 20000 in
theorem fl_X8_84 : xFl RX8 84 8 0 := ⟨_, _, _, rfl, by decide, by decide, xsg2 154 rfl rfl⟩
set_option maxRecDepth 20000 in
theorem fl_X9_9 : xFl RX9 9 9 3 := ⟨_, _, _, rfl, by decide, by decide, xsg1 176 rfl rfl⟩
set_option maxRecDepth 20000 in
theorem fl_X9_15 : xFl RX9 15 9 0 := ⟨_, _, _, rfl, by decide, by decide, xsg1 169 rfl rfl⟩
set_option maxRecDepth 20000 in
theorem fl_X9_19 : xFl RX9 19 9 1 := ⟨_, _, _, rfl, by decide, by decide, xsg1 172 rfl rfl⟩
set_option maxRecDepth 20000 in
theorem fl_X9_22 : xFl RX9 22 9 2 := ⟨_, _, _, rfl, by decide, by decide, xsg1 173 rfl rfl⟩
set_option maxRecDepth 20000 in
theorem fl_X10_9 : xFl RX10 9 10 0 := ⟨_, _, _, rfl, by decide, by decide, xsg2 78 rfl rfl⟩
set_option maxRecDepth 20000 in
theorem fl_X10_15 : xFl RX10 15 10 1 := ⟨_, _, _, rfl, by decide, by decide, xsg2 79 rfl rfl⟩
set_option maxRecDepth 20000 in
theorem fl_X10_18 : xFl RX10 18 10 2 := ⟨_, _, _, rfl, by decide, by decide, xsg2 80 rfl rfl⟩
set_option maxRecDepth 20000 in
theorem fl_X10_21 : xFl RX10 21 10 3 := ⟨_, _, _, rfl, by decide, by decide, xsg2 81 rfl rfl⟩
set_option maxRecDepth 20000 in
theorem fl_X10_26 : xFl RX10 26 10 5 := ⟨_, _, _, rfl, by decide, by decide, xsg2 83 rfl rfl⟩
set_option maxRecDepth 20000 in
theorem fl_X10_29 : xFl RX10 29 10 6 := ⟨_, _, _, rfl, by decide, by decide, xsg2 84 rfl rfl⟩
set_option maxRecDepth 20000 in
theorem fl_X10_38 : xFl RX10 38 1 9 := ⟨_, _, _, rfl, by decide, by decide, xsg1 214 rfl rfl⟩
set_option maxRecDepth 20000 in
theorem fl_X10_44 : xFl RX10 44 4 3 := ⟨_, _, _, rfl, by decide, by decide, xsg1 54 rfl rfl⟩
set_option maxRecDepth 20000 in
theorem fl_X10_53 : xFl RX10 53 1 13 := ⟨_, _, _, rfl, by decide, by decide, xsg1 226 rfl rfl⟩
set_option maxRecDepth 20000 in
theorem fl_X10_57 : xFl RX10 57 9 2 := ⟨_, _, _, rfl, by decide, by decide, xsg1 174 rfl rfl⟩
set_option maxRecDepth 20000 in
theorem fl_X10_63 : xFl RX10 63 10 4 := ⟨_, _, _, rfl, by decide, by decide, xsg2 82 rfl rfl⟩
set_option maxRecDepth 20000 in
theorem fl_X10_79 : xFl RX10 79 1 6 := ⟨_, _, _, rfl, by decide, by decide, xsg1 208 rfl rfl⟩
set_option maxRecDepth 20000 in
theorem fl_X12_7 : xFl RX12 7 12 0 := ⟨_, _, _, rfl, by decide, by decide, xsg5 190 rfl rfl⟩
set_option maxRecDepth 20000 in
theorem fl_X12_13 : xFl RX12 13 12 1 := ⟨_, _, _, rfl, by decide, by decide, xsg5 191 rfl rfl⟩
set_option maxRecDepth 20000 in
theorem fl_X12_16 : xFl RX12 16 12 2 := ⟨_, _, _, rfl, by decide, by decide, xsg5 192 rfl rfl⟩
set_option maxRecDepth 20000 in
theorem fl_X12_19 : xFl RX12 19 12 5 := ⟨_, _, _, rfl, by decide, by decide, xsg5 195 rfl rfl⟩
set_option maxRecDepth 20000 in
theorem fl_X12_22 : xFl RX12 22 12 6 := ⟨_, _, _, rfl, by decide, by decide, xsg5 196 rfl rfl⟩
set_option maxRecDepth 20000 in
theorem fl_X12_25 : xFl RX12 25 12 7 := ⟨_, _, _, rfl, by decide, by decide, xsg5 197 rfl rfl⟩
set_option maxRecDepth 20000 in
theorem fl_X12_28 : xFl RX12 28 12 8 := ⟨_, _, _, rfl, by decide, by decide, xsg5 198 rfl rfl⟩
set_option maxRecDepth 20000 in
theorem fl_X12_31 : xFl RX12 31 12 9 := ⟨_, _, _, rfl, by decide, by decide, xsg5 199 rfl rfl⟩
set_option maxRecDepth 20000 in
theorem fl_X12_34 : xFl RX12 34 12 21 := ⟨_, _, _, rfl, by decide, by decide, xsg5 211 rfl rfl⟩
set_option maxRecDepth 20000 in
theorem fl_X12_38 : xFl RX12 38 12 22 := ⟨_, _, _, rfl, by decide, by decide, xsg5 212 rfl rfl⟩
set_option maxRecDepth 20000 in
theorem fl_X12_41 : xFl RX12 41 12 23 := ⟨_, _, _, rfl, by decide, by decide, xsg5 213 rfl rfl⟩
set_option maxRecDepth 20000 in
theorem fl_X12_44 : xFl RX12 44 12 24 := ⟨_, _, _, rfl, by decide, by decide, xsg5 214 rfl rfl⟩
set_option maxRecDepth 20000 in
theorem fl_X12_47 : xFl RX12 47 12 25 := ⟨_, _, _, rfl, by decide, by decide, xsg5 215 rfl rfl⟩
set_option maxRecDepth 20000 in
theorem fl_X12_50 : xFl RX12 50 12 26 := ⟨_, _, _, rfl, by decide, by decide, xsg5 216 rfl rfl⟩
set_option maxRecDepth 20000 in
theorem fl_X12_53 : xFl RX12 53 12 27 := ⟨_, _, _, rfl, by decide, by decide, xsg5 217 rfl rfl⟩
set_option maxRecDepth 20000 in
theorem fl_X12_56 : xFl RX12 56 12 31 := ⟨_, _, _, rfl, by decide, by decide, xsg5 221 rfl rfl⟩
set_option maxRecDepth 20000 in
theorem fl_X12_59 : xFl RX12 59 12 32 := ⟨_, _, _, rfl, by decide, by decide, xsg5 222 rfl rfl⟩
set_option maxRecDepth 20000 in
theorem fl_X12_67 : xFl RX12 67 12 3 := ⟨_, _, _, rfl, by decide, by decide, xsg5 193 rfl rfl⟩
set_option maxRecDepth 20000 in
theorem fl_X12_83 : xFl RX12 83 12 12 := ⟨_, _, _, rfl, by decide, by decide, xsg5 202 rfl rfl⟩
set_option maxRecDepth 20000 in
theorem fl_X12_86 : xFl RX12 86 12 13 := ⟨_, _, _, rfl, by decide, by decide, xsg5 203 rfl rfl⟩
set_option maxRecDepth 20000 in
theorem fl_X12_89 : xFl RX12 89 12 15 := ⟨_, _, _, rfl, by decide, by decide, xsg5 205 rfl rfl⟩
set_option maxRecDepth 20000 in
theorem fl_X12_137 : xFl RX12 137 12 14 := ⟨_, _, _, rfl, by decide, by decide, xsg5 204 rfl rfl⟩
set_option maxRecDepth 20000 in
theorem fl_X12_149 : xFl RX12 149 12 16 := ⟨_, _, _, rfl, by decide, by decide, xsg5 206 rfl rfl⟩
set_option maxRecDepth 20000 in
theorem fl_X12_152 : xFl RX12 152 12 17 := ⟨_, _, _, rfl, by decide, by decide, xsg5 207 rfl rfl⟩
set_option maxRecDepth 20000 in
theorem fl_X12_155 : xFl RX12 155 12 18 := ⟨_, _, _, rfl, by decide, by decide, xsg5 208 rfl rfl⟩
set_option maxRecDepth 20000 in
theorem fl_X12_164 : xFl RX12 164 12 11 := ⟨_, _, _, rfl, by decide, by decide, xsg5 201 rfl rfl⟩
set_option maxRecDepth 20000 in
theorem fl_X12_167 : xFl RX12 167 12 20 := ⟨_, _, _, rfl, by decide, by decide, xsg5 210 rfl rfl⟩
set_option maxRecDepth 20000 in
theorem fl_X12_199 : xFl RX12 199 12 10 := ⟨_, _, _, rfl, by decide, by decide, xsg5 200 rfl rfl⟩
set_option maxRecDepth 20000 in
theorem fl_X12_202 : xFl RX12 202 12 19 := ⟨_, _, _, rfl, by decide, by decide, xsg5 209 rfl rfl⟩
set_option maxRecDepth 20000 in
theorem fl_X12_301 : xFl RX12 301 12 30 := ⟨_, _, _, rfl, by decide, by decide, xsg5 220 rfl rfl⟩
set_option maxRecDepth 20000 in
theorem fl_X12_305 : xFl RX12 305 12 28 := ⟨_, _, _, rfl, by decide, by decide, xsg5 218 rfl rfl⟩
set_option maxRecDepth 20000 in
theorem fl_X12_308 : xFl RX12 308 12 29 := ⟨_, _, _, rfl, by decide, by decide, xsg5 219 rfl rfl⟩
set_option maxRecDepth 20000 in
theorem fl_X12_334 : xFl RX12 334 12 4 := ⟨_, _, _, rfl, by decide, by decide, xsg5 194 rfl rfl⟩
set_option maxRecDepth 20000 in
theorem fp_X11_100 : xFp RX11 100 1 1 .int false := ⟨_, _, _, rfl, by decide, by decide, xsg1 193 rfl rfl, rfl, by decide +kernel⟩
set_option maxRecDepth 20000 in
theorem fp_X11_103 : xFp RX11 103 1 2 .int false := ⟨_, _, _, rfl, by decide, by decide, xsg1 197 rfl rfl, rfl, by decide +kernel⟩
set_option maxRecDepth 20000 in
theorem fp_X11_106 : xFp RX11 106 1 5 .int false := ⟨_, _, _, rfl, by decide, by decide, xsg1 205 rfl rfl, rfl, by decide +kernel⟩
set_option maxRecDepth 20000 in
theorem fp_X11_109 : xFp RX11 109 1 3 .int false := ⟨_, _, _, rfl, by decide, by decide, xsg1 200 rfl rfl, rfl, by decide +kernel⟩
set_option maxRecDepth 20000 in
theorem fp_X11_112 : xFp RX11 112 1 4 .int false := ⟨_, _, _, rfl, by decide, by decide, xsg1 202 rfl rfl, rfl, by decide +kernel⟩
set_option maxRecDepth 20000 in
theorem fp_X11_125 : xFp RX11 125 7 0 .int false := ⟨_, _, _, rfl, by decide, by decide, xsg2 37 rfl rfl, rfl, by decide +kernel⟩
set_option maxRecDepth 20000 in
theorem fp_X0_26 : xFp RX0 26 0 0 .int false := ⟨_, _, _, rfl, by decide, by decide, xsg2 181 rfl rfl, rfl, by decide +kernel⟩
set_option maxRecDepth 20000 in
theorem fp_X0_30 : xFp RX0 30 0 1 .int false := ⟨_, _, _, rfl, by decide, by decide, xsg2 183 rfl rfl, rfl, by decide +kernel⟩
set_option maxRecDepth 20000 in
theorem fp_X0_33 : xFp RX0 33 1 1 .int false := ⟨_, _, _, rfl, by decide, by decide, xsg1 190 rfl rfl, rfl, by decide +kernel⟩
set_option maxRecDepth 20000 in
theorem fp_X0_37 : xFp RX0 37 1 3 .int false := ⟨_, _, _, rfl, by decide, by decide, xsg1 198 rfl rfl, rfl, by decide +kernel⟩
set_option maxRecDepth 20000 in
theorem fp_X0_39 : xFp RX0 39 1 5 .int false := ⟨_, _, _, rfl, by decide, by decide, xsg1 203 rfl rfl, rfl, by decide +kernel⟩
set_option maxRecDepth 20000 in
theorem fp_X0_61 : xFp RX0 61 1 2 .int false := ⟨_, _, _, rfl, by decide, by decide, xsg1 195 rfl rfl, rfl, by decide +kernel⟩
set_option maxRecDepth 20000 in
theorem fp_X1_64 : xFp RX1 64 1 0 .int false := ⟨_, _, _, rfl, by decide, by decide, xsg1 187 rfl rfl, rfl, by decide +kernel⟩
set_option maxRecDepth 20000 in
theorem fp_X1_68 : xFp RX1 68 1 1 .int false := ⟨_, _, _, rfl, by decide, by decide, xsg1 191 rfl rfl, rfl, by decide +kernel⟩
set_option maxRecDepth 20000 in
theorem fp_X1_71 : xFp RX1 71 1 2 .int false := ⟨_, _, _, rfl, by decide, by decide, xsg1 194 rfl rfl, rfl, by decide +kernel⟩
set_option maxRecDepth 20000 in
theorem fp_X1_74 : xFp RX1 74 1 3 .int false := ⟨_, _, _, rfl, by decide, by decide, xsg1 199 rfl rfl, rfl, by decide +kernel⟩
set_option maxRecDepth 20000 in
theorem fp_X1_77 : xFp RX1 77 1 4 .int false := ⟨_, _, _, rfl, by decide, by decide, xsg1 201 rfl rfl, rfl, by decide +kernel⟩
set_option maxRecDepth 20000 in
theorem fp_X1_80 : xFp RX1 80 1 5 .int false := ⟨_, _, _, rfl, by decide, by decide, xsg1 204 rfl rfl, rfl, by decide +kernel⟩
set_option maxRecDepth 20000 in
theorem fp_X1_89 : xFp RX1 89 4 0 .int false := ⟨_, _, _, rfl, by decide, by decide, xsg1 45 rfl rfl, rfl, by decide +kernel⟩
set_option maxRecDepth 20000 in
theorem fp_X1_92 : xFp RX1 92 6 0 .int false := ⟨_, _, _, rfl, by decide, by decide, xsg1 89 rfl rfl, rfl, by decide +kernel⟩
set_option maxRecDepth 20000 in
theorem fp_X1_93 : xFp RX1 93 5 0 .int false := ⟨_, _, _, rfl, by decide, by decide, xsg1 113 rfl rfl, rfl, by decide +kernel⟩
set_option maxRecDepth 20000 in
theorem fp_X1_94 : xFp RX1 94 2 0 .int false := ⟨_, _, _, rfl, by decide, by decide, xsg1 145 rfl rfl, rfl, by decide +kernel⟩
set_option maxRecDepth 20000 in
theorem fp_X2_19 : xFp RX2 19 2 0 .int false := ⟨_, _, _, rfl, by decide, by decide, xsg1 143 rfl rfl, rfl, by decide +kernel⟩
set_option maxRecDepth 20000 in
theorem fp_X3_39 : xFp RX3 39 3 1 .int false := ⟨_, _, _, rfl, by decide, by decide, xsg2 109 rfl rfl, rfl, by decide +kernel⟩
set_option maxRecDepth 20000 in
theorem fp_X3_121 : xFp RX3 121 3 11 .boolean false := ⟨_, _, _, rfl, by decide, by decide, xsg2 122 rfl rfl, rfl, by decide +kernel⟩
set_option maxRecDepth 20000 in
theorem fp_X3_139 : xFp RX3 139 3 9 .int false := ⟨_, _, _, rfl, by decide, by decide, xsg2 118 rfl rfl, rfl, by decide +kernel⟩
set_option maxRecDepth 20000 in
theorem fp_X3_142 : xFp RX3 142 3 10 .int false := ⟨_, _, _, rfl, by decide, by decide, xsg2 120 rfl rfl, rfl, by decide +kernel⟩
set_option maxRecDepth 20000 in
theorem fp_X4_30 : xFp RX4 30 4 0 .int false := ⟨_, _, _, rfl, by decide, by decide, xsg1 43 rfl rfl, rfl, by decide +kernel⟩
set_option maxRecDepth 20000 in
theorem fp_X5_27 : xFp RX5 27 5 0 .int false := ⟨_, _, _, rfl, by decide, by decide, xsg1 112 rfl rfl, rfl, by decide +kernel⟩
set_option maxRecDepth 20000 in
theorem fp_X5_31 : xFp RX5 31 5 2 .int false := ⟨_, _, _, rfl, by decide, by decide, xsg1 117 rfl rfl, rfl, by decide +kernel⟩
set_option maxRecDepth 20000 in
theorem fp_X6_24 : xFp RX6 24 6 0 .int false := ⟨_, _, _, rfl, by decide, by decide, xsg1 88 rfl rfl, rfl, by decide +kernel⟩
set_option maxRecDepth 20000 in
theorem fp_X7_9 : xFp RX7 9 7 2 .int false := ⟨_, _, _, rfl, by decide, by decide, xsg2 40 rfl rfl, rfl, by decide +kernel⟩
set_option maxRecDepth 20000 in
theorem fp_X7_36 : xFp RX7 36 7 0 .int false := ⟨_, _, _, rfl, by decide, by decide, xsg2 36 rfl rfl, rfl, by decide +kernel⟩
set_option maxRecDepth 20000 in
theorem fp_X7_39 : xFp RX7 39 7 1 .int false := ⟨_, _, _, rfl, by decide, by decide, xsg2 38 rfl rfl, rfl, by decide +kernel⟩
set_option maxRecDepth 20000 in
theorem fp_X7_51 : xFp RX7 51 7 8 .int false := ⟨_, _, _, rfl, by decide, by decide, xsg2 47 rfl rfl, rfl, by decide +kernel⟩
set_option maxRecDepth 20000 in
theorem fp_X7_62 : xFp RX7 62 9 0 .int false := ⟨_, _, _, rfl, by decide, by decide, xsg1 170 rfl rfl, rfl, by decide +kernel⟩
set_option maxRecDepth 20000 in
theorem fp_X7_91 : xFp RX7 91 9 2 .boolean false := ⟨_, _, _, rfl, by decide, by decide, xsg1 175 rfl rfl, rfl, by decide +kernel⟩
set_option maxRecDepth 20000 in
theorem fp_X7_95 : xFp RX7 95 7 7 .int false := ⟨_, _, _, rfl, by decide, by decide, xsg2 46 rfl rfl, rfl, by decide +kernel⟩
set_option maxRecDepth 20000 in
theorem fp_X8_23 : xFp RX8 23 8 2 .int false := ⟨_, _, _, rfl, by decide, by decide, xsg2 158 rfl rfl, rfl, by decide +kernel⟩
set_option maxRecDepth 20000 in
theorem fp_X8_84 : xFp RX8 84 8 0 .int false := ⟨_, _, _, rfl, by decide, by decide, xsg2 154 rfl rfl, rfl, by decide +kernel⟩
set_option maxRecDepth 20000 in
theorem fp_X9_15 : xFp RX9 15 9 0 .int false := ⟨_, _, _, rfl, by decide, by decide, xsg1 169 rfl rfl, rfl, by decide +kernel⟩
set_option maxRecDepth 20000 in
theorem fp_X9_19 : xFp RX9 19 9 1 .int false := ⟨_, _, _, rfl, by decide, by decide, xsg1 172 rfl rfl, rfl, by decide +kernel⟩
set_option maxRecDepth 20000 in
theorem fp_X9_22 : xFp RX9 22 9 2 .boolean false := ⟨_, _, _, rfl, by decide, by decide, xsg1 173 rfl rfl, rfl, by decide +kernel⟩
set_option maxRecDepth 20000 in
theorem fp_X10_63 : xFp RX10 63 10 4 .int false := ⟨_, _, _, rfl, by decide, by decide, xsg2 82 rfl rfl, rfl, by decide +kernel⟩
set_option maxRecDepth 20000 in
theorem fp_X12_34 : xFp RX12 34 12 21 .int false := ⟨_, _, _, rfl, by decide, by decide, xsg5 211 rfl rfl, rfl, by decide +kernel⟩
set_option maxRecDepth 20000 in
theorem fp_X12_67 : xFp RX12 67 12 3 .int false := ⟨_, _, _, rfl, by decide, by decide, xsg5 193 rfl rfl, rfl, by decide +kernel⟩
set_option maxRecDepth 20000 in
theorem fp_X12_83 : xFp RX12 83 12 12 .int false := ⟨_, _, _, rfl, by decide, by decide, xsg5 202 rfl rfl, rfl, by decide +kernel⟩
set_option maxRecDepth 20000 in
theorem fp_X12_86 : xFp RX12 86 12 13 .int false := ⟨_, _, _, rfl, by decide, by decide, xsg5 203 rfl rfl, rfl, by decide +kernel⟩
set_option maxRecDepth 20000 in
theorem fp_X12_89 : xFp RX12 89 12 15 .int false := ⟨_, _, _, rfl, by decide, by decide, xsg5 205 rfl rfl, rfl, by decide +kernel⟩
set_option maxRecDepth 20000 in
theorem fp_X12_137 : xFp RX12 137 12 14 .int false := ⟨_, _, _, rfl, by decide, by decide, xsg5 204 rfl rfl, rfl, by decide +kernel⟩
set_option maxRecDepth 20000 in
theorem fp_X12_149 : xFp RX12 149 12 16 .int false := ⟨_, _, _, rfl, by decide, by decide, xsg5 206 rfl rfl, rfl, by decide +kernel⟩
set_option maxRecDepth 20000 in
theorem fp_X12_152 : xFp RX12 152 12 17 .int false := ⟨_, _, _, rfl, by decide, by decide, xsg5 207 rfl rfl, rfl, by decide +kernel⟩
set_option maxRecDepth 20000 in
theorem fp_X12_155 : xFp RX12 155 12 18 .int false := ⟨_, _, _, rfl, by decide, by decide, xsg5 208 rfl rfl, rfl, by decide +kernel⟩
set_option maxRecDepth 20000 in
theorem fp_X12_164 : xFp RX12 164 12 11 .int false := ⟨_, _, _, rfl, by decide, by decide, xsg5 201 rfl rfl, rfl, by decide +kernel⟩
set_option maxRecDepth 20000 in
theorem fp_X12_167 : xFp RX12 167 12 20 .int false := ⟨_, _, _, rfl, by decide, by decide, xsg5 210 rfl rfl, rfl, by decide +kernel⟩
set_option maxRecDepth 20000 in
theorem fp_X12_199 : xFp RX12 199 12 10 .int false := ⟨_, _, _, rfl, by decide, by decide, xsg5 200 rfl rfl, rfl, by decide +kernel⟩
set_option maxRecDepth 20000 in
theorem fp_X12_202 : xFp RX12 202 12 19 .int false := ⟨_, _, _, rfl, by decide, by decide, xsg5 209 rfl rfl, rfl, by decide +kernel⟩
set_option maxRecDepth 20000 in
theorem fp_X12_301 : xFp RX12 301 12 30 .boolean false := ⟨_, _, _, rfl, by decide, by decide, xsg5 220 rfl rfl, rfl, by decide +kernel⟩
set_option maxRecDepth 20000 in
theorem fp_X12_305 : xFp RX12 305 12 28 .int false := ⟨_, _, _, rfl, by decide, by decide, xsg5 218 rfl rfl, rfl, by decide +kernel⟩
set_option maxRecDepth 20000 in
theorem fp_X12_308 : xFp RX12 308 12 29 .int false := ⟨_, _, _, rfl, by decide, by decide, xsg5 219 rfl rfl, rfl, by decide +kernel⟩
set_option maxRecDepth 20000 in
theorem fp_X12_334 : xFp RX12 334 12 4 .boolean false := ⟨_, _, _, rfl, by decide, by decide, xsg5 194 rfl rfl, rfl, by decide +kernel⟩
set_option maxRecDepth 20000 in
theorem lk_X11_16 : Cond.methodLink RX11 16 yX1_begin ∈ xT ∧ Cond.instanceMethod yX1_begin ∈ xT ∧ Cond.selects (yX1_begin).cls yX1_begin yX1_begin ∈ xT := ⟨xsg2 17 rfl rfl, xsg2 18 rfl rfl, xsg2 19 rfl rfl⟩
set_option maxRecDepth 20000 in
theorem lk_X11_60 : Cond.methodLink RX11 60 yX11_within ∈ xT ∧ Cond.static yX11_within ∈ xT := ⟨xsg2 227 rfl rfl, xsg2 228 rfl rfl⟩
set_option maxRecDepth 20000 in
theorem lk_X11_64 : Cond.methodLink RX11 64 yX10_forget ∈ xT ∧ Cond.instanceMethod yX10_forget ∈ xT ∧ Cond.selects (yX10_forget).cls yX10_forget yX10_forget ∈ xT := ⟨xsg2 230 rfl rfl, xsg2 231 rfl rfl, xsg2 232 rfl rfl⟩
set_option maxRecDepth 20000 in
theorem lk_X11_67 : Cond.methodLink RX11 67 yX0_forget ∈ xT ∧ Cond.instanceMethod yX0_forget ∈ xT ∧ Cond.selects (yX0_forget).cls yX0_forget yX0_forget ∈ xT := ⟨xsg2 234 rfl rfl, xsg2 235 rfl rfl, xsg2 236 rfl rfl⟩
set_option maxRecDepth 20000 in
theorem lk_X11_68 : Cond.methodLink RX11 68 yX1_hasAngle ∈ xT ∧ Cond.instanceMethod yX1_hasAngle ∈ xT ∧ Cond.selects (yX1_hasAngle).cls yX1_hasAngle yX1_hasAngle ∈ xT := ⟨xsg3 2 rfl rfl, xsg3 3 rfl rfl, xsg3 4 rfl rfl⟩
set_option maxRecDepth 20000 in
theorem lk_X11_76 : Cond.methodLink RX11 76 yX1_skyCell ∈ xT ∧ Cond.static yX1_skyCell ∈ xT := ⟨xsg3 7 rfl rfl, xsg3 8 rfl rfl⟩
set_option maxRecDepth 20000 in
theorem lk_X11_92 : Cond.methodLink RX11 92 yX4_join ∈ xT ∧ Cond.instanceMethod yX4_join ∈ xT ∧ Cond.selects (yX4_join).cls yX4_join yX4_join ∈ xT := ⟨xsg3 16 rfl rfl, xsg3 17 rfl rfl, xsg3 18 rfl rfl⟩
set_option maxRecDepth 20000 in
theorem lk_X11_96 : Cond.methodLink RX11 96 yX11_mayBeSet ∈ xT ∧ Cond.instanceMethod yX11_mayBeSet ∈ xT ∧ Cond.selects (yX11_mayBeSet).cls yX11_mayBeSet yX11_mayBeSet ∈ xT := ⟨xsg3 24 rfl rfl, xsg3 26 rfl rfl, xsg0 0 rfl rfl⟩
set_option maxRecDepth 20000 in
theorem lk_X11_115 : Cond.methodLink RX11 115 yX11_isDay ∈ xT ∧ Cond.static yX11_isDay ∈ xT := ⟨xsg3 28 rfl rfl, xsg3 29 rfl rfl⟩
set_option maxRecDepth 20000 in
theorem lk_X11_118 : Cond.methodLink RX11 118 yX7_hasRoom ∈ xT ∧ Cond.instanceMethod yX7_hasRoom ∈ xT ∧ Cond.selects (yX7_hasRoom).cls yX7_hasRoom yX7_hasRoom ∈ xT := ⟨xsg3 35 rfl rfl, xsg3 36 rfl rfl, xsg3 37 rfl rfl⟩
set_option maxRecDepth 20000 in
theorem lk_X11_122 : Cond.methodLink RX11 122 yX7_add ∈ xT ∧ Cond.instanceMethod yX7_add ∈ xT ∧ Cond.selects (yX7_add).cls yX7_add yX7_add ∈ xT := ⟨xsg3 39 rfl rfl, xsg3 40 rfl rfl, xsg3 41 rfl rfl⟩
set_option maxRecDepth 20000 in
theorem lk_X11_128 : Cond.methodLink RX11 128 yX7_leaveUnread ∈ xT ∧ Cond.instanceMethod yX7_leaveUnread ∈ xT ∧ Cond.selects (yX7_leaveUnread).cls yX7_leaveUnread yX7_leaveUnread ∈ xT := ⟨xsg3 51 rfl rfl, xsg3 52 rfl rfl, xsg3 53 rfl rfl⟩
set_option maxRecDepth 20000 in
theorem lk_X11_135 : Cond.methodLink RX11 135 yX7_readInto ∈ xT ∧ Cond.instanceMethod yX7_readInto ∈ xT ∧ Cond.selects (yX7_readInto).cls yX7_readInto yX7_readInto ∈ xT := ⟨xsg3 55 rfl rfl, xsg3 56 rfl rfl, xsg3 57 rfl rfl⟩
set_option maxRecDepth 20000 in
theorem lk_X11_145 : Cond.methodLink RX11 145 yX4_has ∈ xT ∧ Cond.instanceMethod yX4_has ∈ xT ∧ Cond.selects (yX4_has).cls yX4_has yX4_has ∈ xT := ⟨xsg4 12 rfl rfl, xsg4 13 rfl rfl, xsg4 14 rfl rfl⟩
set_option maxRecDepth 20000 in
theorem lk_X11_148 : Cond.methodLink RX11 148 yX11_isTurn ∈ xT ∧ Cond.static yX11_isTurn ∈ xT := ⟨xsg4 17 rfl rfl, xsg4 18 rfl rfl⟩
set_option maxRecDepth 20000 in
theorem lk_X11_152 : Cond.methodLink RX11 152 yX10_worthTo ∈ xT ∧ Cond.instanceMethod yX10_worthTo ∈ xT ∧ Cond.selects (yX10_worthTo).cls yX10_worthTo yX10_worthTo ∈ xT := ⟨xsg4 21 rfl rfl, xsg4 22 rfl rfl, xsg4 23 rfl rfl⟩
set_option maxRecDepth 20000 in
theorem lk_X11_156 : Cond.methodLink RX11 156 yX11_isSpan ∈ xT ∧ Cond.static yX11_isSpan ∈ xT := ⟨xsg4 60 rfl rfl, xsg4 61 rfl rfl⟩
set_option maxRecDepth 20000 in
theorem lk_X11_163 : Cond.methodLink RX11 163 yX6_mayTake ∈ xT ∧ Cond.instanceMethod yX6_mayTake ∈ xT ∧ Cond.selects (yX6_mayTake).cls yX6_mayTake yX6_mayTake ∈ xT := ⟨xsg4 63 rfl rfl, xsg4 64 rfl rfl, xsg4 65 rfl rfl⟩
set_option maxRecDepth 20000 in
theorem lk_X11_168 : Cond.methodLink RX11 168 yX6_take ∈ xT ∧ Cond.instanceMethod yX6_take ∈ xT ∧ Cond.selects (yX6_take).cls yX6_take yX6_take ∈ xT := ⟨xsg4 67 rfl rfl, xsg4 68 rfl rfl, xsg4 69 rfl rfl⟩
set_option maxRecDepth 20000 in
theorem lk_X11_179 : Cond.methodLink RX11 179 yX5_mayTake ∈ xT ∧ Cond.instanceMethod yX5_mayTake ∈ xT ∧ Cond.selects (yX5_mayTake).cls yX5_mayTake yX5_mayTake ∈ xT := ⟨xsg4 75 rfl rfl, xsg4 76 rfl rfl, xsg4 77 rfl rfl⟩
set_option maxRecDepth 20000 in
theorem lk_X11_183 : Cond.methodLink RX11 183 yX5_take ∈ xT ∧ Cond.instanceMethod yX5_take ∈ xT ∧ Cond.selects (yX5_take).cls yX5_take yX5_take ∈ xT := ⟨xsg4 79 rfl rfl, xsg4 80 rfl rfl, xsg4 81 rfl rfl⟩
set_option maxRecDepth 20000 in
theorem lk_X11_185 : Cond.methodLink RX11 185 yX5_stands ∈ xT ∧ Cond.instanceMethod yX5_stands ∈ xT ∧ Cond.selects (yX5_stands).cls yX5_stands yX5_stands ∈ xT := ⟨xsg4 87 rfl rfl, xsg4 88 rfl rfl, xsg4 89 rfl rfl⟩
set_option maxRecDepth 20000 in
theorem lk_X11_188 : Cond.methodLink RX11 188 yX5_release ∈ xT ∧ Cond.instanceMethod yX5_release ∈ xT ∧ Cond.selects (yX5_release).cls yX5_release yX5_release ∈ xT := ⟨xsg4 92 rfl rfl, xsg4 93 rfl rfl, xsg4 94 rfl rfl⟩
set_option maxRecDepth 20000 in
theorem lk_X11_191 : Cond.methodLink RX11 191 yX1_holderOn ∈ xT ∧ Cond.instanceMethod yX1_holderOn ∈ xT ∧ Cond.selects (yX1_holderOn).cls yX1_holderOn yX1_holderOn ∈ xT := ⟨xsg4 100 rfl rfl, xsg4 101 rfl rfl, xsg4 102 rfl rfl⟩
set_option maxRecDepth 20000 in
theorem lk_X11_195 : Cond.methodLink RX11 195 yX11_voteOf ∈ xT ∧ Cond.instanceMethod yX11_voteOf ∈ xT ∧ Cond.selects (yX11_voteOf).cls yX11_voteOf yX11_voteOf ∈ xT := ⟨xsg4 108 rfl rfl, xsg4 110 rfl rfl, xsg0 16 rfl rfl⟩
set_option maxRecDepth 20000 in
theorem lk_X11_199 : Cond.methodLink RX11 199 yX0_keep ∈ xT ∧ Cond.instanceMethod yX0_keep ∈ xT ∧ Cond.selects (yX0_keep).cls yX0_keep yX0_keep ∈ xT := ⟨xsg4 128 rfl rfl, xsg4 129 rfl rfl, xsg4 130 rfl rfl⟩
set_option maxRecDepth 20000 in
theorem lk_X11_203 : Cond.methodLink RX11 203 yX11_passNoon ∈ xT ∧ Cond.instanceMethod yX11_passNoon ∈ xT ∧ Cond.selects (yX11_passNoon).cls yX11_passNoon yX11_passNoon ∈ xT := ⟨xsg4 134 rfl rfl, xsg4 136 rfl rfl, xsg0 17 rfl rfl⟩
set_option maxRecDepth 20000 in
theorem lk_X11_210 : Cond.methodLink RX11 210 yX4_carriedTurn ∈ xT ∧ Cond.instanceMethod yX4_carriedTurn ∈ xT ∧ Cond.selects (yX4_carriedTurn).cls yX4_carriedTurn yX4_carriedTurn ∈ xT := ⟨xsg4 138 rfl rfl, xsg4 139 rfl rfl, xsg4 140 rfl rfl⟩
set_option maxRecDepth 20000 in
theorem lk_X11_213 : Cond.methodLink RX11 213 yX1_makeTurn ∈ xT ∧ Cond.instanceMethod yX1_makeTurn ∈ xT ∧ Cond.selects (yX1_makeTurn).cls yX1_makeTurn yX1_makeTurn ∈ xT := ⟨xsg4 154 rfl rfl, xsg4 155 rfl rfl, xsg4 156 rfl rfl⟩
set_option maxRecDepth 20000 in
theorem lk_X11_216 : Cond.methodLink RX11 216 yX1_endDay ∈ xT ∧ Cond.instanceMethod yX1_endDay ∈ xT ∧ Cond.selects (yX1_endDay).cls yX1_endDay yX1_endDay ∈ xT := ⟨xsg4 159 rfl rfl, xsg4 160 rfl rfl, xsg4 161 rfl rfl⟩
set_option maxRecDepth 20000 in
theorem lk_X11_219 : Cond.methodLink RX11 219 yX5_firstOn ∈ xT ∧ Cond.instanceMethod yX5_firstOn ∈ xT ∧ Cond.selects (yX5_firstOn).cls yX5_firstOn yX5_firstOn ∈ xT := ⟨xsg4 112 rfl rfl, xsg4 113 rfl rfl, xsg4 114 rfl rfl⟩
set_option maxRecDepth 20000 in
theorem lk_X11_231 : Cond.methodLink RX11 231 yX11_wrap ∈ xT ∧ Cond.static yX11_wrap ∈ xT := ⟨xsg4 119 rfl rfl, xsg4 31 rfl rfl⟩
set_option maxRecDepth 20000 in
theorem lk_X11_243 : Cond.methodLink RX11 243 yX1_angleOf ∈ xT ∧ Cond.instanceMethod yX1_angleOf ∈ xT ∧ Cond.selects (yX1_angleOf).cls yX1_angleOf yX1_angleOf ∈ xT := ⟨xsg4 172 rfl rfl, xsg4 27 rfl rfl, xsg4 28 rfl rfl⟩
set_option maxRecDepth 20000 in
theorem lk_X11_246 : Cond.methodLink RX11 246 yX4_power ∈ xT ∧ Cond.instanceMethod yX4_power ∈ xT ∧ Cond.selects (yX4_power).cls yX4_power yX4_power ∈ xT := ⟨xsg4 173 rfl rfl, xsg4 174 rfl rfl, xsg4 175 rfl rfl⟩
set_option maxRecDepth 20000 in
theorem lk_X11_253 : Cond.methodLink RX11 253 yX1_bookCell ∈ xT ∧ Cond.static yX1_bookCell ∈ xT := ⟨xsg4 193 rfl rfl, xsg4 164 rfl rfl⟩
set_option maxRecDepth 20000 in
theorem lk_X11_256 : Cond.methodLink RX11 256 yX11_isTurnOf ∈ xT ∧ Cond.static yX11_isTurnOf ∈ xT := ⟨xsg4 198 rfl rfl, xsg4 199 rfl rfl⟩
set_option maxRecDepth 20000 in
theorem lk_X11_260 : Cond.methodLink RX11 260 yX3_findBest ∈ xT ∧ Cond.instanceMethod yX3_findBest ∈ xT ∧ Cond.selects (yX3_findBest).cls yX3_findBest yX3_findBest ∈ xT := ⟨xsg4 202 rfl rfl, xsg4 203 rfl rfl, xsg4 204 rfl rfl⟩
set_option maxRecDepth 20000 in
theorem lk_X11_267 : Cond.methodLink RX11 267 yX3_findFair ∈ xT ∧ Cond.instanceMethod yX3_findFair ∈ xT ∧ Cond.selects (yX3_findFair).cls yX3_findFair yX3_findFair ∈ xT := ⟨xsg5 0 rfl rfl, xsg5 1 rfl rfl, xsg5 2 rfl rfl⟩
set_option maxRecDepth 20000 in
theorem lk_X11_277 : Cond.methodLink RX11 277 yX4_all ∈ xT ∧ Cond.instanceMethod yX4_all ∈ xT ∧ Cond.selects (yX4_all).cls yX4_all yX4_all ∈ xT := ⟨xsg5 22 rfl rfl, xsg4 147 rfl rfl, xsg4 148 rfl rfl⟩
set_option maxRecDepth 20000 in
theorem lk_X11_280 : Cond.methodLink RX11 280 yX3_findAlone ∈ xT ∧ Cond.instanceMethod yX3_findAlone ∈ xT ∧ Cond.selects (yX3_findAlone).cls yX3_findAlone yX3_findAlone ∈ xT := ⟨xsg5 23 rfl rfl, xsg5 24 rfl rfl, xsg5 25 rfl rfl⟩
set_option maxRecDepth 20000 in
theorem lk_X11_287 : Cond.methodLink RX11 287 yX3_findLeavers ∈ xT ∧ Cond.instanceMethod yX3_findLeavers ∈ xT ∧ Cond.selects (yX3_findLeavers).cls yX3_findLeavers yX3_findLeavers ∈ xT := ⟨xsg5 37 rfl rfl, xsg5 38 rfl rfl, xsg5 39 rfl rfl⟩
set_option maxRecDepth 20000 in
theorem lk_X11_290 : Cond.methodLink RX11 290 yX5_firstQuarrel ∈ xT ∧ Cond.instanceMethod yX5_firstQuarrel ∈ xT ∧ Cond.selects (yX5_firstQuarrel).cls yX5_firstQuarrel yX5_firstQuarrel ∈ xT := ⟨xsg5 62 rfl rfl, xsg5 63 rfl rfl, xsg5 64 rfl rfl⟩
set_option maxRecDepth 20000 in
theorem lk_X11_293 : Cond.methodLink RX11 293 yX5_fewestOf ∈ xT ∧ Cond.instanceMethod yX5_fewestOf ∈ xT ∧ Cond.selects (yX5_fewestOf).cls yX5_fewestOf yX5_fewestOf ∈ xT := ⟨xsg5 74 rfl rfl, xsg5 75 rfl rfl, xsg5 76 rfl rfl⟩
set_option maxRecDepth 20000 in
theorem lk_X11_306 : Cond.methodLink RX11 306 yX2_take ∈ xT ∧ Cond.instanceMethod yX2_take ∈ xT ∧ Cond.selects (yX2_take).cls yX2_take yX2_take ∈ xT := ⟨xsg5 95 rfl rfl, xsg5 96 rfl rfl, xsg5 97 rfl rfl⟩
set_option maxRecDepth 20000 in
theorem lk_X11_311 : Cond.methodLink RX11 311 yX8_countRows ∈ xT ∧ Cond.instanceMethod yX8_countRows ∈ xT ∧ Cond.selects (yX8_countRows).cls yX8_countRows yX8_countRows ∈ xT := ⟨xsg5 104 rfl rfl, xsg5 105 rfl rfl, xsg5 106 rfl rfl⟩
set_option maxRecDepth 20000 in
theorem lk_X11_315 : Cond.methodLink RX11 315 yX8_findFirst ∈ xT ∧ Cond.instanceMethod yX8_findFirst ∈ xT ∧ Cond.selects (yX8_findFirst).cls yX8_findFirst yX8_findFirst ∈ xT := ⟨xsg5 126 rfl rfl, xsg5 127 rfl rfl, xsg5 128 rfl rfl⟩
set_option maxRecDepth 20000 in
theorem lk_X11_323 : Cond.methodLink RX11 323 yX0_giveBack ∈ xT ∧ Cond.instanceMethod yX0_giveBack ∈ xT ∧ Cond.selects (yX0_giveBack).cls yX0_giveBack yX0_giveBack ∈ xT := ⟨xsg5 138 rfl rfl, xsg5 139 rfl rfl, xsg5 140 rfl rfl⟩
set_option maxRecDepth 20000 in
theorem lk_X11_326 : Cond.methodLink RX11 326 yX11_takeImage ∈ xT ∧ Cond.instanceMethod yX11_takeImage ∈ xT ∧ Cond.selects (yX11_takeImage).cls yX11_takeImage yX11_takeImage ∈ xT := ⟨xsg5 146 rfl rfl, xsg5 148 rfl rfl, xsg0 36 rfl rfl⟩
set_option maxRecDepth 20000 in
theorem lk_X11_329 : Cond.methodLink RX11 329 yX1_copyFrom ∈ xT ∧ Cond.instanceMethod yX1_copyFrom ∈ xT ∧ Cond.selects (yX1_copyFrom).cls yX1_copyFrom yX1_copyFrom ∈ xT := ⟨xsg5 150 rfl rfl, xsg5 151 rfl rfl, xsg5 152 rfl rfl⟩
set_option maxRecDepth 20000 in
theorem lk_X11_339 : Cond.methodLink RX11 339 yJ9_floorMod_7cf53 ∈ xT ∧ Cond.static yJ9_floorMod_7cf53 ∈ xT := ⟨xsg4 33 rfl rfl, xsg4 34 rfl rfl⟩
set_option maxRecDepth 20000 in
theorem lk_X1_58 : Cond.methodLink RX1 58 yJ9_floorMod_7cf53 ∈ xT ∧ Cond.static yJ9_floorMod_7cf53 ∈ xT := ⟨xsg4 166 rfl rfl, xsg4 34 rfl rfl⟩
set_option maxRecDepth 20000 in
theorem lk_X1_83 : Cond.methodLink RX1 83 yJ7_fill_53178 ∈ xT ∧ Cond.static yJ7_fill_53178 ∈ xT := ⟨xsg2 21 rfl rfl, xsg2 22 rfl rfl⟩
set_option maxRecDepth 20000 in
theorem lk_X1_95 : Cond.methodLink RX1 95 yX9_clear ∈ xT ∧ Cond.instanceMethod yX9_clear ∈ xT ∧ Cond.selects (yX9_clear).cls yX9_clear yX9_clear ∈ xT := ⟨xsg2 24 rfl rfl, xsg2 25 rfl rfl, xsg2 26 rfl rfl⟩
set_option maxRecDepth 20000 in
theorem lk_X1_104 : Cond.methodLink RX1 104 yX4_copyFrom ∈ xT ∧ Cond.instanceMethod yX4_copyFrom ∈ xT ∧ Cond.selects (yX4_copyFrom).cls yX4_copyFrom yX4_copyFrom ∈ xT := ⟨xsg5 155 rfl rfl, xsg5 156 rfl rfl, xsg5 157 rfl rfl⟩
set_option maxRecDepth 20000 in
theorem lk_X1_108 : Cond.methodLink RX1 108 yX6_copyFrom ∈ xT ∧ Cond.instanceMethod yX6_copyFrom ∈ xT ∧ Cond.selects (yX6_copyFrom).cls yX6_copyFrom yX6_copyFrom ∈ xT := ⟨xsg5 160 rfl rfl, xsg5 161 rfl rfl, xsg5 162 rfl rfl⟩
set_option maxRecDepth 20000 in
theorem lk_X1_111 : Cond.methodLink RX1 111 yX5_copyFrom ∈ xT ∧ Cond.instanceMethod yX5_copyFrom ∈ xT ∧ Cond.selects (yX5_copyFrom).cls yX5_copyFrom yX5_copyFrom ∈ xT := ⟨xsg5 165 rfl rfl, xsg5 166 rfl rfl, xsg5 167 rfl rfl⟩
set_option maxRecDepth 20000 in
theorem lk_X1_114 : Cond.methodLink RX1 114 yX2_copyFrom ∈ xT ∧ Cond.instanceMethod yX2_copyFrom ∈ xT ∧ Cond.selects (yX2_copyFrom).cls yX2_copyFrom yX2_copyFrom ∈ xT := ⟨xsg5 170 rfl rfl, xsg5 171 rfl rfl, xsg5 172 rfl rfl⟩
set_option maxRecDepth 20000 in
theorem lk_X1_117 : Cond.methodLink RX1 117 yX9_copyFrom ∈ xT ∧ Cond.instanceMethod yX9_copyFrom ∈ xT ∧ Cond.selects (yX9_copyFrom).cls yX9_copyFrom yX9_copyFrom ∈ xT := ⟨xsg5 175 rfl rfl, xsg3 237 rfl rfl, xsg3 238 rfl rfl⟩
set_option maxRecDepth 20000 in
theorem lk_X1_120 : (RX1, 120, yX11_within, "TurnedIsland") ∈ xNM ∧ Cond.static yX11_within ∈ xT := ⟨by decide +kernel, xsg2 228 rfl rfl⟩
set_option maxRecDepth 20000 in
theorem lk_X1_127 : (RX1, 127, yX11_wrap, "TurnedIsland") ∈ xNM ∧ Cond.static yX11_wrap ∈ xT := ⟨by decide +kernel, xsg4 31 rfl rfl⟩
set_option maxRecDepth 20000 in
theorem lk_X1_130 : Cond.methodLink RX1 130 yX6_buyerOn ∈ xT ∧ Cond.instanceMethod yX6_buyerOn ∈ xT ∧ Cond.selects (yX6_buyerOn).cls yX6_buyerOn yX6_buyerOn ∈ xT := ⟨xsg4 104 rfl rfl, xsg4 105 rfl rfl, xsg4 106 rfl rfl⟩
set_option maxRecDepth 20000 in
theorem lk_X1_136 : Cond.methodLink RX1 136 yX1_holderOn ∈ xT ∧ Cond.instanceMethod yX1_holderOn ∈ xT ∧ Cond.selects (yX1_holderOn).cls yX1_holderOn yX1_holderOn ∈ xT := ⟨xsg4 158 rfl rfl, xsg4 101 rfl rfl, xsg4 102 rfl rfl⟩
set_option maxRecDepth 20000 in
theorem lk_X1_142 : Cond.methodLink RX1 142 yX1_bookCell ∈ xT ∧ Cond.static yX1_bookCell ∈ xT := ⟨xsg4 163 rfl rfl, xsg4 164 rfl rfl⟩
set_option maxRecDepth 20000 in
theorem lk_X3_51 : (RX3, 51, yX11_wrap, "TurnedIsland") ∈ xNM ∧ Cond.static yX11_wrap ∈ xT := ⟨by decide +kernel, xsg4 31 rfl rfl⟩
set_option maxRecDepth 20000 in
theorem lk_X3_67 : Cond.methodLink RX3 67 yX10_worthTo ∈ xT ∧ Cond.instanceMethod yX10_worthTo ∈ xT ∧ Cond.selects (yX10_worthTo).cls yX10_worthTo yX10_worthTo ∈ xT := ⟨xsg4 212 rfl rfl, xsg4 22 rfl rfl, xsg4 23 rfl rfl⟩
set_option maxRecDepth 20000 in
theorem lk_X3_73 : Cond.methodLink RX3 73 yX3_cellOf ∈ xT ∧ Cond.instanceMethod yX3_cellOf ∈ xT ∧ Cond.selects (yX3_cellOf).cls yX3_cellOf yX3_cellOf ∈ xT := ⟨xsg4 213 rfl rfl, xsg4 215 rfl rfl, xsg0 20 rfl rfl⟩
set_option maxRecDepth 20000 in
theorem lk_X3_77 : Cond.methodLink RX3 77 yX3_gather ∈ xT ∧ Cond.instanceMethod yX3_gather ∈ xT ∧ Cond.selects (yX3_gather).cls yX3_gather yX3_gather ∈ xT := ⟨xsg4 207 rfl rfl, xsg4 209 rfl rfl, xsg0 19 rfl rfl⟩
set_option maxRecDepth 20000 in
theorem lk_X3_81 : Cond.methodLink RX3 81 yX3_aheadOf ∈ xT ∧ Cond.instanceMethod yX3_aheadOf ∈ xT ∧ Cond.selects (yX3_aheadOf).cls yX3_aheadOf yX3_aheadOf ∈ xT := ⟨xsg4 221 rfl rfl, xsg4 223 rfl rfl, xsg0 22 rfl rfl⟩
set_option maxRecDepth 20000 in
theorem lk_X3_84 : Cond.methodLink RX3 84 yX3_withTurn ∈ xT ∧ Cond.instanceMethod yX3_withTurn ∈ xT ∧ Cond.selects (yX3_withTurn).cls yX3_withTurn yX3_withTurn ∈ xT := ⟨xsg4 225 rfl rfl, xsg4 227 rfl rfl, xsg0 23 rfl rfl⟩
set_option maxRecDepth 20000 in
theorem lk_X3_95 : Cond.methodLink RX3 95 yX4_all ∈ xT ∧ Cond.instanceMethod yX4_all ∈ xT ∧ Cond.selects (yX4_all).cls yX4_all yX4_all ∈ xT := ⟨xsg4 206 rfl rfl, xsg4 147 rfl rfl, xsg4 148 rfl rfl⟩
set_option maxRecDepth 20000 in
theorem lk_X3_99 : Cond.methodLink RX3 99 yX3_reckon ∈ xT ∧ Cond.instanceMethod yX3_reckon ∈ xT ∧ Cond.selects (yX3_reckon).cls yX3_reckon yX3_reckon ∈ xT := ⟨xsg4 217 rfl rfl, xsg4 219 rfl rfl, xsg0 21 rfl rfl⟩
set_option maxRecDepth 20000 in
theorem lk_X3_103 : Cond.methodLink RX3 103 yX3_firstTurn ∈ xT ∧ Cond.instanceMethod yX3_firstTurn ∈ xT ∧ Cond.selects (yX3_firstTurn).cls yX3_firstTurn yX3_firstTurn ∈ xT := ⟨xsg4 231 rfl rfl, xsg4 233 rfl rfl, xsg0 24 rfl rfl⟩
set_option maxRecDepth 20000 in
theorem lk_X3_109 : Cond.methodLink RX3 109 yX4_weightOf ∈ xT ∧ Cond.instanceMethod yX4_weightOf ∈ xT ∧ Cond.selects (yX4_weightOf).cls yX4_weightOf yX4_weightOf ∈ xT := ⟨xsg5 27 rfl rfl, xsg4 151 rfl rfl, xsg4 152 rfl rfl⟩
set_option maxRecDepth 20000 in
theorem lk_X3_113 : Cond.methodLink RX3 113 yX4_isEnough ∈ xT ∧ Cond.instanceMethod yX4_isEnough ∈ xT ∧ Cond.selects (yX4_isEnough).cls yX4_isEnough yX4_isEnough ∈ xT := ⟨xsg5 28 rfl rfl, xsg4 143 rfl rfl, xsg4 144 rfl rfl⟩
set_option maxRecDepth 20000 in
theorem lk_X3_117 : Cond.methodLink RX3 117 yX3_gatherEach ∈ xT ∧ Cond.instanceMethod yX3_gatherEach ∈ xT ∧ Cond.selects (yX3_gatherEach).cls yX3_gatherEach yX3_gatherEach ∈ xT := ⟨xsg5 4 rfl rfl, xsg5 6 rfl rfl, xsg0 25 rfl rfl⟩
set_option maxRecDepth 20000 in
theorem lk_X3_125 : Cond.methodLink RX3 125 yJ7_fill_53178 ∈ xT ∧ Cond.static yJ7_fill_53178 ∈ xT := ⟨xsg5 8 rfl rfl, xsg2 22 rfl rfl⟩
set_option maxRecDepth 20000 in
theorem lk_X3_131 : Cond.methodLink RX3 131 yX3_tryTurns ∈ xT ∧ Cond.instanceMethod yX3_tryTurns ∈ xT ∧ Cond.selects (yX3_tryTurns).cls yX3_tryTurns yX3_tryTurns ∈ xT := ⟨xsg5 9 rfl rfl, xsg5 11 rfl rfl, xsg0 26 rfl rfl⟩
set_option maxRecDepth 20000 in
theorem lk_X3_135 : Cond.methodLink RX3 135 yX3_weighTried ∈ xT ∧ Cond.instanceMethod yX3_weighTried ∈ xT ∧ Cond.selects (yX3_weighTried).cls yX3_weighTried yX3_weighTried ∈ xT := ⟨xsg5 13 rfl rfl, xsg5 15 rfl rfl, xsg0 27 rfl rfl⟩
set_option maxRecDepth 20000 in
theorem lk_X3_151 : Cond.methodLink RX3 151 yX3_findBest ∈ xT ∧ Cond.instanceMethod yX3_findBest ∈ xT ∧ Cond.selects (yX3_findBest).cls yX3_findBest yX3_findBest ∈ xT := ⟨xsg5 41 rfl rfl, xsg4 203 rfl rfl, xsg4 204 rfl rfl⟩
set_option maxRecDepth 20000 in
theorem lk_X3_155 : Cond.methodLink RX3 155 yX3_shareOut ∈ xT ∧ Cond.instanceMethod yX3_shareOut ∈ xT ∧ Cond.selects (yX3_shareOut).cls yX3_shareOut yX3_shareOut ∈ xT := ⟨xsg5 42 rfl rfl, xsg5 44 rfl rfl, xsg0 28 rfl rfl⟩
set_option maxRecDepth 20000 in
theorem lk_X3_159 : Cond.methodLink RX3 159 yJ6_numberOfTrailingZeros_0f7a4 ∈ xT ∧ Cond.static yJ6_numberOfTrailingZeros_0f7a4 ∈ xT := ⟨xsg5 46 rfl rfl, xsg5 47 rfl rfl⟩
set_option maxRecDepth 20000 in
theorem lk_X3_167 : Cond.methodLink RX3 167 yX3_addOwn ∈ xT ∧ Cond.instanceMethod yX3_addOwn ∈ xT ∧ Cond.selects (yX3_addOwn).cls yX3_addOwn yX3_addOwn ∈ xT := ⟨xsg5 50 rfl rfl, xsg5 52 rfl rfl, xsg0 29 rfl rfl⟩
set_option maxRecDepth 20000 in
theorem lk_X3_171 : Cond.methodLink RX3 171 yX3_isAhead ∈ xT ∧ Cond.static yX3_isAhead ∈ xT := ⟨xsg5 54 rfl rfl, xsg5 55 rfl rfl⟩
set_option maxRecDepth 20000 in
theorem lk_X3_178 : Cond.methodLink RX3 178 yJ6_bitCount_0f7a4 ∈ xT ∧ Cond.static yJ6_bitCount_0f7a4 ∈ xT := ⟨xsg5 57 rfl rfl, xsg4 178 rfl rfl⟩
set_option maxRecDepth 20000 in
theorem lk_X4_40 : (RX4, 40, yX11_within, "TurnedIsland") ∈ xNM ∧ Cond.static yX11_within ∈ xT := ⟨by decide +kernel, xsg2 228 rfl rfl⟩
set_option maxRecDepth 20000 in
theorem lk_X4_44 : Cond.methodLink RX4 44 yX4_all ∈ xT ∧ Cond.instanceMethod yX4_all ∈ xT ∧ Cond.selects (yX4_all).cls yX4_all yX4_all ∈ xT := ⟨xsg4 146 rfl rfl, xsg4 147 rfl rfl, xsg4 148 rfl rfl⟩
set_option maxRecDepth 20000 in
theorem lk_X4_48 : Cond.methodLink RX4 48 yX4_weightOf ∈ xT ∧ Cond.instanceMethod yX4_weightOf ∈ xT ∧ Cond.selects (yX4_weightOf).cls yX4_weightOf yX4_weightOf ∈ xT := ⟨xsg4 150 rfl rfl, xsg4 151 rfl rfl, xsg4 152 rfl rfl⟩
set_option maxRecDepth 20000 in
theorem lk_X4_52 : Cond.methodLink RX4 52 yX4_isEnough ∈ xT ∧ Cond.instanceMethod yX4_isEnough ∈ xT ∧ Cond.selects (yX4_isEnough).cls yX4_isEnough yX4_isEnough ∈ xT := ⟨xsg4 142 rfl rfl, xsg4 143 rfl rfl, xsg4 144 rfl rfl⟩
set_option maxRecDepth 20000 in
theorem lk_X4_56 : Cond.methodLink RX4 56 yJ6_bitCount_0f7a4 ∈ xT ∧ Cond.static yJ6_bitCount_0f7a4 ∈ xT := ⟨xsg4 177 rfl rfl, xsg4 178 rfl rfl⟩
set_option maxRecDepth 20000 in
theorem lk_X4_61 : Cond.methodLink RX4 61 yX4_orders ∈ xT ∧ Cond.instanceMethod yX4_orders ∈ xT ∧ Cond.selects (yX4_orders).cls yX4_orders yX4_orders ∈ xT := ⟨xsg4 183 rfl rfl, xsg4 185 rfl rfl, xsg0 18 rfl rfl⟩
set_option maxRecDepth 20000 in
theorem lk_X5_40 : (RX5, 40, yX11_within, "TurnedIsland") ∈ xNM ∧ Cond.static yX11_within ∈ xT := ⟨by decide +kernel, xsg2 228 rfl rfl⟩
set_option maxRecDepth 20000 in
theorem lk_X5_44 : Cond.methodLink RX5 44 yX5_stands ∈ xT ∧ Cond.instanceMethod yX5_stands ∈ xT ∧ Cond.selects (yX5_stands).cls yX5_stands yX5_stands ∈ xT := ⟨xsg4 116 rfl rfl, xsg4 88 rfl rfl, xsg4 89 rfl rfl⟩
set_option maxRecDepth 20000 in
theorem lk_X5_48 : Cond.methodLink RX5 48 yX5_disagree ∈ xT ∧ Cond.instanceMethod yX5_disagree ∈ xT ∧ Cond.selects (yX5_disagree).cls yX5_disagree yX5_disagree ∈ xT := ⟨xsg5 66 rfl rfl, xsg5 68 rfl rfl, xsg0 30 rfl rfl⟩
set_option maxRecDepth 20000 in
theorem lk_X5_52 : Cond.methodLink RX5 52 yJ6_bitCount_0f7a4 ∈ xT ∧ Cond.static yJ6_bitCount_0f7a4 ∈ xT := ⟨xsg5 78 rfl rfl, xsg4 178 rfl rfl⟩
set_option maxRecDepth 20000 in
theorem lk_X5_58 : Cond.methodLink RX5 58 yX5_agreeWithout ∈ xT ∧ Cond.instanceMethod yX5_agreeWithout ∈ xT ∧ Cond.selects (yX5_agreeWithout).cls yX5_agreeWithout yX5_agreeWithout ∈ xT := ⟨xsg5 79 rfl rfl, xsg5 81 rfl rfl, xsg0 31 rfl rfl⟩
set_option maxRecDepth 20000 in
theorem lk_X7_42 : Cond.methodLink RX7 42 yX7_splitTokens ∈ xT ∧ Cond.instanceMethod yX7_splitTokens ∈ xT ∧ Cond.selects (yX7_splitTokens).cls yX7_splitTokens yX7_splitTokens ∈ xT := ⟨xsg3 59 rfl rfl, xsg3 61 rfl rfl, xsg0 1 rfl rfl⟩
set_option maxRecDepth 20000 in
theorem lk_X7_45 : Cond.methodLink RX7 45 yX7_leaveUnread ∈ xT ∧ Cond.instanceMethod yX7_leaveUnread ∈ xT ∧ Cond.selects (yX7_leaveUnread).cls yX7_leaveUnread yX7_leaveUnread ∈ xT := ⟨xsg3 198 rfl rfl, xsg3 52 rfl rfl, xsg3 53 rfl rfl⟩
set_option maxRecDepth 20000 in
theorem lk_X7_48 : Cond.methodLink RX7 48 yX9_clear ∈ xT ∧ Cond.instanceMethod yX9_clear ∈ xT ∧ Cond.selects (yX9_clear).cls yX9_clear yX9_clear ∈ xT := ⟨xsg3 199 rfl rfl, xsg2 25 rfl rfl, xsg2 26 rfl rfl⟩
set_option maxRecDepth 20000 in
theorem lk_X7_54 : Cond.methodLink RX7 54 yX7_readLine ∈ xT ∧ Cond.instanceMethod yX7_readLine ∈ xT ∧ Cond.selects (yX7_readLine).cls yX7_readLine yX7_readLine ∈ xT := ⟨xsg3 200 rfl rfl, xsg3 202 rfl rfl, xsg0 7 rfl rfl⟩
set_option maxRecDepth 20000 in
theorem lk_X7_58 : Cond.methodLink RX7 58 yX9_copyFrom ∈ xT ∧ Cond.instanceMethod yX9_copyFrom ∈ xT ∧ Cond.selects (yX9_copyFrom).cls yX9_copyFrom yX9_copyFrom ∈ xT := ⟨xsg3 236 rfl rfl, xsg3 237 rfl rfl, xsg3 238 rfl rfl⟩
set_option maxRecDepth 20000 in
theorem lk_X7_65 : Cond.methodLink RX7 65 yX7_fail ∈ xT ∧ Cond.instanceMethod yX7_fail ∈ xT ∧ Cond.selects (yX7_fail).cls yX7_fail yX7_fail ∈ xT := ⟨xsg3 204 rfl rfl, xsg3 206 rfl rfl, xsg0 8 rfl rfl⟩
set_option maxRecDepth 20000 in
theorem lk_X7_69 : Cond.methodLink RX7 69 yX7_expect ∈ xT ∧ Cond.instanceMethod yX7_expect ∈ xT ∧ Cond.selects (yX7_expect).cls yX7_expect yX7_expect ∈ xT := ⟨xsg3 208 rfl rfl, xsg3 210 rfl rfl, xsg0 9 rfl rfl⟩
set_option maxRecDepth 20000 in
theorem lk_X7_72 : Cond.methodLink RX7 72 yX7_readSum ∈ xT ∧ Cond.instanceMethod yX7_readSum ∈ xT ∧ Cond.selects (yX7_readSum).cls yX7_readSum yX7_readSum ∈ xT := ⟨xsg3 212 rfl rfl, xsg3 214 rfl rfl, xsg0 10 rfl rfl⟩
set_option maxRecDepth 20000 in
theorem lk_X7_75 : Cond.methodLink RX7 75 yX7_readEither ∈ xT ∧ Cond.instanceMethod yX7_readEither ∈ xT ∧ Cond.selects (yX7_readEither).cls yX7_readEither yX7_readEither ∈ xT := ⟨xsg3 228 rfl rfl, xsg3 230 rfl rfl, xsg0 13 rfl rfl⟩
set_option maxRecDepth 20000 in
theorem lk_X7_78 : Cond.methodLink RX7 78 yX9_add ∈ xT ∧ Cond.instanceMethod yX9_add ∈ xT ∧ Cond.selects (yX9_add).cls yX9_add yX9_add ∈ xT := ⟨xsg3 220 rfl rfl, xsg3 221 rfl rfl, xsg3 222 rfl rfl⟩
set_option maxRecDepth 20000 in
theorem lk_X7_82 : Cond.methodLink RX7 82 yX7_readCondition ∈ xT ∧ Cond.instanceMethod yX7_readCondition ∈ xT ∧ Cond.selects (yX7_readCondition).cls yX7_readCondition yX7_readCondition ∈ xT := ⟨xsg3 232 rfl rfl, xsg3 234 rfl rfl, xsg0 14 rfl rfl⟩
set_option maxRecDepth 20000 in
theorem lk_X7_85 : Cond.methodLink RX7 85 yX7_readUnit ∈ xT ∧ Cond.instanceMethod yX7_readUnit ∈ xT ∧ Cond.selects (yX7_readUnit).cls yX7_readUnit yX7_readUnit ∈ xT := ⟨xsg3 216 rfl rfl, xsg3 218 rfl rfl, xsg0 11 rfl rfl⟩
set_option maxRecDepth 20000 in
theorem lk_X7_88 : Cond.methodLink RX7 88 yX7_readDivisor ∈ xT ∧ Cond.instanceMethod yX7_readDivisor ∈ xT ∧ Cond.selects (yX7_readDivisor).cls yX7_readDivisor yX7_readDivisor ∈ xT := ⟨xsg3 224 rfl rfl, xsg3 226 rfl rfl, xsg0 12 rfl rfl⟩
set_option maxRecDepth 20000 in
theorem lk_X7_98 : Cond.methodLink RX7 98 yX7_isLetter ∈ xT ∧ Cond.static yX7_isLetter ∈ xT := ⟨xsg3 63 rfl rfl, xsg3 64 rfl rfl⟩
set_option maxRecDepth 20000 in
theorem lk_X7_102 : Cond.methodLink RX7 102 yX7_splitWord ∈ xT ∧ Cond.instanceMethod yX7_splitWord ∈ xT ∧ Cond.selects (yX7_splitWord).cls yX7_splitWord yX7_splitWord ∈ xT := ⟨xsg3 66 rfl rfl, xsg3 68 rfl rfl, xsg0 2 rfl rfl⟩
set_option maxRecDepth 20000 in
theorem lk_X7_106 : Cond.methodLink RX7 106 yX7_isDigit ∈ xT ∧ Cond.static yX7_isDigit ∈ xT := ⟨xsg3 131 rfl rfl, xsg3 132 rfl rfl⟩
set_option maxRecDepth 20000 in
theorem lk_X7_109 : Cond.methodLink RX7 109 yX7_splitNumber ∈ xT ∧ Cond.instanceMethod yX7_splitNumber ∈ xT ∧ Cond.selects (yX7_splitNumber).cls yX7_splitNumber yX7_splitNumber ∈ xT := ⟨xsg3 134 rfl rfl, xsg3 136 rfl rfl, xsg0 6 rfl rfl⟩
set_option maxRecDepth 20000 in
theorem lk_X7_114 : Cond.methodLink RX7 114 yJ0_indexOf_0f7a4 ∈ xT ∧ Cond.instanceMethod yJ0_indexOf_0f7a4 ∈ xT ∧ Cond.selects (yJ0_indexOf_0f7a4).cls yJ0_indexOf_0f7a4 yJ0_indexOf_0f7a4 ∈ xT := ⟨xsg3 139 rfl rfl, xsg3 140 rfl rfl, xsg3 141 rfl rfl⟩
set_option maxRecDepth 20000 in
theorem lk_X7_119 : Cond.methodLink RX7 119 yX7_addToken ∈ xT ∧ Cond.instanceMethod yX7_addToken ∈ xT ∧ Cond.selects (yX7_addToken).cls yX7_addToken yX7_addToken ∈ xT := ⟨xsg3 127 rfl rfl, xsg3 129 rfl rfl, xsg0 5 rfl rfl⟩
set_option maxRecDepth 20000 in
theorem lk_X7_123 : Cond.methodLink RX7 123 yX7_keywordOf ∈ xT ∧ Cond.instanceMethod yX7_keywordOf ∈ xT ∧ Cond.selects (yX7_keywordOf).cls yX7_keywordOf yX7_keywordOf ∈ xT := ⟨xsg3 70 rfl rfl, xsg3 72 rfl rfl, xsg0 3 rfl rfl⟩
set_option maxRecDepth 20000 in
theorem lk_X7_129 : Cond.methodLink RX7 129 yJ0_length_8abf5 ∈ xT ∧ Cond.instanceMethod yJ0_length_8abf5 ∈ xT ∧ Cond.selects (yJ0_length_8abf5).cls yJ0_length_8abf5 yJ0_length_8abf5 ∈ xT := ⟨xsg3 75 rfl rfl, xsg3 76 rfl rfl, xsg3 77 rfl rfl⟩
set_option maxRecDepth 20000 in
theorem lk_X7_132 : Cond.methodLink RX7 132 yJ0_charAt_5068e ∈ xT ∧ Cond.instanceMethod yJ0_charAt_5068e ∈ xT ∧ Cond.selects (yJ0_charAt_5068e).cls yJ0_charAt_5068e yJ0_charAt_5068e ∈ xT := ⟨xsg3 85 rfl rfl, xsg3 86 rfl rfl, xsg3 87 rfl rfl⟩
set_option maxRecDepth 20000 in
theorem lk_X7_136 : Cond.methodLink RX7 136 yX7_isKeyword ∈ xT ∧ Cond.instanceMethod yX7_isKeyword ∈ xT ∧ Cond.selects (yX7_isKeyword).cls yX7_isKeyword yX7_isKeyword ∈ xT := ⟨xsg3 123 rfl rfl, xsg3 125 rfl rfl, xsg0 4 rfl rfl⟩
set_option maxRecDepth 20000 in
theorem lk_X8_44 : (RX8, 44, yX11_within, "TurnedIsland") ∈ xNM ∧ Cond.static yX11_within ∈ xT := ⟨by decide +kernel, xsg2 228 rfl rfl⟩
set_option maxRecDepth 20000 in
theorem lk_X8_48 : Cond.methodLink RX8 48 yX8_denyUnlike ∈ xT ∧ Cond.instanceMethod yX8_denyUnlike ∈ xT ∧ Cond.selects (yX8_denyUnlike).cls yX8_denyUnlike yX8_denyUnlike ∈ xT := ⟨xsg5 109 rfl rfl, xsg5 111 rfl rfl, xsg0 32 rfl rfl⟩
set_option maxRecDepth 20000 in
theorem lk_X8_52 : Cond.methodLink RX8 52 yX8_countWays ∈ xT ∧ Cond.instanceMethod yX8_countWays ∈ xT ∧ Cond.selects (yX8_countWays).cls yX8_countWays yX8_countWays ∈ xT := ⟨xsg5 114 rfl rfl, xsg5 116 rfl rfl, xsg0 33 rfl rfl⟩
set_option maxRecDepth 20000 in
theorem lk_X8_67 : Cond.methodLink RX8 67 yX1_angleOf ∈ xT ∧ Cond.instanceMethod yX1_angleOf ∈ xT ∧ Cond.selects (yX1_angleOf).cls yX1_angleOf yX1_angleOf ∈ xT := ⟨xsg5 113 rfl rfl, xsg4 27 rfl rfl, xsg4 28 rfl rfl⟩
set_option maxRecDepth 20000 in
theorem lk_X8_77 : (RX8, 77, yX11_wrap, "TurnedIsland") ∈ xNM ∧ Cond.static yX11_wrap ∈ xT := ⟨by decide +kernel, xsg4 31 rfl rfl⟩
set_option maxRecDepth 20000 in
theorem lk_X8_80 : Cond.methodLink RX8 80 yX8_waysBehind ∈ xT ∧ Cond.instanceMethod yX8_waysBehind ∈ xT ∧ Cond.selects (yX8_waysBehind).cls yX8_waysBehind yX8_waysBehind ∈ xT := ⟨xsg5 120 rfl rfl, xsg5 122 rfl rfl, xsg0 34 rfl rfl⟩
set_option maxRecDepth 20000 in
theorem lk_X8_87 : Cond.methodLink RX8 87 yX8_firstTurn ∈ xT ∧ Cond.instanceMethod yX8_firstTurn ∈ xT ∧ Cond.selects (yX8_firstTurn).cls yX8_firstTurn yX8_firstTurn ∈ xT := ⟨xsg5 130 rfl rfl, xsg5 132 rfl rfl, xsg0 35 rfl rfl⟩
set_option maxRecDepth 20000 in
theorem lk_X9_32 : Cond.methodLink RX9 32 yX9_joined ∈ xT ∧ Cond.static yX9_joined ∈ xT := ⟨xsg4 45 rfl rfl, xsg4 46 rfl rfl⟩
set_option maxRecDepth 20000 in
theorem lk_X10_32 : Cond.methodLink RX10 32 yJ7_fill_53178 ∈ xT ∧ Cond.static yJ7_fill_53178 ∈ xT := ⟨xsg2 77 rfl rfl, xsg2 22 rfl rfl⟩
set_option maxRecDepth 20000 in
theorem lk_X10_49 : (RX10, 49, yX11_within, "TurnedIsland") ∈ xNM ∧ Cond.static yX11_within ∈ xT := ⟨by decide +kernel, xsg2 228 rfl rfl⟩
set_option maxRecDepth 20000 in
theorem lk_X10_67 : Cond.methodLink RX10 67 yX1_angleOf ∈ xT ∧ Cond.instanceMethod yX1_angleOf ∈ xT ∧ Cond.selects (yX1_angleOf).cls yX1_angleOf yX1_angleOf ∈ xT := ⟨xsg4 26 rfl rfl, xsg4 27 rfl rfl, xsg4 28 rfl rfl⟩
set_option maxRecDepth 20000 in
theorem lk_X10_71 : Cond.methodLink RX10 71 yX10_gatherFacts ∈ xT ∧ Cond.instanceMethod yX10_gatherFacts ∈ xT ∧ Cond.selects (yX10_gatherFacts).cls yX10_gatherFacts yX10_gatherFacts ∈ xT := ⟨xsg4 36 rfl rfl, xsg4 38 rfl rfl, xsg0 15 rfl rfl⟩
set_option maxRecDepth 20000 in
theorem lk_X10_75 : Cond.methodLink RX10 75 yX9_valueOf ∈ xT ∧ Cond.instanceMethod yX9_valueOf ∈ xT ∧ Cond.selects (yX9_valueOf).cls yX9_valueOf yX9_valueOf ∈ xT := ⟨xsg4 41 rfl rfl, xsg4 42 rfl rfl, xsg4 43 rfl rfl⟩
set_option maxRecDepth 20000 in
theorem lk_X10_82 : Cond.methodLink RX10 82 yX1_skyCell ∈ xT ∧ Cond.static yX1_skyCell ∈ xT := ⟨xsg4 40 rfl rfl, xsg3 8 rfl rfl⟩
set_option maxRecDepth 20000 in
theorem lk_L_13 : Cond.methodLink RL 13 yX11_notches ∈ xT ∧ Cond.instanceMethod yX11_notches ∈ xT ∧ Cond.selects (yX11_notches).cls yX11_notches yX11_notches ∈ xT := ⟨xsg2 223 rfl rfl, xsg2 224 rfl rfl, xsg2 225 rfl rfl⟩
set_option maxRecDepth 20000 in
theorem lk_L_17 : Cond.methodLink RL 17 yX12_notches ∈ xT ∧ Cond.instanceMethod yX12_notches ∈ xT ∧ Cond.selects (yX12_notches).cls yX12_notches yX12_notches ∈ xT := ⟨xsg6 50 rfl rfl, xsg6 51 rfl rfl, xsg6 52 rfl rfl⟩
set_option maxRecDepth 20000 in
theorem lk_L_18 : Cond.methodLink RL 18 yX11_sky ∈ xT ∧ Cond.instanceMethod yX11_sky ∈ xT ∧ Cond.selects (yX11_sky).cls yX11_sky yX11_sky ∈ xT := ⟨xsg2 238 rfl rfl, xsg2 239 rfl rfl, xsg3 0 rfl rfl⟩
set_option maxRecDepth 20000 in
theorem lk_L_22 : Cond.methodLink RL 22 yX12_sky ∈ xT ∧ Cond.instanceMethod yX12_sky ∈ xT ∧ Cond.selects (yX12_sky).cls yX12_sky yX12_sky ∈ xT := ⟨xsg6 57 rfl rfl, xsg6 58 rfl rfl, xsg6 59 rfl rfl⟩
set_option maxRecDepth 20000 in
theorem lk_L_23 : Cond.methodLink RL 23 yX11_plot ∈ xT ∧ Cond.instanceMethod yX11_plot ∈ xT ∧ Cond.selects (yX11_plot).cls yX11_plot yX11_plot ∈ xT := ⟨xsg3 10 rfl rfl, xsg3 11 rfl rfl, xsg3 12 rfl rfl⟩
set_option maxRecDepth 20000 in
theorem lk_L_27 : Cond.methodLink RL 27 yX12_plot ∈ xT ∧ Cond.instanceMethod yX12_plot ∈ xT ∧ Cond.selects (yX12_plot).cls yX12_plot yX12_plot ∈ xT := ⟨xsg6 69 rfl rfl, xsg6 70 rfl rfl, xsg6 71 rfl rfl⟩
set_option maxRecDepth 20000 in
theorem lk_L_28 : Cond.methodLink RL 28 yX11_set ∈ xT ∧ Cond.instanceMethod yX11_set ∈ xT ∧ Cond.selects (yX11_set).cls yX11_set yX11_set ∈ xT := ⟨xsg3 20 rfl rfl, xsg3 21 rfl rfl, xsg3 22 rfl rfl⟩
set_option maxRecDepth 20000 in
theorem lk_L_32 : Cond.methodLink RL 32 yX12_set ∈ xT ∧ Cond.instanceMethod yX12_set ∈ xT ∧ Cond.selects (yX12_set).cls yX12_set yX12_set ∈ xT := ⟨xsg6 75 rfl rfl, xsg6 76 rfl rfl, xsg6 77 rfl rfl⟩
set_option maxRecDepth 20000 in
theorem lk_L_33 : Cond.methodLink RL 33 yX11_feed ∈ xT ∧ Cond.instanceMethod yX11_feed ∈ xT ∧ Cond.selects (yX11_feed).cls yX11_feed yX11_feed ∈ xT := ⟨xsg3 31 rfl rfl, xsg3 32 rfl rfl, xsg3 33 rfl rfl⟩
set_option maxRecDepth 20000 in
theorem lk_L_37 : Cond.methodLink RL 37 yX12_feed ∈ xT ∧ Cond.instanceMethod yX12_feed ∈ xT ∧ Cond.selects (yX12_feed).cls yX12_feed yX12_feed ∈ xT := ⟨xsg6 79 rfl rfl, xsg6 80 rfl rfl, xsg6 81 rfl rfl⟩
set_option maxRecDepth 20000 in
theorem lk_L_38 : Cond.methodLink RL 38 yX11_end ∈ xT ∧ Cond.instanceMethod yX11_end ∈ xT ∧ Cond.selects (yX11_end).cls yX11_end yX11_end ∈ xT := ⟨xsg3 43 rfl rfl, xsg3 44 rfl rfl, xsg3 45 rfl rfl⟩
set_option maxRecDepth 20000 in
theorem lk_L_41 : Cond.methodLink RL 41 yX12_end ∈ xT ∧ Cond.instanceMethod yX12_end ∈ xT ∧ Cond.selects (yX12_end).cls yX12_end yX12_end ∈ xT := ⟨xsg6 83 rfl rfl, xsg6 84 rfl rfl, xsg6 85 rfl rfl⟩
set_option maxRecDepth 20000 in
theorem lk_L_42 : Cond.methodLink RL 42 yX11_text ∈ xT ∧ Cond.instanceMethod yX11_text ∈ xT ∧ Cond.selects (yX11_text).cls yX11_text yX11_text ∈ xT := ⟨xsg3 47 rfl rfl, xsg3 48 rfl rfl, xsg3 49 rfl rfl⟩
set_option maxRecDepth 20000 in
theorem lk_L_46 : Cond.methodLink RL 46 yX12_text ∈ xT ∧ Cond.instanceMethod yX12_text ∈ xT ∧ Cond.selects (yX12_text).cls yX12_text yX12_text ∈ xT := ⟨xsg6 87 rfl rfl, xsg6 88 rfl rfl, xsg6 89 rfl rfl⟩
set_option maxRecDepth 20000 in
theorem lk_L_47 : Cond.methodLink RL 47 yX11_fault ∈ xT ∧ Cond.instanceMethod yX11_fault ∈ xT ∧ Cond.selects (yX11_fault).cls yX11_fault yX11_fault ∈ xT := ⟨xsg4 4 rfl rfl, xsg4 5 rfl rfl, xsg4 6 rfl rfl⟩
set_option maxRecDepth 20000 in
theorem lk_L_50 : Cond.methodLink RL 50 yX12_fault ∈ xT ∧ Cond.instanceMethod yX12_fault ∈ xT ∧ Cond.selects (yX12_fault).cls yX12_fault yX12_fault ∈ xT := ⟨xsg6 175 rfl rfl, xsg6 176 rfl rfl, xsg6 177 rfl rfl⟩
set_option maxRecDepth 20000 in
theorem lk_L_51 : Cond.methodLink RL 51 yX11_worth ∈ xT ∧ Cond.instanceMethod yX11_worth ∈ xT ∧ Cond.selects (yX11_worth).cls yX11_worth yX11_worth ∈ xT := ⟨xsg4 8 rfl rfl, xsg4 9 rfl rfl, xsg4 10 rfl rfl⟩
set_option maxRecDepth 20000 in
theorem lk_L_54 : Cond.methodLink RL 54 yX12_worth ∈ xT ∧ Cond.instanceMethod yX12_worth ∈ xT ∧ Cond.selects (yX12_worth).cls yX12_worth yX12_worth ∈ xT := ⟨xsg6 179 rfl rfl, xsg6 180 rfl rfl, xsg6 181 rfl rfl⟩
set_option maxRecDepth 20000 in
theorem lk_L_55 : Cond.methodLink RL 55 yX11_sell ∈ xT ∧ Cond.instanceMethod yX11_sell ∈ xT ∧ Cond.selects (yX11_sell).cls yX11_sell yX11_sell ∈ xT := ⟨xsg4 56 rfl rfl, xsg4 57 rfl rfl, xsg4 58 rfl rfl⟩
set_option maxRecDepth 20000 in
theorem lk_L_59 : Cond.methodLink RL 59 yX12_sell ∈ xT ∧ Cond.instanceMethod yX12_sell ∈ xT ∧ Cond.selects (yX12_sell).cls yX12_sell yX12_sell ∈ xT := ⟨xsg6 224 rfl rfl, xsg6 225 rfl rfl, xsg6 226 rfl rfl⟩
set_option maxRecDepth 20000 in
theorem lk_L_60 : Cond.methodLink RL 60 yX11_promise ∈ xT ∧ Cond.instanceMethod yX11_promise ∈ xT ∧ Cond.selects (yX11_promise).cls yX11_promise yX11_promise ∈ xT := ⟨xsg4 71 rfl rfl, xsg4 72 rfl rfl, xsg4 73 rfl rfl⟩
set_option maxRecDepth 20000 in
theorem lk_L_63 : Cond.methodLink RL 63 yX12_promise ∈ xT ∧ Cond.instanceMethod yX12_promise ∈ xT ∧ Cond.selects (yX12_promise).cls yX12_promise yX12_promise ∈ xT := ⟨xsg6 232 rfl rfl, xsg6 233 rfl rfl, xsg6 234 rfl rfl⟩
set_option maxRecDepth 20000 in
theorem lk_L_64 : Cond.methodLink RL 64 yX11_drop ∈ xT ∧ Cond.instanceMethod yX11_drop ∈ xT ∧ Cond.selects (yX11_drop).cls yX11_drop yX11_drop ∈ xT := ⟨xsg4 83 rfl rfl, xsg4 84 rfl rfl, xsg4 85 rfl rfl⟩
set_option maxRecDepth 20000 in
theorem lk_L_67 : Cond.methodLink RL 67 yX12_drop ∈ xT ∧ Cond.instanceMethod yX12_drop ∈ xT ∧ Cond.selects (yX12_drop).cls yX12_drop yX12_drop ∈ xT := ⟨xsg6 236 rfl rfl, xsg6 237 rfl rfl, xsg6 238 rfl rfl⟩
set_option maxRecDepth 20000 in
theorem lk_L_68 : Cond.methodLink RL 68 yX11_votes ∈ xT ∧ Cond.instanceMethod yX11_votes ∈ xT ∧ Cond.selects (yX11_votes).cls yX11_votes yX11_votes ∈ xT := ⟨xsg4 96 rfl rfl, xsg4 97 rfl rfl, xsg4 98 rfl rfl⟩
set_option maxRecDepth 20000 in
theorem lk_L_71 : Cond.methodLink RL 71 yX12_votes ∈ xT ∧ Cond.instanceMethod yX12_votes ∈ xT ∧ Cond.selects (yX12_votes).cls yX12_votes yX12_votes ∈ xT := ⟨xsg7 4 rfl rfl, xsg7 5 rfl rfl, xsg7 6 rfl rfl⟩
set_option maxRecDepth 20000 in
theorem lk_L_72 : Cond.methodLink RL 72 yX11_holder ∈ xT ∧ Cond.instanceMethod yX11_holder ∈ xT ∧ Cond.selects (yX11_holder).cls yX11_holder yX11_holder ∈ xT := ⟨xsg4 120 rfl rfl, xsg4 121 rfl rfl, xsg4 122 rfl rfl⟩
set_option maxRecDepth 20000 in
theorem lk_L_76 : Cond.methodLink RL 76 yX12_holder ∈ xT ∧ Cond.instanceMethod yX12_holder ∈ xT ∧ Cond.selects (yX12_holder).cls yX12_holder yX12_holder ∈ xT := ⟨xsg6 212 rfl rfl, xsg6 213 rfl rfl, xsg6 214 rfl rfl⟩
set_option maxRecDepth 20000 in
theorem lk_L_77 : Cond.methodLink RL 77 yX11_noons ∈ xT ∧ Cond.instanceMethod yX11_noons ∈ xT ∧ Cond.selects (yX11_noons).cls yX11_noons yX11_noons ∈ xT := ⟨xsg4 124 rfl rfl, xsg4 125 rfl rfl, xsg4 126 rfl rfl⟩
set_option maxRecDepth 20000 in
theorem lk_L_80 : Cond.methodLink RL 80 yX12_noons ∈ xT ∧ Cond.instanceMethod yX12_noons ∈ xT ∧ Cond.selects (yX12_noons).cls yX12_noons yX12_noons ∈ xT := ⟨xsg7 16 rfl rfl, xsg7 17 rfl rfl, xsg7 18 rfl rfl⟩
set_option maxRecDepth 20000 in
theorem lk_L_81 : Cond.methodLink RL 81 yX11_of ∈ xT ∧ Cond.instanceMethod yX11_of ∈ xT ∧ Cond.selects (yX11_of).cls yX11_of yX11_of ∈ xT := ⟨xsg4 168 rfl rfl, xsg4 169 rfl rfl, xsg4 170 rfl rfl⟩
set_option maxRecDepth 20000 in
theorem lk_L_84 : Cond.methodLink RL 84 yX12_of ∈ xT ∧ Cond.instanceMethod yX12_of ∈ xT ∧ Cond.selects (yX12_of).cls yX12_of yX12_of ∈ xT := ⟨xsg7 48 rfl rfl, xsg7 49 rfl rfl, xsg7 50 rfl rfl⟩
set_option maxRecDepth 20000 in
theorem lk_L_85 : Cond.methodLink RL 85 yX11_turned ∈ xT ∧ Cond.instanceMethod yX11_turned ∈ xT ∧ Cond.selects (yX11_turned).cls yX11_turned yX11_turned ∈ xT := ⟨xsg4 189 rfl rfl, xsg4 190 rfl rfl, xsg4 191 rfl rfl⟩
set_option maxRecDepth 20000 in
theorem lk_L_88 : Cond.methodLink RL 88 yX12_turned ∈ xT ∧ Cond.instanceMethod yX12_turned ∈ xT ∧ Cond.selects (yX12_turned).cls yX12_turned yX12_turned ∈ xT := ⟨xsg7 44 rfl rfl, xsg7 45 rfl rfl, xsg7 46 rfl rfl⟩
set_option maxRecDepth 20000 in
theorem lk_L_89 : Cond.methodLink RL 89 yX11_best ∈ xT ∧ Cond.instanceMethod yX11_best ∈ xT ∧ Cond.selects (yX11_best).cls yX11_best yX11_best ∈ xT := ⟨xsg4 194 rfl rfl, xsg4 195 rfl rfl, xsg4 196 rfl rfl⟩
set_option maxRecDepth 20000 in
theorem lk_L_92 : Cond.methodLink RL 92 yX12_best ∈ xT ∧ Cond.instanceMethod yX12_best ∈ xT ∧ Cond.selects (yX12_best).cls yX12_best yX12_best ∈ xT := ⟨xsg7 62 rfl rfl, xsg7 63 rfl rfl, xsg7 64 rfl rfl⟩
set_option maxRecDepth 20000 in
theorem lk_L_93 : Cond.methodLink RL 93 yX11_fair ∈ xT ∧ Cond.instanceMethod yX11_fair ∈ xT ∧ Cond.selects (yX11_fair).cls yX11_fair yX11_fair ∈ xT := ⟨xsg4 236 rfl rfl, xsg4 237 rfl rfl, xsg4 238 rfl rfl⟩
set_option maxRecDepth 20000 in
theorem lk_L_96 : Cond.methodLink RL 96 yX12_fair ∈ xT ∧ Cond.instanceMethod yX12_fair ∈ xT ∧ Cond.selects (yX12_fair).cls yX12_fair yX12_fair ∈ xT := ⟨xsg7 86 rfl rfl, xsg7 87 rfl rfl, xsg7 88 rfl rfl⟩
set_option maxRecDepth 20000 in
theorem lk_L_97 : Cond.methodLink RL 97 yX11_alone ∈ xT ∧ Cond.instanceMethod yX11_alone ∈ xT ∧ Cond.selects (yX11_alone).cls yX11_alone yX11_alone ∈ xT := ⟨xsg5 18 rfl rfl, xsg5 19 rfl rfl, xsg5 20 rfl rfl⟩
set_option maxRecDepth 20000 in
theorem lk_L_100 : Cond.methodLink RL 100 yX12_alone ∈ xT ∧ Cond.instanceMethod yX12_alone ∈ xT ∧ Cond.selects (yX12_alone).cls yX12_alone yX12_alone ∈ xT := ⟨xsg7 94 rfl rfl, xsg7 95 rfl rfl, xsg7 96 rfl rfl⟩
set_option maxRecDepth 20000 in
theorem lk_L_101 : Cond.methodLink RL 101 yX11_pay ∈ xT ∧ Cond.instanceMethod yX11_pay ∈ xT ∧ Cond.selects (yX11_pay).cls yX11_pay yX11_pay ∈ xT := ⟨xsg5 29 rfl rfl, xsg5 30 rfl rfl, xsg5 31 rfl rfl⟩
set_option maxRecDepth 20000 in
theorem lk_L_104 : Cond.methodLink RL 104 yX12_pay ∈ xT ∧ Cond.instanceMethod yX12_pay ∈ xT ∧ Cond.selects (yX12_pay).cls yX12_pay yX12_pay ∈ xT := ⟨xsg7 102 rfl rfl, xsg7 103 rfl rfl, xsg7 104 rfl rfl⟩
set_option maxRecDepth 20000 in
theorem lk_L_105 : Cond.methodLink RL 105 yX11_leave ∈ xT ∧ Cond.instanceMethod yX11_leave ∈ xT ∧ Cond.selects (yX11_leave).cls yX11_leave yX11_leave ∈ xT := ⟨xsg5 33 rfl rfl, xsg5 34 rfl rfl, xsg5 35 rfl rfl⟩
set_option maxRecDepth 20000 in
theorem lk_L_108 : Cond.methodLink RL 108 yX12_leave ∈ xT ∧ Cond.instanceMethod yX12_leave ∈ xT ∧ Cond.selects (yX12_leave).cls yX12_leave yX12_leave ∈ xT := ⟨xsg7 106 rfl rfl, xsg7 107 rfl rfl, xsg7 108 rfl rfl⟩
set_option maxRecDepth 20000 in
theorem lk_L_109 : Cond.methodLink RL 109 yX11_quarrel ∈ xT ∧ Cond.instanceMethod yX11_quarrel ∈ xT ∧ Cond.selects (yX11_quarrel).cls yX11_quarrel yX11_quarrel ∈ xT := ⟨xsg5 58 rfl rfl, xsg5 59 rfl rfl, xsg5 60 rfl rfl⟩
set_option maxRecDepth 20000 in
theorem lk_L_113 : Cond.methodLink RL 113 yX12_quarrel ∈ xT ∧ Cond.instanceMethod yX12_quarrel ∈ xT ∧ Cond.selects (yX12_quarrel).cls yX12_quarrel yX12_quarrel ∈ xT := ⟨xsg7 110 rfl rfl, xsg7 111 rfl rfl, xsg7 112 rfl rfl⟩
set_option maxRecDepth 20000 in
theorem lk_L_114 : Cond.methodLink RL 114 yX11_fewest ∈ xT ∧ Cond.instanceMethod yX11_fewest ∈ xT ∧ Cond.selects (yX11_fewest).cls yX11_fewest yX11_fewest ∈ xT := ⟨xsg5 70 rfl rfl, xsg5 71 rfl rfl, xsg5 72 rfl rfl⟩
set_option maxRecDepth 20000 in
theorem lk_L_117 : Cond.methodLink RL 117 yX12_fewest ∈ xT ∧ Cond.instanceMethod yX12_fewest ∈ xT ∧ Cond.selects (yX12_fewest).cls yX12_fewest yX12_fewest ∈ xT := ⟨xsg7 118 rfl rfl, xsg7 119 rfl rfl, xsg7 120 rfl rfl⟩
set_option maxRecDepth 20000 in
theorem lk_L_118 : Cond.methodLink RL 118 yX11_plan ∈ xT ∧ Cond.instanceMethod yX11_plan ∈ xT ∧ Cond.selects (yX11_plan).cls yX11_plan yX11_plan ∈ xT := ⟨xsg5 83 rfl rfl, xsg5 84 rfl rfl, xsg5 85 rfl rfl⟩
set_option maxRecDepth 20000 in
theorem lk_L_121 : Cond.methodLink RL 121 yX12_plan ∈ xT ∧ Cond.instanceMethod yX12_plan ∈ xT ∧ Cond.selects (yX12_plan).cls yX12_plan yX12_plan ∈ xT := ⟨xsg7 126 rfl rfl, xsg7 127 rfl rfl, xsg7 128 rfl rfl⟩
set_option maxRecDepth 20000 in
theorem lk_L_122 : Cond.methodLink RL 122 yX11_boat ∈ xT ∧ Cond.instanceMethod yX11_boat ∈ xT ∧ Cond.selects (yX11_boat).cls yX11_boat yX11_boat ∈ xT := ⟨xsg5 87 rfl rfl, xsg5 88 rfl rfl, xsg5 89 rfl rfl⟩
set_option maxRecDepth 20000 in
theorem lk_L_126 : Cond.methodLink RL 126 yX12_boat ∈ xT ∧ Cond.instanceMethod yX12_boat ∈ xT ∧ Cond.selects (yX12_boat).cls yX12_boat yX12_boat ∈ xT := ⟨xsg7 130 rfl rfl, xsg7 131 rfl rfl, xsg7 132 rfl rfl⟩
set_option maxRecDepth 20000 in
theorem lk_L_127 : Cond.methodLink RL 127 yX11_log ∈ xT ∧ Cond.instanceMethod yX11_log ∈ xT ∧ Cond.selects (yX11_log).cls yX11_log yX11_log ∈ xT := ⟨xsg5 91 rfl rfl, xsg5 92 rfl rfl, xsg5 93 rfl rfl⟩
set_option maxRecDepth 20000 in
theorem lk_L_131 : Cond.methodLink RL 131 yX12_log ∈ xT ∧ Cond.instanceMethod yX12_log ∈ xT ∧ Cond.selects (yX12_log).cls yX12_log yX12_log ∈ xT := ⟨xsg7 134 rfl rfl, xsg7 135 rfl rfl, xsg7 136 rfl rfl⟩
set_option maxRecDepth 20000 in
theorem lk_L_132 : Cond.methodLink RL 132 yX11_back ∈ xT ∧ Cond.instanceMethod yX11_back ∈ xT ∧ Cond.selects (yX11_back).cls yX11_back yX11_back ∈ xT := ⟨xsg5 99 rfl rfl, xsg5 100 rfl rfl, xsg5 101 rfl rfl⟩
set_option maxRecDepth 20000 in
theorem lk_L_136 : Cond.methodLink RL 136 yX12_back ∈ xT ∧ Cond.instanceMethod yX12_back ∈ xT ∧ Cond.selects (yX12_back).cls yX12_back yX12_back ∈ xT := ⟨xsg7 138 rfl rfl, xsg7 139 rfl rfl, xsg7 140 rfl rfl⟩
set_option maxRecDepth 20000 in
theorem lk_L_137 : Cond.methodLink RL 137 yX11_undo ∈ xT ∧ Cond.instanceMethod yX11_undo ∈ xT ∧ Cond.selects (yX11_undo).cls yX11_undo yX11_undo ∈ xT := ⟨xsg5 134 rfl rfl, xsg5 135 rfl rfl, xsg5 136 rfl rfl⟩
set_option maxRecDepth 20000 in
theorem lk_L_141 : Cond.methodLink RL 141 yX12_undo ∈ xT ∧ Cond.instanceMethod yX12_undo ∈ xT ∧ Cond.selects (yX12_undo).cls yX12_undo yX12_undo ∈ xT := ⟨xsg7 12 rfl rfl, xsg7 13 rfl rfl, xsg7 14 rfl rfl⟩
set_option maxRecDepth 20000 in
theorem lk_L_142 : Cond.methodLink RL 142 yX11_image ∈ xT ∧ Cond.instanceMethod yX11_image ∈ xT ∧ Cond.selects (yX11_image).cls yX11_image yX11_image ∈ xT := ⟨xsg5 142 rfl rfl, xsg5 143 rfl rfl, xsg5 144 rfl rfl⟩
set_option maxRecDepth 20000 in
theorem lk_L_146 : Cond.methodLink RL 146 yX12_image ∈ xT ∧ Cond.instanceMethod yX12_image ∈ xT ∧ Cond.selects (yX12_image).cls yX12_image yX12_image ∈ xT := ⟨xsg7 153 rfl rfl, xsg7 154 rfl rfl, xsg7 155 rfl rfl⟩
set_option maxRecDepth 20000 in
theorem lk_L_147 : Cond.methodLink RL 147 yX11_look ∈ xT ∧ Cond.instanceMethod yX11_look ∈ xT ∧ Cond.selects (yX11_look).cls yX11_look yX11_look ∈ xT := ⟨xsg5 176 rfl rfl, xsg5 177 rfl rfl, xsg5 178 rfl rfl⟩
set_option maxRecDepth 20000 in
theorem lk_L_150 : Cond.methodLink RL 150 yX12_look ∈ xT ∧ Cond.instanceMethod yX12_look ∈ xT ∧ Cond.selects (yX12_look).cls yX12_look yX12_look ∈ xT := ⟨xsg7 157 rfl rfl, xsg7 158 rfl rfl, xsg7 159 rfl rfl⟩
set_option maxRecDepth 20000 in
theorem lk_X12_63 : Cond.methodLink RX12 63 yX12_begins ∈ xT ∧ Cond.instanceMethod yX12_begins ∈ xT ∧ Cond.selects (yX12_begins).cls yX12_begins yX12_begins ∈ xT := ⟨xsg5 186 rfl rfl, xsg5 188 rfl rfl, xsg0 37 rfl rfl⟩
set_option maxRecDepth 20000 in
theorem lk_X12_70 : Cond.methodLink RX12 70 yX12_isIn ∈ xT ∧ Cond.static yX12_isIn ∈ xT := ⟨xsg6 54 rfl rfl, xsg6 55 rfl rfl⟩
set_option maxRecDepth 20000 in
theorem lk_X12_74 : Cond.methodLink RX12 74 yX12_isAngle ∈ xT ∧ Cond.instanceMethod yX12_isAngle ∈ xT ∧ Cond.selects (yX12_isAngle).cls yX12_isAngle yX12_isAngle ∈ xT := ⟨xsg6 61 rfl rfl, xsg6 63 rfl rfl, xsg0 38 rfl rfl⟩
set_option maxRecDepth 20000 in
theorem lk_X12_78 : Cond.methodLink RX12 78 yX12_forgets ∈ xT ∧ Cond.instanceMethod yX12_forgets ∈ xT ∧ Cond.selects (yX12_forgets).cls yX12_forgets yX12_forgets ∈ xT := ⟨xsg6 65 rfl rfl, xsg6 67 rfl rfl, xsg0 39 rfl rfl⟩
set_option maxRecDepth 20000 in
theorem lk_X12_92 : Cond.methodLink RX12 92 yJ0_length_8abf5 ∈ xT ∧ Cond.instanceMethod yJ0_length_8abf5 ∈ xT ∧ Cond.selects (yJ0_length_8abf5).cls yJ0_length_8abf5 yJ0_length_8abf5 ∈ xT := ⟨xsg6 111 rfl rfl, xsg3 76 rfl rfl, xsg3 77 rfl rfl⟩
set_option maxRecDepth 20000 in
theorem lk_X12_98 : Cond.methodLink RX12 98 yJ0_charAt_5068e ∈ xT ∧ Cond.instanceMethod yJ0_charAt_5068e ∈ xT ∧ Cond.selects (yJ0_charAt_5068e).cls yJ0_charAt_5068e yJ0_charAt_5068e ∈ xT := ⟨xsg6 112 rfl rfl, xsg3 86 rfl rfl, xsg3 87 rfl rfl⟩
set_option maxRecDepth 20000 in
theorem lk_X12_104 : Cond.methodLink RX12 104 yX12_is ∈ xT ∧ Cond.instanceMethod yX12_is ∈ xT ∧ Cond.selects (yX12_is).cls yX12_is yX12_is ∈ xT := ⟨xsg6 107 rfl rfl, xsg6 109 rfl rfl, xsg0 43 rfl rfl⟩
set_option maxRecDepth 20000 in
theorem lk_X12_130 : Cond.methodLink RX12 130 yX12_nameWord ∈ xT ∧ Cond.instanceMethod yX12_nameWord ∈ xT ∧ Cond.selects (yX12_nameWord).cls yX12_nameWord yX12_nameWord ∈ xT := ⟨xsg6 117 rfl rfl, xsg6 119 rfl rfl, xsg0 44 rfl rfl⟩
set_option maxRecDepth 20000 in
theorem lk_X12_133 : Cond.methodLink RX12 133 yX12_see ∈ xT ∧ Cond.instanceMethod yX12_see ∈ xT ∧ Cond.selects (yX12_see).cls yX12_see yX12_see ∈ xT := ⟨xsg6 95 rfl rfl, xsg6 97 rfl rfl, xsg0 41 rfl rfl⟩
set_option maxRecDepth 20000 in
theorem lk_X12_140 : Cond.methodLink RX12 140 yX12_isLetter ∈ xT ∧ Cond.static yX12_isLetter ∈ xT := ⟨xsg6 99 rfl rfl, xsg6 100 rfl rfl⟩
set_option maxRecDepth 20000 in
theorem lk_X12_143 : Cond.methodLink RX12 143 yX12_word ∈ xT ∧ Cond.instanceMethod yX12_word ∈ xT ∧ Cond.selects (yX12_word).cls yX12_word yX12_word ∈ xT := ⟨xsg6 102 rfl rfl, xsg6 104 rfl rfl, xsg0 42 rfl rfl⟩
set_option maxRecDepth 20000 in
theorem lk_X12_146 : Cond.methodLink RX12 146 yX12_isDigit ∈ xT ∧ Cond.static yX12_isDigit ∈ xT := ⟨xsg6 128 rfl rfl, xsg6 129 rfl rfl⟩
set_option maxRecDepth 20000 in
theorem lk_X12_158 : Cond.methodLink RX12 158 yX12_bad ∈ xT ∧ Cond.instanceMethod yX12_bad ∈ xT ∧ Cond.selects (yX12_bad).cls yX12_bad yX12_bad ∈ xT := ⟨xsg6 135 rfl rfl, xsg6 137 rfl rfl, xsg0 46 rfl rfl⟩
set_option maxRecDepth 20000 in
theorem lk_X12_161 : Cond.methodLink RX12 161 yX12_next0 ∈ xT ∧ Cond.instanceMethod yX12_next0 ∈ xT ∧ Cond.selects (yX12_next0).cls yX12_next0 yX12_next0 ∈ xT := ⟨xsg6 91 rfl rfl, xsg6 93 rfl rfl, xsg0 40 rfl rfl⟩
set_option maxRecDepth 20000 in
theorem lk_X12_170 : Cond.methodLink RX12 170 yX12_product ∈ xT ∧ Cond.instanceMethod yX12_product ∈ xT ∧ Cond.selects (yX12_product).cls yX12_product yX12_product ∈ xT := ⟨xsg6 143 rfl rfl, xsg6 145 rfl rfl, xsg0 48 rfl rfl⟩
set_option maxRecDepth 20000 in
theorem lk_X12_174 : Cond.methodLink RX12 174 yX12_lay ∈ xT ∧ Cond.instanceMethod yX12_lay ∈ xT ∧ Cond.selects (yX12_lay).cls yX12_lay yX12_lay ∈ xT := ⟨xsg6 151 rfl rfl, xsg6 153 rfl rfl, xsg0 50 rfl rfl⟩
set_option maxRecDepth 20000 in
theorem lk_X12_178 : Cond.methodLink RX12 178 yX12_unit ∈ xT ∧ Cond.instanceMethod yX12_unit ∈ xT ∧ Cond.selects (yX12_unit).cls yX12_unit yX12_unit ∈ xT := ⟨xsg6 147 rfl rfl, xsg6 149 rfl rfl, xsg0 49 rfl rfl⟩
set_option maxRecDepth 20000 in
theorem lk_X12_181 : Cond.methodLink RX12 181 yX12_every ∈ xT ∧ Cond.instanceMethod yX12_every ∈ xT ∧ Cond.selects (yX12_every).cls yX12_every yX12_every ∈ xT := ⟨xsg6 159 rfl rfl, xsg6 161 rfl rfl, xsg0 52 rfl rfl⟩
set_option maxRecDepth 20000 in
theorem lk_X12_184 : Cond.methodLink RX12 184 yX12_one ∈ xT ∧ Cond.instanceMethod yX12_one ∈ xT ∧ Cond.selects (yX12_one).cls yX12_one yX12_one ∈ xT := ⟨xsg6 163 rfl rfl, xsg6 165 rfl rfl, xsg0 53 rfl rfl⟩
set_option maxRecDepth 20000 in
theorem lk_X12_187 : Cond.methodLink RX12 187 yX12_opens ∈ xT ∧ Cond.instanceMethod yX12_opens ∈ xT ∧ Cond.selects (yX12_opens).cls yX12_opens yX12_opens ∈ xT := ⟨xsg6 167 rfl rfl, xsg6 169 rfl rfl, xsg0 54 rfl rfl⟩
set_option maxRecDepth 20000 in
theorem lk_X12_190 : Cond.methodLink RX12 190 yX12_any ∈ xT ∧ Cond.instanceMethod yX12_any ∈ xT ∧ Cond.selects (yX12_any).cls yX12_any yX12_any ∈ xT := ⟨xsg6 155 rfl rfl, xsg6 157 rfl rfl, xsg0 51 rfl rfl⟩
set_option maxRecDepth 20000 in
theorem lk_X12_193 : Cond.methodLink RX12 193 yX12_need ∈ xT ∧ Cond.instanceMethod yX12_need ∈ xT ∧ Cond.selects (yX12_need).cls yX12_need yX12_need ∈ xT := ⟨xsg6 171 rfl rfl, xsg6 173 rfl rfl, xsg0 55 rfl rfl⟩
set_option maxRecDepth 20000 in
theorem lk_X12_196 : Cond.methodLink RX12 196 yX12_sumUp ∈ xT ∧ Cond.instanceMethod yX12_sumUp ∈ xT ∧ Cond.selects (yX12_sumUp).cls yX12_sumUp yX12_sumUp ∈ xT := ⟨xsg6 139 rfl rfl, xsg6 141 rfl rfl, xsg0 47 rfl rfl⟩
set_option maxRecDepth 20000 in
theorem lk_X12_205 : Cond.methodLink RX12 205 yX12_aLine ∈ xT ∧ Cond.instanceMethod yX12_aLine ∈ xT ∧ Cond.selects (yX12_aLine).cls yX12_aLine yX12_aLine ∈ xT := ⟨xsg6 131 rfl rfl, xsg6 133 rfl rfl, xsg0 45 rfl rfl⟩
set_option maxRecDepth 20000 in
theorem lk_X12_208 : Cond.methodLink RX12 208 yX12_both ∈ xT ∧ Cond.static yX12_both ∈ xT := ⟨xsg6 206 rfl rfl, xsg6 207 rfl rfl⟩
set_option maxRecDepth 20000 in
theorem lk_X12_212 : Cond.methodLink RX12 212 yX12_of0 ∈ xT ∧ Cond.instanceMethod yX12_of0 ∈ xT ∧ Cond.selects (yX12_of0).cls yX12_of0 yX12_of0 ∈ xT := ⟨xsg6 194 rfl rfl, xsg6 196 rfl rfl, xsg0 58 rfl rfl⟩
set_option maxRecDepth 20000 in
theorem lk_X12_216 : Cond.methodLink RX12 216 yX12_modulo ∈ xT ∧ Cond.instanceMethod yX12_modulo ∈ xT ∧ Cond.selects (yX12_modulo).cls yX12_modulo yX12_modulo ∈ xT := ⟨xsg6 198 rfl rfl, xsg6 200 rfl rfl, xsg0 59 rfl rfl⟩
set_option maxRecDepth 20000 in
theorem lk_X12_219 : Cond.methodLink RX12 219 yX12_comesTo ∈ xT ∧ Cond.instanceMethod yX12_comesTo ∈ xT ∧ Cond.selects (yX12_comesTo).cls yX12_comesTo yX12_comesTo ∈ xT := ⟨xsg6 202 rfl rfl, xsg6 204 rfl rfl, xsg0 60 rfl rfl⟩
set_option maxRecDepth 20000 in
theorem lk_X12_226 : Cond.methodLink RX12 226 yX12_isPlot ∈ xT ∧ Cond.instanceMethod yX12_isPlot ∈ xT ∧ Cond.selects (yX12_isPlot).cls yX12_isPlot yX12_isPlot ∈ xT := ⟨xsg6 183 rfl rfl, xsg6 185 rfl rfl, xsg0 56 rfl rfl⟩
set_option maxRecDepth 20000 in
theorem lk_X12_229 : Cond.methodLink RX12 229 yX12_isDay ∈ xT ∧ Cond.static yX12_isDay ∈ xT := ⟨xsg6 187 rfl rfl, xsg6 188 rfl rfl⟩
set_option maxRecDepth 20000 in
theorem lk_X12_232 : Cond.methodLink RX12 232 yX12_worthOf ∈ xT ∧ Cond.instanceMethod yX12_worthOf ∈ xT ∧ Cond.selects (yX12_worthOf).cls yX12_worthOf yX12_worthOf ∈ xT := ⟨xsg6 190 rfl rfl, xsg6 192 rfl rfl, xsg0 57 rfl rfl⟩
set_option maxRecDepth 20000 in
theorem lk_X12_237 : Cond.methodLink RX12 237 yX12_saleOf ∈ xT ∧ Cond.instanceMethod yX12_saleOf ∈ xT ∧ Cond.selects (yX12_saleOf).cls yX12_saleOf yX12_saleOf ∈ xT := ⟨xsg6 220 rfl rfl, xsg6 222 rfl rfl, xsg0 62 rfl rfl⟩
set_option maxRecDepth 20000 in
theorem lk_X12_240 : Cond.methodLink RX12 240 yX12_holderOf ∈ xT ∧ Cond.instanceMethod yX12_holderOf ∈ xT ∧ Cond.selects (yX12_holderOf).cls yX12_holderOf yX12_holderOf ∈ xT := ⟨xsg6 216 rfl rfl, xsg6 218 rfl rfl, xsg0 61 rfl rfl⟩
set_option maxRecDepth 20000 in
theorem lk_X12_243 : Cond.methodLink RX12 243 yX12_gives ∈ xT ∧ Cond.instanceMethod yX12_gives ∈ xT ∧ Cond.selects (yX12_gives).cls yX12_gives yX12_gives ∈ xT := ⟨xsg6 228 rfl rfl, xsg6 230 rfl rfl, xsg0 63 rfl rfl⟩
set_option maxRecDepth 20000 in
theorem lk_X12_246 : Cond.methodLink RX12 246 yX12_stands ∈ xT ∧ Cond.instanceMethod yX12_stands ∈ xT ∧ Cond.selects (yX12_stands).cls yX12_stands yX12_stands ∈ xT := ⟨xsg7 0 rfl rfl, xsg7 2 rfl rfl, xsg0 64 rfl rfl⟩
set_option maxRecDepth 20000 in
theorem lk_X12_249 : Cond.methodLink RX12 249 yX12_voteOf ∈ xT ∧ Cond.instanceMethod yX12_voteOf ∈ xT ∧ Cond.selects (yX12_voteOf).cls yX12_voteOf yX12_voteOf ∈ xT := ⟨xsg7 8 rfl rfl, xsg7 10 rfl rfl, xsg0 65 rfl rfl⟩
set_option maxRecDepth 20000 in
theorem lk_X12_252 : Cond.methodLink RX12 252 yX12_weighs ∈ xT ∧ Cond.instanceMethod yX12_weighs ∈ xT ∧ Cond.selects (yX12_weighs).cls yX12_weighs yX12_weighs ∈ xT := ⟨xsg7 32 rfl rfl, xsg7 34 rfl rfl, xsg0 69 rfl rfl⟩
set_option maxRecDepth 20000 in
theorem lk_X12_255 : Cond.methodLink RX12 255 yX12_allPlots ∈ xT ∧ Cond.instanceMethod yX12_allPlots ∈ xT ∧ Cond.selects (yX12_allPlots).cls yX12_allPlots yX12_allPlots ∈ xT := ⟨xsg7 36 rfl rfl, xsg7 38 rfl rfl, xsg0 70 rfl rfl⟩
set_option maxRecDepth 20000 in
theorem lk_X12_258 : Cond.methodLink RX12 258 yX12_isEnough ∈ xT ∧ Cond.instanceMethod yX12_isEnough ∈ xT ∧ Cond.selects (yX12_isEnough).cls yX12_isEnough yX12_isEnough ∈ xT := ⟨xsg7 28 rfl rfl, xsg7 30 rfl rfl, xsg0 68 rfl rfl⟩
set_option maxRecDepth 20000 in
theorem lk_X12_261 : Cond.methodLink RX12 261 yX12_writes ∈ xT ∧ Cond.instanceMethod yX12_writes ∈ xT ∧ Cond.selects (yX12_writes).cls yX12_writes yX12_writes ∈ xT := ⟨xsg7 40 rfl rfl, xsg7 42 rfl rfl, xsg0 71 rfl rfl⟩
set_option maxRecDepth 20000 in
theorem lk_X12_264 : Cond.methodLink RX12 264 yX12_keeps ∈ xT ∧ Cond.instanceMethod yX12_keeps ∈ xT ∧ Cond.selects (yX12_keeps).cls yX12_keeps yX12_keeps ∈ xT := ⟨xsg7 20 rfl rfl, xsg7 22 rfl rfl, xsg0 66 rfl rfl⟩
set_option maxRecDepth 20000 in
theorem lk_X12_267 : Cond.methodLink RX12 267 yX12_aNoon ∈ xT ∧ Cond.instanceMethod yX12_aNoon ∈ xT ∧ Cond.selects (yX12_aNoon).cls yX12_aNoon yX12_aNoon ∈ xT := ⟨xsg7 24 rfl rfl, xsg7 26 rfl rfl, xsg0 67 rfl rfl⟩
set_option maxRecDepth 20000 in
theorem lk_X12_270 : Cond.methodLink RX12 270 yX12_orders ∈ xT ∧ Cond.static yX12_orders ∈ xT := ⟨xsg7 59 rfl rfl, xsg7 60 rfl rfl⟩
set_option maxRecDepth 20000 in
theorem lk_X12_273 : Cond.methodLink RX12 273 yX12_count ∈ xT ∧ Cond.static yX12_count ∈ xT := ⟨xsg7 56 rfl rfl, xsg7 57 rfl rfl⟩
set_option maxRecDepth 20000 in
theorem lk_X12_276 : Cond.methodLink RX12 276 yX12_pivots ∈ xT ∧ Cond.instanceMethod yX12_pivots ∈ xT ∧ Cond.selects (yX12_pivots).cls yX12_pivots yX12_pivots ∈ xT := ⟨xsg7 52 rfl rfl, xsg7 54 rfl rfl, xsg0 72 rfl rfl⟩
set_option maxRecDepth 20000 in
theorem lk_X12_280 : Cond.methodLink RX12 280 yX12_placeOf ∈ xT ∧ Cond.instanceMethod yX12_placeOf ∈ xT ∧ Cond.selects (yX12_placeOf).cls yX12_placeOf yX12_placeOf ∈ xT := ⟨xsg7 75 rfl rfl, xsg7 77 rfl rfl, xsg0 75 rfl rfl⟩
set_option maxRecDepth 20000 in
theorem lk_X12_283 : Cond.methodLink RX12 283 yX12_turnOf ∈ xT ∧ Cond.static yX12_turnOf ∈ xT := ⟨xsg7 79 rfl rfl, xsg7 80 rfl rfl⟩
set_option maxRecDepth 20000 in
theorem lk_X12_286 : Cond.methodLink RX12 286 yX12_worthTo ∈ xT ∧ Cond.instanceMethod yX12_worthTo ∈ xT ∧ Cond.selects (yX12_worthTo).cls yX12_worthTo yX12_worthTo ∈ xT := ⟨xsg7 82 rfl rfl, xsg7 84 rfl rfl, xsg0 76 rfl rfl⟩
set_option maxRecDepth 20000 in
theorem lk_X12_289 : Cond.methodLink RX12 289 yX12_laysBest ∈ xT ∧ Cond.instanceMethod yX12_laysBest ∈ xT ∧ Cond.selects (yX12_laysBest).cls yX12_laysBest yX12_laysBest ∈ xT := ⟨xsg7 71 rfl rfl, xsg7 73 rfl rfl, xsg0 74 rfl rfl⟩
set_option maxRecDepth 20000 in
theorem lk_X12_294 : Cond.methodLink RX12 294 yX12_laysTurns ∈ xT ∧ Cond.instanceMethod yX12_laysTurns ∈ xT ∧ Cond.selects (yX12_laysTurns).cls yX12_laysTurns yX12_laysTurns ∈ xT := ⟨xsg7 67 rfl rfl, xsg7 69 rfl rfl, xsg0 73 rfl rfl⟩
set_option maxRecDepth 20000 in
theorem lk_X12_297 : Cond.methodLink RX12 297 yX12_triesFair ∈ xT ∧ Cond.instanceMethod yX12_triesFair ∈ xT ∧ Cond.selects (yX12_triesFair).cls yX12_triesFair yX12_triesFair ∈ xT := ⟨xsg7 90 rfl rfl, xsg7 92 rfl rfl, xsg0 77 rfl rfl⟩
set_option maxRecDepth 20000 in
theorem lk_X12_311 : Cond.methodLink RX12 311 yX12_aloneOf ∈ xT ∧ Cond.instanceMethod yX12_aloneOf ∈ xT ∧ Cond.selects (yX12_aloneOf).cls yX12_aloneOf yX12_aloneOf ∈ xT := ⟨xsg7 98 rfl rfl, xsg7 100 rfl rfl, xsg0 78 rfl rfl⟩
set_option maxRecDepth 20000 in
theorem lk_X12_314 : Cond.methodLink RX12 314 yX12_areAtOdds ∈ xT ∧ Cond.instanceMethod yX12_areAtOdds ∈ xT ∧ Cond.selects (yX12_areAtOdds).cls yX12_areAtOdds yX12_areAtOdds ∈ xT := ⟨xsg7 114 rfl rfl, xsg7 116 rfl rfl, xsg0 79 rfl rfl⟩
set_option maxRecDepth 20000 in
theorem lk_X12_318 : Cond.methodLink RX12 318 yX12_canBe ∈ xT ∧ Cond.instanceMethod yX12_canBe ∈ xT ∧ Cond.selects (yX12_canBe).cls yX12_canBe yX12_canBe ∈ xT := ⟨xsg7 122 rfl rfl, xsg7 124 rfl rfl, xsg0 80 rfl rfl⟩
set_option maxRecDepth 20000 in
theorem lk_X12_322 : Cond.methodLink RX12 322 yX12_goesWith ∈ xT ∧ Cond.instanceMethod yX12_goesWith ∈ xT ∧ Cond.selects (yX12_goesWith).cls yX12_goesWith yX12_goesWith ∈ xT := ⟨xsg7 147 rfl rfl, xsg7 149 rfl rfl, xsg0 82 rfl rfl⟩
set_option maxRecDepth 20000 in
theorem lk_X12_329 : Cond.methodLink RX12 329 yX12_laysWays ∈ xT ∧ Cond.instanceMethod yX12_laysWays ∈ xT ∧ Cond.selects (yX12_laysWays).cls yX12_laysWays yX12_laysWays ∈ xT := ⟨xsg7 143 rfl rfl, xsg7 145 rfl rfl, xsg0 81 rfl rfl⟩
set_option maxRecDepth 20000 in
theorem lk_J0_335 : Cond.methodLink RJ0 335 yJ0_coder_7d493 ∈ xT ∧ Cond.instanceMethod yJ0_coder_7d493 ∈ xT ∧ Cond.selects (yJ0_coder_7d493).cls yJ0_coder_7d493 yJ0_coder_7d493 ∈ xT := ⟨xsg3 79 rfl rfl, xsg3 80 rfl rfl, xsg3 81 rfl rfl⟩
set_option maxRecDepth 20000 in
theorem lk_J0_492 : Cond.methodLink RJ0 492 yJ0_isLatin1_aae02 ∈ xT ∧ Cond.instanceMethod yJ0_isLatin1_aae02 ∈ xT ∧ Cond.selects (yJ0_isLatin1_aae02).cls yJ0_isLatin1_aae02 yJ0_isLatin1_aae02 ∈ xT := ⟨xsg3 89 rfl rfl, xsg3 90 rfl rfl, xsg3 91 rfl rfl⟩
set_option maxRecDepth 20000 in
theorem lk_J0_495 : Cond.methodLink RJ0 495 yJ1_charAt_3b067 ∈ xT ∧ Cond.static yJ1_charAt_3b067 ∈ xT := ⟨xsg3 93 rfl rfl, xsg3 94 rfl rfl⟩
set_option maxRecDepth 20000 in
theorem lk_J0_505 : Cond.methodLink RJ0 505 yJ0_length_8abf5 ∈ xT ∧ Cond.instanceMethod yJ0_length_8abf5 ∈ xT ∧ Cond.selects (yJ0_length_8abf5).cls yJ0_length_8abf5 yJ0_length_8abf5 ∈ xT := ⟨xsg3 147 rfl rfl, xsg3 76 rfl rfl, xsg3 77 rfl rfl⟩
set_option maxRecDepth 20000 in
theorem lk_J0_633 : Cond.methodLink RJ0 633 yJ0_indexOf_7cf53 ∈ xT ∧ Cond.instanceMethod yJ0_indexOf_7cf53 ∈ xT ∧ Cond.selects (yJ0_indexOf_7cf53).cls yJ0_indexOf_7cf53 yJ0_indexOf_7cf53 ∈ xT := ⟨xsg3 143 rfl rfl, xsg3 144 rfl rfl, xsg3 145 rfl rfl⟩
set_option maxRecDepth 20000 in
theorem lk_J0_637 : Cond.methodLink RJ0 637 yJ1_indexOf_4cfef ∈ xT ∧ Cond.static yJ1_indexOf_4cfef ∈ xT := ⟨xsg3 148 rfl rfl, xsg3 149 rfl rfl⟩
set_option maxRecDepth 20000 in
theorem lk_J0_1059 : Cond.methodLink RJ0 1059 yJ3_checkIndex_8e157 ∈ xT ∧ Cond.static yJ3_checkIndex_8e157 ∈ xT := ⟨xsg3 101 rfl rfl, xsg3 102 rfl rfl⟩
set_option maxRecDepth 20000 in
theorem lk_J1_9 : Cond.methodLink RJ1 9 yJ0_checkIndex_df160 ∈ xT ∧ Cond.static yJ0_checkIndex_df160 ∈ xT := ⟨xsg3 96 rfl rfl, xsg3 97 rfl rfl⟩
set_option maxRecDepth 20000 in
theorem lk_J1_88 : Cond.methodLink RJ1 88 yJ1_canEncode_9a6ad ∈ xT ∧ Cond.static yJ1_canEncode_9a6ad ∈ xT := ⟨xsg3 151 rfl rfl, xsg3 152 rfl rfl⟩
set_option maxRecDepth 20000 in
theorem lk_J1_95 : Cond.methodLink RJ1 95 yJ1_indexOfChar_4cfef ∈ xT ∧ Cond.static yJ1_indexOfChar_4cfef ∈ xT := ⟨xsg3 160 rfl rfl, xsg3 161 rfl rfl⟩
