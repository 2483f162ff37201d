/-! FACTS: each word of the tables that a row needs -/
def zCls (ci : Nat) (C : String) (T : u_T) (N : Nat) (ty : Nat → FieldType) : Prop := zCl[ci]? = some (C, T, N) ∧ (∀ w ∈ u_ws C T N, w ∈ zT) ∧ (∀ k, k < N → parseFieldDescriptor (T k).2.2.1 = some (ty k)) ∧ (∀ a, a < N → ∀ b, b < N → a ≠ b → (T a).2.1 ≠ (T b).2.1)
def zCal (y : MethodName) (M : ByteArray × Nat × String × Option FieldType × Nat × Nat × Bool) (n : Nat) : Prop := Cond.code y M.1 M.2.1 M.2.2.2.1 ∈ zT ∧ Cond.initialized y.cls ∈ zT ∧ (y.cls ≠ "java/lang/invoke/MethodHandle" ∧ y.cls ≠ "java/lang/invoke/VarHandle" ∧ (parseMethodDescriptor y.desc).map (fun d => d.parameters.length) = some n)
theorem zini_LW : Cond.initialized "PageWordsLaw" ∈ zT := List.mem_filter.mpr ⟨List.mem_append_right _ (List.mem_of_getElem? (i := 0) (by decide +kernel)), rfl⟩
theorem zini_PW : Cond.initialized "PageWords" ∈ zT := List.mem_filter.mpr ⟨List.mem_append_right _ (List.mem_of_getElem? (i := 1) (by decide +kernel)), rfl⟩
theorem zini_BR : Cond.initialized "PageWords$ByteRow" ∈ zT := List.mem_filter.mpr ⟨List.mem_append_right _ (List.mem_of_getElem? (i := 2) (by decide +kernel)), rfl⟩
theorem zini_WL : Cond.initialized "PageWords$WordList" ∈ zT := List.mem_filter.mpr ⟨List.mem_append_right _ (List.mem_of_getElem? (i := 3) (by decide +kernel)), rfl⟩
theorem zini_IR : Cond.initialized "PageWords$IntRow" ∈ zT := List.mem_filter.mpr ⟨List.mem_append_right _ (List.mem_of_getElem? (i := 4) (by decide +kernel)), rfl⟩
theorem zini_TS : Cond.initialized "PageWords$TextStore" ∈ zT := List.mem_filter.mpr ⟨List.mem_append_right _ (List.mem_of_getElem? (i := 5) (by decide +kernel)), rfl⟩
theorem zini_AR : Cond.initialized "java/util/Arrays" ∈ zT := List.mem_filter.mpr ⟨List.mem_append_right _ (List.mem_of_getElem? (i := 6) (by decide +kernel)), rfl⟩
theorem zini_NU : Cond.initialized "PageWords$Numeral" ∈ zT := List.mem_filter.mpr ⟨List.mem_append_right _ (List.mem_of_getElem? (i := 7) (by decide +kernel)), rfl⟩
theorem zini_MO : Cond.initialized "PageWordsModel" ∈ zT := List.mem_filter.mpr ⟨List.mem_append_right _ (List.mem_of_getElem? (i := 8) (by decide +kernel)), rfl⟩
theorem zini_MA : Cond.initialized "java/lang/Math" ∈ zT := List.mem_filter.mpr ⟨List.mem_append_right _ (List.mem_of_getElem? (i := 9) (by decide +kernel)), rfl⟩
theorem zini_SY : Cond.initialized "java/lang/System" ∈ zT := List.mem_filter.mpr ⟨List.mem_append_right _ (List.mem_of_getElem? (i := 10) (by decide +kernel)), rfl⟩
theorem zini_IG : Cond.initialized "java/lang/Integer" ∈ zT := List.mem_filter.mpr ⟨List.mem_append_right _ (List.mem_of_getElem? (i := 11) (by decide +kernel)), rfl⟩
theorem zlay_PW_0 : u_lay zR_PW zF_PW 0 ∈ zT := List.mem_filter.mpr ⟨List.mem_append_right _ (List.mem_of_getElem? (i := 143) (by decide +kernel)), rfl⟩
theorem zlay_PW_1 : u_lay zR_PW zF_PW 1 ∈ zT := List.mem_filter.mpr ⟨List.mem_append_right _ (List.mem_of_getElem? (i := 145) (by decide +kernel)), rfl⟩
theorem zlay_PW_2 : u_lay zR_PW zF_PW 2 ∈ zT := List.mem_filter.mpr ⟨List.mem_append_right _ (List.mem_of_getElem? (i := 147) (by decide +kernel)), rfl⟩
theorem zlay_PW_3 : u_lay zR_PW zF_PW 3 ∈ zT := List.mem_filter.mpr ⟨List.mem_append_right _ (List.mem_of_getElem? (i := 149) (by decide +kernel)), rfl⟩
theorem zlay_PW_4 : u_lay zR_PW zF_PW 4 ∈ zT := List.mem_filter.mpr ⟨List.mem_append_right _ (List.mem_of_getElem? (i := 151) (by decide +kernel)), rfl⟩
theorem zlay_PW_5 : u_lay zR_PW zF_PW 5 ∈ zT := List.mem_filter.mpr ⟨List.mem_append_right _ (List.mem_of_getElem? (i := 153) (by decide +kernel)), rfl⟩
theorem zlay_PW_6 : u_lay zR_PW zF_PW 6 ∈ zT := List.mem_filter.mpr ⟨List.mem_append_right _ (List.mem_of_getElem? (i := 155) (by decide +kernel)), rfl⟩
theorem zlay_PW_7 : u_lay zR_PW zF_PW 7 ∈ zT := List.mem_filter.mpr ⟨List.mem_append_right _ (List.mem_of_getElem? (i := 157) (by decide +kernel)), rfl⟩
theorem zcin_PW : ∀ w ∈ u_ws zR_PW zF_PW 8, w ∈ zT := by
  intro w hw
  obtain ⟨k, hk, rfl⟩ := List.mem_map.mp hw
  have hk := List.mem_range.mp hk
  rcases (show k = 0 ∨ k = 1 ∨ k = 2 ∨ k = 3 ∨ k = 4 ∨ k = 5 ∨ k = 6 ∨ k = 7 by omega) with rfl | rfl | rfl | rfl | rfl | rfl | rfl | rfl
  · exact zlay_PW_0
  · exact zlay_PW_1
  · exact zlay_PW_2
  · exact zlay_PW_3
  · exact zlay_PW_4
  · exact zlay_PW_5
  · exact zlay_PW_6
  · exact zlay_PW_7
theorem zc_PW : zCls 0 zR_PW zF_PW 8 zt_PW := ⟨rfl, zcin_PW, by decide +kernel, by decide +kernel⟩
theorem zins_PW : Cond.instantiable zR_PW 8 ∈ zT := List.mem_filter.mpr ⟨List.mem_append_right _ (List.mem_of_getElem? (i := 13) (by decide +kernel)), rfl⟩
theorem zlay_BR_0 : u_lay zR_BR zF_BR 0 ∈ zT := List.mem_filter.mpr ⟨List.mem_append_right _ (List.mem_of_getElem? (i := 28) (by decide +kernel)), rfl⟩
theorem zlay_BR_1 : u_lay zR_BR zF_BR 1 ∈ zT := List.mem_filter.mpr ⟨List.mem_append_right _ (List.mem_of_getElem? (i := 30) (by decide +kernel)), rfl⟩
theorem zcin_BR : ∀ w ∈ u_ws zR_BR zF_BR 2, w ∈ zT := by
  intro w hw
  obtain ⟨k, hk, rfl⟩ := List.mem_map.mp hw
  have hk := List.mem_range.mp hk
  rcases (show k = 0 ∨ k = 1 by omega) with rfl | rfl
  · exact zlay_BR_0
  · exact zlay_BR_1
theorem zc_BR : zCls 1 zR_BR zF_BR 2 zt_BR := ⟨rfl, zcin_BR, by decide +kernel, by decide +kernel⟩
theorem zins_BR : Cond.instantiable zR_BR 2 ∈ zT := List.mem_filter.mpr ⟨List.mem_append_right _ (List.mem_of_getElem? (i := 21) (by decide +kernel)), rfl⟩
theorem zlay_IR_0 : u_lay zR_IR zF_IR 0 ∈ zT := List.mem_filter.mpr ⟨List.mem_append_right _ (List.mem_of_getElem? (i := 49) (by decide +kernel)), rfl⟩
theorem zlay_IR_1 : u_lay zR_IR zF_IR 1 ∈ zT := List.mem_filter.mpr ⟨List.mem_append_right _ (List.mem_of_getElem? (i := 51) (by decide +kernel)), rfl⟩
theorem zlay_IR_2 : u_lay zR_IR zF_IR 2 ∈ zT := List.mem_filter.mpr ⟨List.mem_append_right _ (List.mem_of_getElem? (i := 53) (by decide +kernel)), rfl⟩
theorem zcin_IR : ∀ w ∈ u_ws zR_IR zF_IR 3, w ∈ zT := by
  intro w hw
  obtain ⟨k, hk, rfl⟩ := List.mem_map.mp hw
  have hk := List.mem_range.mp hk
  rcases (show k = 0 ∨ k = 1 ∨ k = 2 by omega) with rfl | rfl | rfl
  · exact zlay_IR_0
  · exact zlay_IR_1
  · exact zlay_IR_2
theorem zc_IR : zCls 2 zR_IR zF_IR 3 zt_IR := ⟨rfl, zcin_IR, by decide +kernel, by decide +kernel⟩
theorem zins_IR : Cond.instantiable zR_IR 3 ∈ zT := List.mem_filter.mpr ⟨List.mem_append_right _ (List.mem_of_getElem? (i := 41) (by decide +kernel)), rfl⟩
theorem zlay_WL_0 : u_lay zR_WL zF_WL 0 ∈ zT := List.mem_filter.mpr ⟨List.mem_append_right _ (List.mem_of_getElem? (i := 60) (by decide +kernel)), rfl⟩
theorem zlay_WL_1 : u_lay zR_WL zF_WL 1 ∈ zT := List.mem_filter.mpr ⟨List.mem_append_right _ (List.mem_of_getElem? (i := 62) (by decide +kernel)), rfl⟩
theorem zlay_WL_2 : u_lay zR_WL zF_WL 2 ∈ zT := List.mem_filter.mpr ⟨List.mem_append_right _ (List.mem_of_getElem? (i := 64) (by decide +kernel)), rfl⟩
theorem zcin_WL : ∀ w ∈ u_ws zR_WL zF_WL 3, w ∈ zT := by
  intro w hw
  obtain ⟨k, hk, rfl⟩ := List.mem_map.mp hw
  have hk := List.mem_range.mp hk
  rcases (show k = 0 ∨ k = 1 ∨ k = 2 by omega) with rfl | rfl | rfl
  · exact zlay_WL_0
  · exact zlay_WL_1
  · exact zlay_WL_2
theorem zc_WL : zCls 3 zR_WL zF_WL 3 zt_WL := ⟨rfl, zcin_WL, by decide +kernel, by decide +kernel⟩
theorem zins_WL : Cond.instantiable zR_WL 3 ∈ zT := List.mem_filter.mpr ⟨List.mem_append_right _ (List.mem_of_getElem? (i := 35) (by decide +kernel)), rfl⟩
theorem zlay_TS_0 : u_lay zR_TS zF_TS 0 ∈ zT := List.mem_filter.mpr ⟨List.mem_append_right _ (List.mem_of_getElem? (i := 87) (by decide +kernel)), rfl⟩
theorem zlay_TS_1 : u_lay zR_TS zF_TS 1 ∈ zT := List.mem_filter.mpr ⟨List.mem_append_right _ (List.mem_of_getElem? (i := 89) (by decide +kernel)), rfl⟩
theorem zlay_TS_2 : u_lay zR_TS zF_TS 2 ∈ zT := List.mem_filter.mpr ⟨List.mem_append_right _ (List.mem_of_getElem? (i := 91) (by decide +kernel)), rfl⟩
theorem zlay_TS_3 : u_lay zR_TS zF_TS 3 ∈ zT := List.mem_filter.mpr ⟨List.mem_append_right _ (List.mem_of_getElem? (i := 93) (by decide +kernel)), rfl⟩
theorem zlay_TS_4 : u_lay zR_TS zF_TS 4 ∈ zT := List.mem_filter.mpr ⟨List.mem_append_right _ (List.mem_of_getElem? (i := 95) (by decide +kernel)), rfl⟩
theorem zlay_TS_5 : u_lay zR_TS zF_TS 5 ∈ zT := List.mem_filter.mpr ⟨List.mem_append_right _ (List.mem_of_getElem? (i := 97) (by decide +kernel)), rfl⟩
theorem zlay_TS_6 : u_lay zR_TS zF_TS 6 ∈ zT := List.mem_filter.mpr ⟨List.mem_append_right _ (List.mem_of_getElem? (i := 99) (by decide +kernel)), rfl⟩
theorem zcin_TS : ∀ w ∈ u_ws zR_TS zF_TS 7, w ∈ zT := by
  intro w hw
  obtain ⟨k, hk, rfl⟩ := List.mem_map.mp hw
  have hk := List.mem_range.mp hk
  rcases (show k = 0 ∨ k = 1 ∨ k = 2 ∨ k = 3 ∨ k = 4 ∨ k = 5 ∨ k = 6 by omega) with rfl | rfl | rfl | rfl | rfl | rfl | rfl
  · exact zlay_TS_0
  · exact zlay_TS_1
  · exact zlay_TS_2
  · exact zlay_TS_3
  · exact zlay_TS_4
  · exact zlay_TS_5
  · exact zlay_TS_6
theorem zc_TS : zCls 4 zR_TS zF_TS 7 zt_TS := ⟨rfl, zcin_TS, by decide +kernel, by decide +kernel⟩
theorem zins_TS : Cond.instantiable zR_TS 7 ∈ zT := List.mem_filter.mpr ⟨List.mem_append_right _ (List.mem_of_getElem? (i := 68) (by decide +kernel)), rfl⟩
theorem zlay_NU_0 : u_lay zR_NU zF_NU 0 ∈ zT := List.mem_filter.mpr ⟨List.mem_append_right _ (List.mem_of_getElem? (i := 118) (by decide +kernel)), rfl⟩
theorem zlay_NU_1 : u_lay zR_NU zF_NU 1 ∈ zT := List.mem_filter.mpr ⟨List.mem_append_right _ (List.mem_of_getElem? (i := 120) (by decide +kernel)), rfl⟩
theorem zlay_NU_2 : u_lay zR_NU zF_NU 2 ∈ zT := List.mem_filter.mpr ⟨List.mem_append_right _ (List.mem_of_getElem? (i := 122) (by decide +kernel)), rfl⟩
theorem zlay_NU_3 : u_lay zR_NU zF_NU 3 ∈ zT := List.mem_filter.mpr ⟨List.mem_append_right _ (List.mem_of_getElem? (i := 124) (by decide +kernel)), rfl⟩
theorem zlay_NU_4 : u_lay zR_NU zF_NU 4 ∈ zT := List.mem_filter.mpr ⟨List.mem_append_right _ (List.mem_of_getElem? (i := 126) (by decide +kernel)), rfl⟩
theorem zlay_NU_5 : u_lay zR_NU zF_NU 5 ∈ zT := List.mem_filter.mpr ⟨List.mem_append_right _ (List.mem_of_getElem? (i := 128) (by decide +kernel)), rfl⟩
theorem zlay_NU_6 : u_lay zR_NU zF_NU 6 ∈ zT := List.mem_filter.mpr ⟨List.mem_append_right _ (List.mem_of_getElem? (i := 130) (by decide +kernel)), rfl⟩
theorem zlay_NU_7 : u_lay zR_NU zF_NU 7 ∈ zT := List.mem_filter.mpr ⟨List.mem_append_right _ (List.mem_of_getElem? (i := 132) (by decide +kernel)), rfl⟩
theorem zcin_NU : ∀ w ∈ u_ws zR_NU zF_NU 8, w ∈ zT := by
  intro w hw
  obtain ⟨k, hk, rfl⟩ := List.mem_map.mp hw
  have hk := List.mem_range.mp hk
  rcases (show k = 0 ∨ k = 1 ∨ k = 2 ∨ k = 3 ∨ k = 4 ∨ k = 5 ∨ k = 6 ∨ k = 7 by omega) with rfl | rfl | rfl | rfl | rfl | rfl | rfl | rfl
  · exact zlay_NU_0
  · exact zlay_NU_1
  · exact zlay_NU_2
  · exact zlay_NU_3
  · exact zlay_NU_4
  · exact zlay_NU_5
  · exact zlay_NU_6
  · exact zlay_NU_7
theorem zc_NU : zCls 5 zR_NU zF_NU 8 zt_NU := ⟨rfl, zcin_NU, by decide +kernel, by decide +kernel⟩
theorem zins_NU : Cond.instantiable zR_NU 8 ∈ zT := List.mem_filter.mpr ⟨List.mem_append_right _ (List.mem_of_getElem? (i := 105) (by decide +kernel)), rfl⟩
theorem zlay_MO_0 : u_lay zR_MO zF_MO 0 ∈ zT := List.mem_filter.mpr ⟨List.mem_append_right _ (List.mem_of_getElem? (i := 529) (by decide +kernel)), rfl⟩
theorem zlay_MO_1 : u_lay zR_MO zF_MO 1 ∈ zT := List.mem_filter.mpr ⟨List.mem_append_right _ (List.mem_of_getElem? (i := 531) (by decide +kernel)), rfl⟩
theorem zlay_MO_2 : u_lay zR_MO zF_MO 2 ∈ zT := List.mem_filter.mpr ⟨List.mem_append_right _ (List.mem_of_getElem? (i := 533) (by decide +kernel)), rfl⟩
theorem zlay_MO_3 : u_lay zR_MO zF_MO 3 ∈ zT := List.mem_filter.mpr ⟨List.mem_append_right _ (List.mem_of_getElem? (i := 535) (by decide +kernel)), rfl⟩
theorem zlay_MO_4 : u_lay zR_MO zF_MO 4 ∈ zT := List.mem_filter.mpr ⟨List.mem_append_right _ (List.mem_of_getElem? (i := 537) (by decide +kernel)), rfl⟩
theorem zlay_MO_5 : u_lay zR_MO zF_MO 5 ∈ zT := List.mem_filter.mpr ⟨List.mem_append_right _ (List.mem_of_getElem? (i := 539) (by decide +kernel)), rfl⟩
theorem zlay_MO_6 : u_lay zR_MO zF_MO 6 ∈ zT := List.mem_filter.mpr ⟨List.mem_append_right _ (List.mem_of_getElem? (i := 541) (by decide +kernel)), rfl⟩
theorem zlay_MO_7 : u_lay zR_MO zF_MO 7 ∈ zT := List.mem_filter.mpr ⟨List.mem_append_right _ (List.mem_of_getElem? (i := 543) (by decide +kernel)), rfl⟩
theorem zlay_MO_8 : u_lay zR_MO zF_MO 8 ∈ zT := List.mem_filter.mpr ⟨List.mem_append_right _ (List.mem_of_getElem? (i := 545) (by decide +kernel)), rfl⟩
theorem zlay_MO_9 : u_lay zR_MO zF_MO 9 ∈ zT := List.mem_filter.mpr ⟨List.mem_append_right _ (List.mem_of_getElem? (i := 547) (by decide +kernel)), rfl⟩
theorem zlay_MO_10 : u_lay zR_MO zF_MO 10 ∈ zT := List.mem_filter.mpr ⟨List.mem_append_right _ (List.mem_of_getElem? (i := 549) (by decide +kernel)), rfl⟩
theorem zlay_MO_11 : u_lay zR_MO zF_MO 11 ∈ zT := List.mem_filter.mpr ⟨List.mem_append_right _ (List.mem_of_getElem? (i := 551) (by decide +kernel)), rfl⟩
theorem zlay_MO_12 : u_lay zR_MO zF_MO 12 ∈ zT := List.mem_filter.mpr ⟨List.mem_append_right _ (List.mem_of_getElem? (i := 553) (by decide +kernel)), rfl⟩
theorem zlay_MO_13 : u_lay zR_MO zF_MO 13 ∈ zT := List.mem_filter.mpr ⟨List.mem_append_right _ (List.mem_of_getElem? (i := 555) (by decide +kernel)), rfl⟩
theorem zlay_MO_14 : u_lay zR_MO zF_MO 14 ∈ zT := List.mem_filter.mpr ⟨List.mem_append_right _ (List.mem_of_getElem? (i := 557) (by decide +kernel)), rfl⟩
theorem zlay_MO_15 : u_lay zR_MO zF_MO 15 ∈ zT := List.mem_filter.mpr ⟨List.mem_append_right _ (List.mem_of_getElem? (i := 559) (by decide +kernel)), rfl⟩
theorem zlay_MO_16 : u_lay zR_MO zF_MO 16 ∈ zT := List.mem_filter.mpr ⟨List.mem_append_right _ (List.mem_of_getElem? (i := 561) (by decide +kernel)), rfl⟩
theorem zlay_MO_17 : u_lay zR_MO zF_MO 17 ∈ zT := List.mem_filter.mpr ⟨List.mem_append_right _ (List.mem_of_getElem? (i := 563) (by decide +kernel)), rfl⟩
theorem zcin_MO : ∀ w ∈ u_ws zR_MO zF_MO 18, w ∈ zT := by
  intro w hw
  obtain ⟨k, hk, rfl⟩ := List.mem_map.mp hw
  have hk := List.mem_range.mp hk
  rcases (show k = 0 ∨ k = 1 ∨ k = 2 ∨ k = 3 ∨ k = 4 ∨ k = 5 ∨ k = 6 ∨ k = 7 ∨ k = 8 ∨ k = 9 ∨ k = 10 ∨ k = 11 ∨ k = 12 ∨ k = 13 ∨ k = 14 ∨ k = 15 ∨ k = 16 ∨ k = 17 by omega) with rfl | rfl | rfl | rfl | rfl | rfl | rfl | rfl | rfl | rfl | rfl | rfl | rfl | rfl | rfl | rfl | rfl | rfl
  · exact zlay_MO_0
  · exact zlay_MO_1
  · exact zlay_MO_2
  · exact zlay_MO_3
  · exact zlay_MO_4
  · exact zlay_MO_5
  · exact zlay_MO_6
  · exact zlay_MO_7
  · exact zlay_MO_8
  · exact zlay_MO_9
  · exact zlay_MO_10
  · exact zlay_MO_11
  · exact zlay_MO_12
  · exact zlay_MO_13
  · exact zlay_MO_14
  · exact zlay_MO_15
  · exact zlay_MO_16
  · exact zlay_MO_17
theorem zc_MO : zCls 6 zR_MO zF_MO 18 zt_MO := ⟨rfl, zcin_MO, by decide +kernel, by decide +kernel⟩
theorem zins_MO : Cond.instantiable zR_MO 18 ∈ zT := List.mem_filter.mpr ⟨List.mem_append_right _ (List.mem_of_getElem? (i := 504) (by decide +kernel)), rfl⟩
theorem zn_LW_7 : Cond.classLink "PageWordsLaw" 7 "PageWords" ∈ zT := List.mem_filter.mpr ⟨List.mem_append_right _ (List.mem_of_getElem? (i := 12) (by decide +kernel)), rfl⟩
theorem zl_LW_9 : Cond.methodLink "PageWordsLaw" 9 zy_PW_new ∈ zT := List.mem_filter.mpr ⟨List.mem_append_right _ (List.mem_of_getElem? (i := 14) (by decide +kernel)), rfl⟩
theorem zin_PW_new : Cond.instanceMethod zy_PW_new ∈ zT := List.mem_filter.mpr ⟨List.mem_append_right _ (List.mem_of_getElem? (i := 15) (by decide +kernel)), rfl⟩
theorem zl_PW_1 : Cond.methodLink "PageWords" 1 Lib.objectInit ∈ zT := List.mem_filter.mpr ⟨List.mem_append_right _ (List.mem_of_getElem? (i := 17) (by decide +kernel)), rfl⟩
theorem zoi_1 : Cond.instanceMethod Lib.objectInit ∈ zT := List.mem_filter.mpr ⟨List.mem_append_right _ (List.mem_of_getElem? (i := 18) (by decide +kernel)), rfl⟩
theorem zoi_2 : Cond.code Lib.objectInit ⟨#[0xb1]⟩ 1 none ∈ zT := List.mem_filter.mpr ⟨List.mem_append_right _ (List.mem_of_getElem? (i := 19) rfl), rfl⟩
theorem zn_PW_7 : Cond.classLink "PageWords" 7 "PageWords$ByteRow" ∈ zT := List.mem_filter.mpr ⟨List.mem_append_right _ (List.mem_of_getElem? (i := 20) (by decide +kernel)), rfl⟩
theorem zl_PW_9 : Cond.methodLink "PageWords" 9 zy_BR_new ∈ zT := List.mem_filter.mpr ⟨List.mem_append_right _ (List.mem_of_getElem? (i := 22) (by decide +kernel)), rfl⟩
theorem zin_BR_new : Cond.instanceMethod zy_BR_new ∈ zT := List.mem_filter.mpr ⟨List.mem_append_right _ (List.mem_of_getElem? (i := 23) (by decide +kernel)), rfl⟩
theorem zl_BR_3 : Cond.methodLink "PageWords$ByteRow" 3 Lib.objectInit ∈ zT := List.mem_filter.mpr ⟨List.mem_append_right _ (List.mem_of_getElem? (i := 25) (by decide +kernel)), rfl⟩
theorem zf_BR_11 : Cond.fieldLink "PageWords$ByteRow" 11 "PageWords$ByteRow" "held" "[B" ∈ zT := List.mem_filter.mpr ⟨List.mem_append_right _ (List.mem_of_getElem? (i := 26) (by decide +kernel)), rfl⟩
theorem zf_BR_15 : Cond.fieldLink "PageWords$ByteRow" 15 "PageWords$ByteRow" "count" "I" ∈ zT := List.mem_filter.mpr ⟨List.mem_append_right _ (List.mem_of_getElem? (i := 27) (by decide +kernel)), rfl⟩
theorem zac_B : Cond.arrayClass .byte ∈ zT := List.mem_filter.mpr ⟨List.mem_append_right _ (List.mem_of_getElem? (i := 33) (by decide +kernel)), rfl⟩
theorem zn_PW_16 : Cond.classLink "PageWords" 16 "PageWords$WordList" ∈ zT := List.mem_filter.mpr ⟨List.mem_append_right _ (List.mem_of_getElem? (i := 34) (by decide +kernel)), rfl⟩
theorem zl_PW_18 : Cond.methodLink "PageWords" 18 zy_WL_new ∈ zT := List.mem_filter.mpr ⟨List.mem_append_right _ (List.mem_of_getElem? (i := 36) (by decide +kernel)), rfl⟩
theorem zin_WL_new : Cond.instanceMethod zy_WL_new ∈ zT := List.mem_filter.mpr ⟨List.mem_append_right _ (List.mem_of_getElem? (i := 37) (by decide +kernel)), rfl⟩
theorem zl_WL_3 : Cond.methodLink "PageWords$WordList" 3 Lib.objectInit ∈ zT := List.mem_filter.mpr ⟨List.mem_append_right _ (List.mem_of_getElem? (i := 39) (by decide +kernel)), rfl⟩
theorem zn_WL_9 : Cond.classLink "PageWords$WordList" 9 "PageWords$IntRow" ∈ zT := List.mem_filter.mpr ⟨List.mem_append_right _ (List.mem_of_getElem? (i := 40) (by decide +kernel)), rfl⟩
theorem zl_WL_11 : Cond.methodLink "PageWords$WordList" 11 zy_IR_new ∈ zT := List.mem_filter.mpr ⟨List.mem_append_right _ (List.mem_of_getElem? (i := 42) (by decide +kernel)), rfl⟩
theorem zin_IR_new : Cond.instanceMethod zy_IR_new ∈ zT := List.mem_filter.mpr ⟨List.mem_append_right _ (List.mem_of_getElem? (i := 43) (by decide +kernel)), rfl⟩
theorem zl_IR_3 : Cond.methodLink "PageWords$IntRow" 3 Lib.objectInit ∈ zT := List.mem_filter.mpr ⟨List.mem_append_right _ (List.mem_of_getElem? (i := 45) (by decide +kernel)), rfl⟩
theorem zf_IR_9 : Cond.fieldLink "PageWords$IntRow" 9 "PageWords$IntRow" "most" "I" ∈ zT := List.mem_filter.mpr ⟨List.mem_append_right _ (List.mem_of_getElem? (i := 46) (by decide +kernel)), rfl⟩
theorem zf_IR_15 : Cond.fieldLink "PageWords$IntRow" 15 "PageWords$IntRow" "held" "[I" ∈ zT := List.mem_filter.mpr ⟨List.mem_append_right _ (List.mem_of_getElem? (i := 47) (by decide +kernel)), rfl⟩
theorem zf_IR_19 : Cond.fieldLink "PageWords$IntRow" 19 "PageWords$IntRow" "count" "I" ∈ zT := List.mem_filter.mpr ⟨List.mem_append_right _ (List.mem_of_getElem? (i := 48) (by decide +kernel)), rfl⟩
theorem zac_I : Cond.arrayClass .int ∈ zT := List.mem_filter.mpr ⟨List.mem_append_right _ (List.mem_of_getElem? (i := 56) (by decide +kernel)), rfl⟩
theorem zf_WL_14 : Cond.fieldLink "PageWords$WordList" 14 "PageWords$WordList" "kinds" "LPageWords$IntRow;" ∈ zT := List.mem_filter.mpr ⟨List.mem_append_right _ (List.mem_of_getElem? (i := 57) (by decide +kernel)), rfl⟩
theorem zf_WL_20 : Cond.fieldLink "PageWords$WordList" 20 "PageWords$WordList" "numbers" "LPageWords$IntRow;" ∈ zT := List.mem_filter.mpr ⟨List.mem_append_right _ (List.mem_of_getElem? (i := 58) (by decide +kernel)), rfl⟩
theorem zf_WL_23 : Cond.fieldLink "PageWords$WordList" 23 "PageWords$WordList" "begins" "LPageWords$IntRow;" ∈ zT := List.mem_filter.mpr ⟨List.mem_append_right _ (List.mem_of_getElem? (i := 59) (by decide +kernel)), rfl⟩
theorem zn_PW_23 : Cond.classLink "PageWords" 23 "PageWords$TextStore" ∈ zT := List.mem_filter.mpr ⟨List.mem_append_right _ (List.mem_of_getElem? (i := 67) (by decide +kernel)), rfl⟩
theorem zl_PW_25 : Cond.methodLink "PageWords" 25 zy_TS_new ∈ zT := List.mem_filter.mpr ⟨List.mem_append_right _ (List.mem_of_getElem? (i := 69) (by decide +kernel)), rfl⟩
theorem zin_TS_new : Cond.instanceMethod zy_TS_new ∈ zT := List.mem_filter.mpr ⟨List.mem_append_right _ (List.mem_of_getElem? (i := 70) (by decide +kernel)), rfl⟩
theorem zl_TS_3 : Cond.methodLink "PageWords$TextStore" 3 Lib.objectInit ∈ zT := List.mem_filter.mpr ⟨List.mem_append_right _ (List.mem_of_getElem? (i := 72) (by decide +kernel)), rfl⟩
theorem zn_TS_9 : Cond.classLink "PageWords$TextStore" 9 "PageWords$ByteRow" ∈ zT := List.mem_filter.mpr ⟨List.mem_append_right _ (List.mem_of_getElem? (i := 73) (by decide +kernel)), rfl⟩
theorem zl_TS_11 : Cond.methodLink "PageWords$TextStore" 11 zy_BR_new ∈ zT := List.mem_filter.mpr ⟨List.mem_append_right _ (List.mem_of_getElem? (i := 74) (by decide +kernel)), rfl⟩
theorem zn_TS_18 : Cond.classLink "PageWords$TextStore" 18 "PageWords$IntRow" ∈ zT := List.mem_filter.mpr ⟨List.mem_append_right _ (List.mem_of_getElem? (i := 75) (by decide +kernel)), rfl⟩
theorem zl_TS_20 : Cond.methodLink "PageWords$TextStore" 20 zy_IR_new ∈ zT := List.mem_filter.mpr ⟨List.mem_append_right _ (List.mem_of_getElem? (i := 76) (by decide +kernel)), rfl⟩
theorem zl_TS_40 : Cond.methodLink "PageWords$TextStore" 40 zy_AR_fill ∈ zT := List.mem_filter.mpr ⟨List.mem_append_right _ (List.mem_of_getElem? (i := 77) (by decide +kernel)), rfl⟩
theorem zst_AR_fill : Cond.static zy_AR_fill ∈ zT := List.mem_filter.mpr ⟨List.mem_append_right _ (List.mem_of_getElem? (i := 78) (by decide +kernel)), rfl⟩
theorem zf_TS_12 : Cond.fieldLink "PageWords$TextStore" 12 "PageWords$TextStore" "bytes" "LPageWords$ByteRow;" ∈ zT := List.mem_filter.mpr ⟨List.mem_append_right _ (List.mem_of_getElem? (i := 80) (by decide +kernel)), rfl⟩
theorem zf_TS_23 : Cond.fieldLink "PageWords$TextStore" 23 "PageWords$TextStore" "starts" "LPageWords$IntRow;" ∈ zT := List.mem_filter.mpr ⟨List.mem_append_right _ (List.mem_of_getElem? (i := 81) (by decide +kernel)), rfl⟩
theorem zf_TS_27 : Cond.fieldLink "PageWords$TextStore" 27 "PageWords$TextStore" "sizes" "LPageWords$IntRow;" ∈ zT := List.mem_filter.mpr ⟨List.mem_append_right _ (List.mem_of_getElem? (i := 82) (by decide +kernel)), rfl⟩
theorem zf_TS_30 : Cond.fieldLink "PageWords$TextStore" 30 "PageWords$TextStore" "hashes" "LPageWords$IntRow;" ∈ zT := List.mem_filter.mpr ⟨List.mem_append_right _ (List.mem_of_getElem? (i := 83) (by decide +kernel)), rfl⟩
theorem zf_TS_33 : Cond.fieldLink "PageWords$TextStore" 33 "PageWords$TextStore" "older" "LPageWords$IntRow;" ∈ zT := List.mem_filter.mpr ⟨List.mem_append_right _ (List.mem_of_getElem? (i := 84) (by decide +kernel)), rfl⟩
theorem zf_TS_36 : Cond.fieldLink "PageWords$TextStore" 36 "PageWords$TextStore" "newest" "[I" ∈ zT := List.mem_filter.mpr ⟨List.mem_append_right _ (List.mem_of_getElem? (i := 85) (by decide +kernel)), rfl⟩
theorem zf_TS_46 : Cond.fieldLink "PageWords$TextStore" 46 "PageWords$TextStore" "kept" "I" ∈ zT := List.mem_filter.mpr ⟨List.mem_append_right _ (List.mem_of_getElem? (i := 86) (by decide +kernel)), rfl⟩
theorem zn_PW_30 : Cond.classLink "PageWords" 30 "PageWords$IntRow" ∈ zT := List.mem_filter.mpr ⟨List.mem_append_right _ (List.mem_of_getElem? (i := 102) (by decide +kernel)), rfl⟩
theorem zl_PW_32 : Cond.methodLink "PageWords" 32 zy_IR_new ∈ zT := List.mem_filter.mpr ⟨List.mem_append_right _ (List.mem_of_getElem? (i := 103) (by decide +kernel)), rfl⟩
theorem zn_PW_39 : Cond.classLink "PageWords" 39 "PageWords$Numeral" ∈ zT := List.mem_filter.mpr ⟨List.mem_append_right _ (List.mem_of_getElem? (i := 104) (by decide +kernel)), rfl⟩
theorem zl_PW_41 : Cond.methodLink "PageWords" 41 zy_NU_new ∈ zT := List.mem_filter.mpr ⟨List.mem_append_right _ (List.mem_of_getElem? (i := 106) (by decide +kernel)), rfl⟩
theorem zin_NU_new : Cond.instanceMethod zy_NU_new ∈ zT := List.mem_filter.mpr ⟨List.mem_append_right _ (List.mem_of_getElem? (i := 107) (by decide +kernel)), rfl⟩
theorem zl_NU_3 : Cond.methodLink "PageWords$Numeral" 3 Lib.objectInit ∈ zT := List.mem_filter.mpr ⟨List.mem_append_right _ (List.mem_of_getElem? (i := 109) (by decide +kernel)), rfl⟩
theorem zf_NU_11 : Cond.fieldLink "PageWords$Numeral" 11 "PageWords$Numeral" "fraction" "[I" ∈ zT := List.mem_filter.mpr ⟨List.mem_append_right _ (List.mem_of_getElem? (i := 110) (by decide +kernel)), rfl⟩
theorem zf_NU_29 : Cond.fieldLink "PageWords$Numeral" 29 "PageWords$Numeral" "negative" "Z" ∈ zT := List.mem_filter.mpr ⟨List.mem_append_right _ (List.mem_of_getElem? (i := 111) (by decide +kernel)), rfl⟩
theorem zf_NU_36 : Cond.fieldLink "PageWords$Numeral" 36 "PageWords$Numeral" "digitsBegin" "I" ∈ zT := List.mem_filter.mpr ⟨List.mem_append_right _ (List.mem_of_getElem? (i := 112) (by decide +kernel)), rfl⟩
theorem zf_NU_43 : Cond.fieldLink "PageWords$Numeral" 43 "PageWords$Numeral" "digitsEnd" "I" ∈ zT := List.mem_filter.mpr ⟨List.mem_append_right _ (List.mem_of_getElem? (i := 113) (by decide +kernel)), rfl⟩
theorem zf_NU_46 : Cond.fieldLink "PageWords$Numeral" 46 "PageWords$Numeral" "wholeDigits" "I" ∈ zT := List.mem_filter.mpr ⟨List.mem_append_right _ (List.mem_of_getElem? (i := 114) (by decide +kernel)), rfl⟩
theorem zf_NU_87 : Cond.fieldLink "PageWords$Numeral" 87 "PageWords$Numeral" "exponent" "I" ∈ zT := List.mem_filter.mpr ⟨List.mem_append_right _ (List.mem_of_getElem? (i := 115) (by decide +kernel)), rfl⟩
theorem zf_NU_15 : Cond.fieldLink "PageWords$Numeral" 15 "PageWords$Numeral" "value" "I" ∈ zT := List.mem_filter.mpr ⟨List.mem_append_right _ (List.mem_of_getElem? (i := 116) (by decide +kernel)), rfl⟩
theorem zf_NU_19 : Cond.fieldLink "PageWords$Numeral" 19 "PageWords$Numeral" "fits" "Z" ∈ zT := List.mem_filter.mpr ⟨List.mem_append_right _ (List.mem_of_getElem? (i := 117) (by decide +kernel)), rfl⟩
theorem zf_PW_10 : Cond.fieldLink "PageWords" 10 "PageWords" "tape" "LPageWords$ByteRow;" ∈ zT := List.mem_filter.mpr ⟨List.mem_append_right _ (List.mem_of_getElem? (i := 135) (by decide +kernel)), rfl⟩
theorem zf_PW_19 : Cond.fieldLink "PageWords" 19 "PageWords" "list" "LPageWords$WordList;" ∈ zT := List.mem_filter.mpr ⟨List.mem_append_right _ (List.mem_of_getElem? (i := 136) (by decide +kernel)), rfl⟩
theorem zf_PW_26 : Cond.fieldLink "PageWords" 26 "PageWords" "store" "LPageWords$TextStore;" ∈ zT := List.mem_filter.mpr ⟨List.mem_append_right _ (List.mem_of_getElem? (i := 137) (by decide +kernel)), rfl⟩
theorem zf_PW_35 : Cond.fieldLink "PageWords" 35 "PageWords" "open" "LPageWords$IntRow;" ∈ zT := List.mem_filter.mpr ⟨List.mem_append_right _ (List.mem_of_getElem? (i := 138) (by decide +kernel)), rfl⟩
theorem zf_PW_42 : Cond.fieldLink "PageWords" 42 "PageWords" "numeral" "LPageWords$Numeral;" ∈ zT := List.mem_filter.mpr ⟨List.mem_append_right _ (List.mem_of_getElem? (i := 139) (by decide +kernel)), rfl⟩
theorem zf_PW_46 : Cond.fieldLink "PageWords" 46 "PageWords" "here" "I" ∈ zT := List.mem_filter.mpr ⟨List.mem_append_right _ (List.mem_of_getElem? (i := 140) (by decide +kernel)), rfl⟩
theorem zf_PW_50 : Cond.fieldLink "PageWords" 50 "PageWords" "why" "I" ∈ zT := List.mem_filter.mpr ⟨List.mem_append_right _ (List.mem_of_getElem? (i := 141) (by decide +kernel)), rfl⟩
theorem zf_PW_53 : Cond.fieldLink "PageWords" 53 "PageWords" "where" "I" ∈ zT := List.mem_filter.mpr ⟨List.mem_append_right _ (List.mem_of_getElem? (i := 142) (by decide +kernel)), rfl⟩
theorem zl_LW_15 : Cond.methodLink "PageWordsLaw" 15 zy_PW_type ∈ zT := List.mem_filter.mpr ⟨List.mem_append_right _ (List.mem_of_getElem? (i := 160) (by decide +kernel)), rfl⟩
theorem zin_PW_type : Cond.instanceMethod zy_PW_type ∈ zT := List.mem_filter.mpr ⟨List.mem_append_right _ (List.mem_of_getElem? (i := 161) (by decide +kernel)), rfl⟩
theorem zse_PW_type : Cond.selects "PageWords" zy_PW_type zy_PW_type ∈ zT := List.mem_filter.mpr ⟨List.mem_append_right _ (List.mem_of_getElem? (i := 162) (by decide +kernel)), rfl⟩
theorem zl_PW_56 : Cond.methodLink "PageWords" 56 zy_BR_count ∈ zT := List.mem_filter.mpr ⟨List.mem_append_right _ (List.mem_of_getElem? (i := 164) (by decide +kernel)), rfl⟩
theorem zin_BR_count : Cond.instanceMethod zy_BR_count ∈ zT := List.mem_filter.mpr ⟨List.mem_append_right _ (List.mem_of_getElem? (i := 165) (by decide +kernel)), rfl⟩
theorem zse_BR_count : Cond.selects "PageWords$ByteRow" zy_BR_count zy_BR_count ∈ zT := List.mem_filter.mpr ⟨List.mem_append_right _ (List.mem_of_getElem? (i := 166) (by decide +kernel)), rfl⟩
theorem zk_PW_60 : Cond.constant "PageWords" 60 (65536) ∈ zT := List.mem_filter.mpr ⟨List.mem_append_right _ (List.mem_of_getElem? (i := 168) (by decide +kernel)), rfl⟩
theorem zl_PW_61 : Cond.methodLink "PageWords" 61 zy_BR_add ∈ zT := List.mem_filter.mpr ⟨List.mem_append_right _ (List.mem_of_getElem? (i := 169) (by decide +kernel)), rfl⟩
theorem zin_BR_add : Cond.instanceMethod zy_BR_add ∈ zT := List.mem_filter.mpr ⟨List.mem_append_right _ (List.mem_of_getElem? (i := 170) (by decide +kernel)), rfl⟩
theorem zse_BR_add : Cond.selects "PageWords$ByteRow" zy_BR_add zy_BR_add ∈ zT := List.mem_filter.mpr ⟨List.mem_append_right _ (List.mem_of_getElem? (i := 171) (by decide +kernel)), rfl⟩
theorem zk_BR_19 : Cond.constant "PageWords$ByteRow" 19 (65536) ∈ zT := List.mem_filter.mpr ⟨List.mem_append_right _ (List.mem_of_getElem? (i := 173) (by decide +kernel)), rfl⟩
theorem zl_BR_20 : Cond.methodLink "PageWords$ByteRow" 20 zy_AR_copyOfB ∈ zT := List.mem_filter.mpr ⟨List.mem_append_right _ (List.mem_of_getElem? (i := 174) (by decide +kernel)), rfl⟩
theorem zst_AR_copyOfB : Cond.static zy_AR_copyOfB ∈ zT := List.mem_filter.mpr ⟨List.mem_append_right _ (List.mem_of_getElem? (i := 175) (by decide +kernel)), rfl⟩
theorem zn_AR_311 : Cond.classLink "java/util/Arrays" 311 "[B" ∈ zT := List.mem_filter.mpr ⟨List.mem_append_right _ (List.mem_of_getElem? (i := 183) (by decide +kernel)), rfl⟩
theorem zl_AR_304 : Cond.methodLink "java/util/Arrays" 304 Lib.Math.min.name ∈ zT := List.mem_filter.mpr ⟨List.mem_append_right _ (List.mem_of_getElem? (i := 184) (by decide +kernel)), rfl⟩
theorem zst_MA_minI : Cond.static Lib.Math.min.name ∈ zT := List.mem_filter.mpr ⟨List.mem_append_right _ (List.mem_of_getElem? (i := 185) (by decide +kernel)), rfl⟩
theorem zco_MA_minI : Cond.code Lib.Math.min.name Lib.Math.min.code 2 (some .int) ∈ zT := List.mem_filter.mpr ⟨List.mem_append_right _ (List.mem_of_getElem? (i := 186) rfl), rfl⟩
theorem zl_AR_150 : Cond.methodLink "java/util/Arrays" 150 arraycopyName ∈ zT := List.mem_filter.mpr ⟨List.mem_append_right _ (List.mem_of_getElem? (i := 187) (by decide +kernel)), rfl⟩
theorem zst_SY_arraycopy : Cond.static arraycopyName ∈ zT := List.mem_filter.mpr ⟨List.mem_append_right _ (List.mem_of_getElem? (i := 188) (by decide +kernel)), rfl⟩
theorem zna_SY_arraycopy : Cond.native arraycopyName ∈ zT := List.mem_filter.mpr ⟨List.mem_append_right _ (List.mem_of_getElem? (i := 189) (by decide +kernel)), rfl⟩
theorem zl_LW_20 : Cond.methodLink "PageWordsLaw" 20 zy_PW_cut ∈ zT := List.mem_filter.mpr ⟨List.mem_append_right _ (List.mem_of_getElem? (i := 190) (by decide +kernel)), rfl⟩
theorem zin_PW_cut : Cond.instanceMethod zy_PW_cut ∈ zT := List.mem_filter.mpr ⟨List.mem_append_right _ (List.mem_of_getElem? (i := 191) (by decide +kernel)), rfl⟩
theorem zse_PW_cut : Cond.selects "PageWords" zy_PW_cut zy_PW_cut ∈ zT := List.mem_filter.mpr ⟨List.mem_append_right _ (List.mem_of_getElem? (i := 192) (by decide +kernel)), rfl⟩
theorem zl_PW_64 : Cond.methodLink "PageWords" 64 zy_PW_startAnew ∈ zT := List.mem_filter.mpr ⟨List.mem_append_right _ (List.mem_of_getElem? (i := 194) (by decide +kernel)), rfl⟩
theorem zin_PW_startAnew : Cond.instanceMethod zy_PW_startAnew ∈ zT := List.mem_filter.mpr ⟨List.mem_append_right _ (List.mem_of_getElem? (i := 196) (by decide +kernel)), rfl⟩
theorem zl_PW_101 : Cond.methodLink "PageWords" 101 zy_WL_forget ∈ zT := List.mem_filter.mpr ⟨List.mem_append_right _ (List.mem_of_getElem? (i := 198) (by decide +kernel)), rfl⟩
theorem zin_WL_forget : Cond.instanceMethod zy_WL_forget ∈ zT := List.mem_filter.mpr ⟨List.mem_append_right _ (List.mem_of_getElem? (i := 199) (by decide +kernel)), rfl⟩
theorem zse_WL_forget : Cond.selects "PageWords$WordList" zy_WL_forget zy_WL_forget ∈ zT := List.mem_filter.mpr ⟨List.mem_append_right _ (List.mem_of_getElem? (i := 200) (by decide +kernel)), rfl⟩
theorem zl_WL_30 : Cond.methodLink "PageWords$WordList" 30 zy_IR_shorten ∈ zT := List.mem_filter.mpr ⟨List.mem_append_right _ (List.mem_of_getElem? (i := 202) (by decide +kernel)), rfl⟩
theorem zin_IR_shorten : Cond.instanceMethod zy_IR_shorten ∈ zT := List.mem_filter.mpr ⟨List.mem_append_right _ (List.mem_of_getElem? (i := 203) (by decide +kernel)), rfl⟩
theorem zse_IR_shorten : Cond.selects "PageWords$IntRow" zy_IR_shorten zy_IR_shorten ∈ zT := List.mem_filter.mpr ⟨List.mem_append_right _ (List.mem_of_getElem? (i := 204) (by decide +kernel)), rfl⟩
theorem zl_PW_104 : Cond.methodLink "PageWords" 104 zy_TS_forget ∈ zT := List.mem_filter.mpr ⟨List.mem_append_right _ (List.mem_of_getElem? (i := 206) (by decide +kernel)), rfl⟩
theorem zin_TS_forget : Cond.instanceMethod zy_TS_forget ∈ zT := List.mem_filter.mpr ⟨List.mem_append_right _ (List.mem_of_getElem? (i := 207) (by decide +kernel)), rfl⟩
theorem zse_TS_forget : Cond.selects "PageWords$TextStore" zy_TS_forget zy_TS_forget ∈ zT := List.mem_filter.mpr ⟨List.mem_append_right _ (List.mem_of_getElem? (i := 208) (by decide +kernel)), rfl⟩
theorem zl_TS_59 : Cond.methodLink "PageWords$TextStore" 59 zy_TS_count ∈ zT := List.mem_filter.mpr ⟨List.mem_append_right _ (List.mem_of_getElem? (i := 210) (by decide +kernel)), rfl⟩
theorem zin_TS_count : Cond.instanceMethod zy_TS_count ∈ zT := List.mem_filter.mpr ⟨List.mem_append_right _ (List.mem_of_getElem? (i := 211) (by decide +kernel)), rfl⟩
theorem zse_TS_count : Cond.selects "PageWords$TextStore" zy_TS_count zy_TS_count ∈ zT := List.mem_filter.mpr ⟨List.mem_append_right _ (List.mem_of_getElem? (i := 212) (by decide +kernel)), rfl⟩
theorem zl_TS_50 : Cond.methodLink "PageWords$TextStore" 50 zy_IR_count ∈ zT := List.mem_filter.mpr ⟨List.mem_append_right _ (List.mem_of_getElem? (i := 214) (by decide +kernel)), rfl⟩
theorem zin_IR_count : Cond.instanceMethod zy_IR_count ∈ zT := List.mem_filter.mpr ⟨List.mem_append_right _ (List.mem_of_getElem? (i := 215) (by decide +kernel)), rfl⟩
theorem zse_IR_count : Cond.selects "PageWords$IntRow" zy_IR_count zy_IR_count ∈ zT := List.mem_filter.mpr ⟨List.mem_append_right _ (List.mem_of_getElem? (i := 216) (by decide +kernel)), rfl⟩
theorem zl_TS_54 : Cond.methodLink "PageWords$TextStore" 54 zy_IR_get ∈ zT := List.mem_filter.mpr ⟨List.mem_append_right _ (List.mem_of_getElem? (i := 218) (by decide +kernel)), rfl⟩
theorem zin_IR_get : Cond.instanceMethod zy_IR_get ∈ zT := List.mem_filter.mpr ⟨List.mem_append_right _ (List.mem_of_getElem? (i := 219) (by decide +kernel)), rfl⟩
theorem zse_IR_get : Cond.selects "PageWords$IntRow" zy_IR_get zy_IR_get ∈ zT := List.mem_filter.mpr ⟨List.mem_append_right _ (List.mem_of_getElem? (i := 220) (by decide +kernel)), rfl⟩
theorem zl_TS_60 : Cond.methodLink "PageWords$TextStore" 60 zy_TS_bucketOf ∈ zT := List.mem_filter.mpr ⟨List.mem_append_right _ (List.mem_of_getElem? (i := 222) (by decide +kernel)), rfl⟩
theorem zst_TS_bucketOf : Cond.static zy_TS_bucketOf ∈ zT := List.mem_filter.mpr ⟨List.mem_append_right _ (List.mem_of_getElem? (i := 223) (by decide +kernel)), rfl⟩
theorem zl_TS_63 : Cond.methodLink "PageWords$TextStore" 63 zy_BR_shorten ∈ zT := List.mem_filter.mpr ⟨List.mem_append_right _ (List.mem_of_getElem? (i := 225) (by decide +kernel)), rfl⟩
theorem zin_BR_shorten : Cond.instanceMethod zy_BR_shorten ∈ zT := List.mem_filter.mpr ⟨List.mem_append_right _ (List.mem_of_getElem? (i := 226) (by decide +kernel)), rfl⟩
theorem zse_BR_shorten : Cond.selects "PageWords$ByteRow" zy_BR_shorten zy_BR_shorten ∈ zT := List.mem_filter.mpr ⟨List.mem_append_right _ (List.mem_of_getElem? (i := 227) (by decide +kernel)), rfl⟩
theorem zl_TS_66 : Cond.methodLink "PageWords$TextStore" 66 zy_IR_shorten ∈ zT := List.mem_filter.mpr ⟨List.mem_append_right _ (List.mem_of_getElem? (i := 229) (by decide +kernel)), rfl⟩
theorem zl_PW_105 : Cond.methodLink "PageWords" 105 zy_IR_shorten ∈ zT := List.mem_filter.mpr ⟨List.mem_append_right _ (List.mem_of_getElem? (i := 230) (by decide +kernel)), rfl⟩
theorem zl_PW_67 : Cond.methodLink "PageWords" 67 zy_PW_leaveOut ∈ zT := List.mem_filter.mpr ⟨List.mem_append_right _ (List.mem_of_getElem? (i := 231) (by decide +kernel)), rfl⟩
theorem zin_PW_leaveOut : Cond.instanceMethod zy_PW_leaveOut ∈ zT := List.mem_filter.mpr ⟨List.mem_append_right _ (List.mem_of_getElem? (i := 233) (by decide +kernel)), rfl⟩
theorem zl_PW_106 : Cond.methodLink "PageWords" 106 zy_BR_get ∈ zT := List.mem_filter.mpr ⟨List.mem_append_right _ (List.mem_of_getElem? (i := 235) (by decide +kernel)), rfl⟩
theorem zin_BR_get : Cond.instanceMethod zy_BR_get ∈ zT := List.mem_filter.mpr ⟨List.mem_append_right _ (List.mem_of_getElem? (i := 236) (by decide +kernel)), rfl⟩
theorem zse_BR_get : Cond.selects "PageWords$ByteRow" zy_BR_get zy_BR_get ∈ zT := List.mem_filter.mpr ⟨List.mem_append_right _ (List.mem_of_getElem? (i := 237) (by decide +kernel)), rfl⟩
theorem zl_PW_109 : Cond.methodLink "PageWords" 109 zy_PW_isBlank ∈ zT := List.mem_filter.mpr ⟨List.mem_append_right _ (List.mem_of_getElem? (i := 239) (by decide +kernel)), rfl⟩
theorem zst_PW_isBlank : Cond.static zy_PW_isBlank ∈ zT := List.mem_filter.mpr ⟨List.mem_append_right _ (List.mem_of_getElem? (i := 240) (by decide +kernel)), rfl⟩
theorem zl_PW_113 : Cond.methodLink "PageWords" 113 zy_PW_skipComment ∈ zT := List.mem_filter.mpr ⟨List.mem_append_right _ (List.mem_of_getElem? (i := 242) (by decide +kernel)), rfl⟩
theorem zin_PW_skipComment : Cond.instanceMethod zy_PW_skipComment ∈ zT := List.mem_filter.mpr ⟨List.mem_append_right _ (List.mem_of_getElem? (i := 244) (by decide +kernel)), rfl⟩
theorem zl_PW_138 : Cond.methodLink "PageWords" 138 zy_PW_isLineEnd ∈ zT := List.mem_filter.mpr ⟨List.mem_append_right _ (List.mem_of_getElem? (i := 246) (by decide +kernel)), rfl⟩
theorem zst_PW_isLineEnd : Cond.static zy_PW_isLineEnd ∈ zT := List.mem_filter.mpr ⟨List.mem_append_right _ (List.mem_of_getElem? (i := 247) (by decide +kernel)), rfl⟩
theorem zl_PW_71 : Cond.methodLink "PageWords" 71 zy_PW_cutWord ∈ zT := List.mem_filter.mpr ⟨List.mem_append_right _ (List.mem_of_getElem? (i := 249) (by decide +kernel)), rfl⟩
theorem zin_PW_cutWord : Cond.instanceMethod zy_PW_cutWord ∈ zT := List.mem_filter.mpr ⟨List.mem_append_right _ (List.mem_of_getElem? (i := 251) (by decide +kernel)), rfl⟩
theorem zl_PW_82 : Cond.methodLink "PageWords" 82 zy_WL_count ∈ zT := List.mem_filter.mpr ⟨List.mem_append_right _ (List.mem_of_getElem? (i := 253) (by decide +kernel)), rfl⟩
theorem zin_WL_count : Cond.instanceMethod zy_WL_count ∈ zT := List.mem_filter.mpr ⟨List.mem_append_right _ (List.mem_of_getElem? (i := 254) (by decide +kernel)), rfl⟩
theorem zse_WL_count : Cond.selects "PageWords$WordList" zy_WL_count zy_WL_count ∈ zT := List.mem_filter.mpr ⟨List.mem_append_right _ (List.mem_of_getElem? (i := 255) (by decide +kernel)), rfl⟩
theorem zl_WL_26 : Cond.methodLink "PageWords$WordList" 26 zy_IR_count ∈ zT := List.mem_filter.mpr ⟨List.mem_append_right _ (List.mem_of_getElem? (i := 257) (by decide +kernel)), rfl⟩
theorem zl_PW_75 : Cond.methodLink "PageWords" 75 zy_PW_goWrong ∈ zT := List.mem_filter.mpr ⟨List.mem_append_right _ (List.mem_of_getElem? (i := 258) (by decide +kernel)), rfl⟩
theorem zin_PW_goWrong : Cond.instanceMethod zy_PW_goWrong ∈ zT := List.mem_filter.mpr ⟨List.mem_append_right _ (List.mem_of_getElem? (i := 260) (by decide +kernel)), rfl⟩
theorem zl_PW_116 : Cond.methodLink "PageWords" 116 zy_PW_cutBracketText ∈ zT := List.mem_filter.mpr ⟨List.mem_append_right _ (List.mem_of_getElem? (i := 262) (by decide +kernel)), rfl⟩
theorem zin_PW_cutBracketText : Cond.instanceMethod zy_PW_cutBracketText ∈ zT := List.mem_filter.mpr ⟨List.mem_append_right _ (List.mem_of_getElem? (i := 264) (by decide +kernel)), rfl⟩
theorem zl_PW_181 : Cond.methodLink "PageWords" 181 zy_PW_takeEscaped ∈ zT := List.mem_filter.mpr ⟨List.mem_append_right _ (List.mem_of_getElem? (i := 266) (by decide +kernel)), rfl⟩
theorem zin_PW_takeEscaped : Cond.instanceMethod zy_PW_takeEscaped ∈ zT := List.mem_filter.mpr ⟨List.mem_append_right _ (List.mem_of_getElem? (i := 268) (by decide +kernel)), rfl⟩
theorem zl_PW_184 : Cond.methodLink "PageWords" 184 zy_PW_skipLineEnd ∈ zT := List.mem_filter.mpr ⟨List.mem_append_right _ (List.mem_of_getElem? (i := 270) (by decide +kernel)), rfl⟩
theorem zin_PW_skipLineEnd : Cond.instanceMethod zy_PW_skipLineEnd ∈ zT := List.mem_filter.mpr ⟨List.mem_append_right _ (List.mem_of_getElem? (i := 272) (by decide +kernel)), rfl⟩
theorem zl_PW_187 : Cond.methodLink "PageWords" 187 zy_PW_isOctal ∈ zT := List.mem_filter.mpr ⟨List.mem_append_right _ (List.mem_of_getElem? (i := 274) (by decide +kernel)), rfl⟩
theorem zst_PW_isOctal : Cond.static zy_PW_isOctal ∈ zT := List.mem_filter.mpr ⟨List.mem_append_right _ (List.mem_of_getElem? (i := 275) (by decide +kernel)), rfl⟩
theorem zl_PW_190 : Cond.methodLink "PageWords" 190 zy_PW_readOctal ∈ zT := List.mem_filter.mpr ⟨List.mem_append_right _ (List.mem_of_getElem? (i := 277) (by decide +kernel)), rfl⟩
theorem zin_PW_readOctal : Cond.instanceMethod zy_PW_readOctal ∈ zT := List.mem_filter.mpr ⟨List.mem_append_right _ (List.mem_of_getElem? (i := 279) (by decide +kernel)), rfl⟩
theorem zl_PW_160 : Cond.methodLink "PageWords" 160 zy_TS_put ∈ zT := List.mem_filter.mpr ⟨List.mem_append_right _ (List.mem_of_getElem? (i := 281) (by decide +kernel)), rfl⟩
theorem zin_TS_put : Cond.instanceMethod zy_TS_put ∈ zT := List.mem_filter.mpr ⟨List.mem_append_right _ (List.mem_of_getElem? (i := 282) (by decide +kernel)), rfl⟩
theorem zse_TS_put : Cond.selects "PageWords$TextStore" zy_TS_put zy_TS_put ∈ zT := List.mem_filter.mpr ⟨List.mem_append_right _ (List.mem_of_getElem? (i := 283) (by decide +kernel)), rfl⟩
theorem zl_TS_67 : Cond.methodLink "PageWords$TextStore" 67 zy_BR_add ∈ zT := List.mem_filter.mpr ⟨List.mem_append_right _ (List.mem_of_getElem? (i := 285) (by decide +kernel)), rfl⟩
theorem zl_PW_193 : Cond.methodLink "PageWords" 193 zy_PW_meant ∈ zT := List.mem_filter.mpr ⟨List.mem_append_right _ (List.mem_of_getElem? (i := 286) (by decide +kernel)), rfl⟩
theorem zst_PW_meant : Cond.static zy_PW_meant ∈ zT := List.mem_filter.mpr ⟨List.mem_append_right _ (List.mem_of_getElem? (i := 287) (by decide +kernel)), rfl⟩
theorem zl_PW_177 : Cond.methodLink "PageWords" 177 zy_PW_endText ∈ zT := List.mem_filter.mpr ⟨List.mem_append_right _ (List.mem_of_getElem? (i := 289) (by decide +kernel)), rfl⟩
theorem zin_PW_endText : Cond.instanceMethod zy_PW_endText ∈ zT := List.mem_filter.mpr ⟨List.mem_append_right _ (List.mem_of_getElem? (i := 291) (by decide +kernel)), rfl⟩
theorem zl_PW_163 : Cond.methodLink "PageWords" 163 zy_TS_keep ∈ zT := List.mem_filter.mpr ⟨List.mem_append_right _ (List.mem_of_getElem? (i := 293) (by decide +kernel)), rfl⟩
theorem zin_TS_keep : Cond.instanceMethod zy_TS_keep ∈ zT := List.mem_filter.mpr ⟨List.mem_append_right _ (List.mem_of_getElem? (i := 294) (by decide +kernel)), rfl⟩
theorem zse_TS_keep : Cond.selects "PageWords$TextStore" zy_TS_keep zy_TS_keep ∈ zT := List.mem_filter.mpr ⟨List.mem_append_right _ (List.mem_of_getElem? (i := 295) (by decide +kernel)), rfl⟩
theorem zl_TS_70 : Cond.methodLink "PageWords$TextStore" 70 zy_TS_hashOfNew ∈ zT := List.mem_filter.mpr ⟨List.mem_append_right _ (List.mem_of_getElem? (i := 297) (by decide +kernel)), rfl⟩
theorem zin_TS_hashOfNew : Cond.instanceMethod zy_TS_hashOfNew ∈ zT := List.mem_filter.mpr ⟨List.mem_append_right _ (List.mem_of_getElem? (i := 299) (by decide +kernel)), rfl⟩
theorem zl_TS_78 : Cond.methodLink "PageWords$TextStore" 78 zy_BR_count ∈ zT := List.mem_filter.mpr ⟨List.mem_append_right _ (List.mem_of_getElem? (i := 301) (by decide +kernel)), rfl⟩
theorem zl_TS_58 : Cond.methodLink "PageWords$TextStore" 58 zy_BR_get ∈ zT := List.mem_filter.mpr ⟨List.mem_append_right _ (List.mem_of_getElem? (i := 302) (by decide +kernel)), rfl⟩
theorem zl_TS_73 : Cond.methodLink "PageWords$TextStore" 73 zy_TS_equalsNew ∈ zT := List.mem_filter.mpr ⟨List.mem_append_right _ (List.mem_of_getElem? (i := 303) (by decide +kernel)), rfl⟩
theorem zin_TS_equalsNew : Cond.instanceMethod zy_TS_equalsNew ∈ zT := List.mem_filter.mpr ⟨List.mem_append_right _ (List.mem_of_getElem? (i := 305) (by decide +kernel)), rfl⟩
theorem zl_TS_77 : Cond.methodLink "PageWords$TextStore" 77 zy_IR_add ∈ zT := List.mem_filter.mpr ⟨List.mem_append_right _ (List.mem_of_getElem? (i := 307) (by decide +kernel)), rfl⟩
theorem zin_IR_add : Cond.instanceMethod zy_IR_add ∈ zT := List.mem_filter.mpr ⟨List.mem_append_right _ (List.mem_of_getElem? (i := 308) (by decide +kernel)), rfl⟩
theorem zse_IR_add : Cond.selects "PageWords$IntRow" zy_IR_add zy_IR_add ∈ zT := List.mem_filter.mpr ⟨List.mem_append_right _ (List.mem_of_getElem? (i := 309) (by decide +kernel)), rfl⟩
theorem zl_IR_22 : Cond.methodLink "PageWords$IntRow" 22 zy_AR_copyOfI ∈ zT := List.mem_filter.mpr ⟨List.mem_append_right _ (List.mem_of_getElem? (i := 311) (by decide +kernel)), rfl⟩
theorem zst_AR_copyOfI : Cond.static zy_AR_copyOfI ∈ zT := List.mem_filter.mpr ⟨List.mem_append_right _ (List.mem_of_getElem? (i := 312) (by decide +kernel)), rfl⟩
theorem zn_AR_317 : Cond.classLink "java/util/Arrays" 317 "[I" ∈ zT := List.mem_filter.mpr ⟨List.mem_append_right _ (List.mem_of_getElem? (i := 318) (by decide +kernel)), rfl⟩
theorem zl_PW_154 : Cond.methodLink "PageWords" 154 zy_WL_add ∈ zT := List.mem_filter.mpr ⟨List.mem_append_right _ (List.mem_of_getElem? (i := 319) (by decide +kernel)), rfl⟩
theorem zin_WL_add : Cond.instanceMethod zy_WL_add ∈ zT := List.mem_filter.mpr ⟨List.mem_append_right _ (List.mem_of_getElem? (i := 320) (by decide +kernel)), rfl⟩
theorem zse_WL_add : Cond.selects "PageWords$WordList" zy_WL_add zy_WL_add ∈ zT := List.mem_filter.mpr ⟨List.mem_append_right _ (List.mem_of_getElem? (i := 321) (by decide +kernel)), rfl⟩
theorem zl_WL_33 : Cond.methodLink "PageWords$WordList" 33 zy_IR_add ∈ zT := List.mem_filter.mpr ⟨List.mem_append_right _ (List.mem_of_getElem? (i := 323) (by decide +kernel)), rfl⟩
theorem zl_PW_119 : Cond.methodLink "PageWords" 119 zy_PW_cutAngle ∈ zT := List.mem_filter.mpr ⟨List.mem_append_right _ (List.mem_of_getElem? (i := 324) (by decide +kernel)), rfl⟩
theorem zin_PW_cutAngle : Cond.instanceMethod zy_PW_cutAngle ∈ zT := List.mem_filter.mpr ⟨List.mem_append_right _ (List.mem_of_getElem? (i := 326) (by decide +kernel)), rfl⟩
theorem zl_PW_122 : Cond.methodLink "PageWords" 122 zy_PW_addName ∈ zT := List.mem_filter.mpr ⟨List.mem_append_right _ (List.mem_of_getElem? (i := 328) (by decide +kernel)), rfl⟩
theorem zin_PW_addName : Cond.instanceMethod zy_PW_addName ∈ zT := List.mem_filter.mpr ⟨List.mem_append_right _ (List.mem_of_getElem? (i := 330) (by decide +kernel)), rfl⟩
theorem zl_PW_171 : Cond.methodLink "PageWords" 171 zy_PW_cutDigitText ∈ zT := List.mem_filter.mpr ⟨List.mem_append_right _ (List.mem_of_getElem? (i := 332) (by decide +kernel)), rfl⟩
theorem zin_PW_cutDigitText : Cond.instanceMethod zy_PW_cutDigitText ∈ zT := List.mem_filter.mpr ⟨List.mem_append_right _ (List.mem_of_getElem? (i := 334) (by decide +kernel)), rfl⟩
theorem zl_PW_174 : Cond.methodLink "PageWords" 174 zy_PW_digitValue ∈ zT := List.mem_filter.mpr ⟨List.mem_append_right _ (List.mem_of_getElem? (i := 336) (by decide +kernel)), rfl⟩
theorem zst_PW_digitValue : Cond.static zy_PW_digitValue ∈ zT := List.mem_filter.mpr ⟨List.mem_append_right _ (List.mem_of_getElem? (i := 337) (by decide +kernel)), rfl⟩
theorem zl_PW_126 : Cond.methodLink "PageWords" 126 zy_PW_cutOpenBrace ∈ zT := List.mem_filter.mpr ⟨List.mem_append_right _ (List.mem_of_getElem? (i := 339) (by decide +kernel)), rfl⟩
theorem zin_PW_cutOpenBrace : Cond.instanceMethod zy_PW_cutOpenBrace ∈ zT := List.mem_filter.mpr ⟨List.mem_append_right _ (List.mem_of_getElem? (i := 341) (by decide +kernel)), rfl⟩
theorem zl_PW_74 : Cond.methodLink "PageWords" 74 zy_IR_count ∈ zT := List.mem_filter.mpr ⟨List.mem_append_right _ (List.mem_of_getElem? (i := 343) (by decide +kernel)), rfl⟩
theorem zl_PW_166 : Cond.methodLink "PageWords" 166 zy_IR_add ∈ zT := List.mem_filter.mpr ⟨List.mem_append_right _ (List.mem_of_getElem? (i := 344) (by decide +kernel)), rfl⟩
theorem zl_PW_129 : Cond.methodLink "PageWords" 129 zy_PW_cutCloseBrace ∈ zT := List.mem_filter.mpr ⟨List.mem_append_right _ (List.mem_of_getElem? (i := 345) (by decide +kernel)), rfl⟩
theorem zin_PW_cutCloseBrace : Cond.instanceMethod zy_PW_cutCloseBrace ∈ zT := List.mem_filter.mpr ⟨List.mem_append_right _ (List.mem_of_getElem? (i := 347) (by decide +kernel)), rfl⟩
theorem zl_PW_167 : Cond.methodLink "PageWords" 167 zy_IR_get ∈ zT := List.mem_filter.mpr ⟨List.mem_append_right _ (List.mem_of_getElem? (i := 349) (by decide +kernel)), rfl⟩
theorem zl_PW_168 : Cond.methodLink "PageWords" 168 zy_WL_setNumber ∈ zT := List.mem_filter.mpr ⟨List.mem_append_right _ (List.mem_of_getElem? (i := 350) (by decide +kernel)), rfl⟩
theorem zin_WL_setNumber : Cond.instanceMethod zy_WL_setNumber ∈ zT := List.mem_filter.mpr ⟨List.mem_append_right _ (List.mem_of_getElem? (i := 351) (by decide +kernel)), rfl⟩
theorem zse_WL_setNumber : Cond.selects "PageWords$WordList" zy_WL_setNumber zy_WL_setNumber ∈ zT := List.mem_filter.mpr ⟨List.mem_append_right _ (List.mem_of_getElem? (i := 352) (by decide +kernel)), rfl⟩
theorem zl_WL_40 : Cond.methodLink "PageWords$WordList" 40 zy_IR_set ∈ zT := List.mem_filter.mpr ⟨List.mem_append_right _ (List.mem_of_getElem? (i := 354) (by decide +kernel)), rfl⟩
theorem zin_IR_set : Cond.instanceMethod zy_IR_set ∈ zT := List.mem_filter.mpr ⟨List.mem_append_right _ (List.mem_of_getElem? (i := 355) (by decide +kernel)), rfl⟩
theorem zse_IR_set : Cond.selects "PageWords$IntRow" zy_IR_set zy_IR_set ∈ zT := List.mem_filter.mpr ⟨List.mem_append_right _ (List.mem_of_getElem? (i := 356) (by decide +kernel)), rfl⟩
theorem zl_PW_132 : Cond.methodLink "PageWords" 132 zy_PW_cutNameItself ∈ zT := List.mem_filter.mpr ⟨List.mem_append_right _ (List.mem_of_getElem? (i := 358) (by decide +kernel)), rfl⟩
theorem zin_PW_cutNameItself : Cond.instanceMethod zy_PW_cutNameItself ∈ zT := List.mem_filter.mpr ⟨List.mem_append_right _ (List.mem_of_getElem? (i := 360) (by decide +kernel)), rfl⟩
theorem zl_PW_141 : Cond.methodLink "PageWords" 141 zy_PW_rowEnd ∈ zT := List.mem_filter.mpr ⟨List.mem_append_right _ (List.mem_of_getElem? (i := 362) (by decide +kernel)), rfl⟩
theorem zin_PW_rowEnd : Cond.instanceMethod zy_PW_rowEnd ∈ zT := List.mem_filter.mpr ⟨List.mem_append_right _ (List.mem_of_getElem? (i := 364) (by decide +kernel)), rfl⟩
theorem zl_PW_157 : Cond.methodLink "PageWords" 157 zy_PW_isPlain ∈ zT := List.mem_filter.mpr ⟨List.mem_append_right _ (List.mem_of_getElem? (i := 366) (by decide +kernel)), rfl⟩
theorem zst_PW_isPlain : Cond.static zy_PW_isPlain ∈ zT := List.mem_filter.mpr ⟨List.mem_append_right _ (List.mem_of_getElem? (i := 367) (by decide +kernel)), rfl⟩
theorem zl_PW_196 : Cond.methodLink "PageWords" 196 zy_PW_isMark ∈ zT := List.mem_filter.mpr ⟨List.mem_append_right _ (List.mem_of_getElem? (i := 369) (by decide +kernel)), rfl⟩
theorem zst_PW_isMark : Cond.static zy_PW_isMark ∈ zT := List.mem_filter.mpr ⟨List.mem_append_right _ (List.mem_of_getElem? (i := 370) (by decide +kernel)), rfl⟩
theorem zl_PW_135 : Cond.methodLink "PageWords" 135 zy_PW_cutRow ∈ zT := List.mem_filter.mpr ⟨List.mem_append_right _ (List.mem_of_getElem? (i := 372) (by decide +kernel)), rfl⟩
theorem zin_PW_cutRow : Cond.instanceMethod zy_PW_cutRow ∈ zT := List.mem_filter.mpr ⟨List.mem_append_right _ (List.mem_of_getElem? (i := 374) (by decide +kernel)), rfl⟩
theorem zl_PW_144 : Cond.methodLink "PageWords" 144 zy_NU_read ∈ zT := List.mem_filter.mpr ⟨List.mem_append_right _ (List.mem_of_getElem? (i := 376) (by decide +kernel)), rfl⟩
theorem zin_NU_read : Cond.instanceMethod zy_NU_read ∈ zT := List.mem_filter.mpr ⟨List.mem_append_right _ (List.mem_of_getElem? (i := 377) (by decide +kernel)), rfl⟩
theorem zse_NU_read : Cond.selects "PageWords$Numeral" zy_NU_read zy_NU_read ∈ zT := List.mem_filter.mpr ⟨List.mem_append_right _ (List.mem_of_getElem? (i := 378) (by decide +kernel)), rfl⟩
theorem zl_NU_23 : Cond.methodLink "PageWords$Numeral" 23 zy_BR_get ∈ zT := List.mem_filter.mpr ⟨List.mem_append_right _ (List.mem_of_getElem? (i := 380) (by decide +kernel)), rfl⟩
theorem zl_NU_32 : Cond.methodLink "PageWords$Numeral" 32 zy_NU_isSign ∈ zT := List.mem_filter.mpr ⟨List.mem_append_right _ (List.mem_of_getElem? (i := 381) (by decide +kernel)), rfl⟩
theorem zst_NU_isSign : Cond.static zy_NU_isSign ∈ zT := List.mem_filter.mpr ⟨List.mem_append_right _ (List.mem_of_getElem? (i := 382) (by decide +kernel)), rfl⟩
theorem zl_NU_39 : Cond.methodLink "PageWords$Numeral" 39 zy_NU_skipDigits ∈ zT := List.mem_filter.mpr ⟨List.mem_append_right _ (List.mem_of_getElem? (i := 384) (by decide +kernel)), rfl⟩
theorem zst_NU_skipDigits : Cond.static zy_NU_skipDigits ∈ zT := List.mem_filter.mpr ⟨List.mem_append_right _ (List.mem_of_getElem? (i := 385) (by decide +kernel)), rfl⟩
theorem zl_NU_67 : Cond.methodLink "PageWords$Numeral" 67 zy_NU_isDigit ∈ zT := List.mem_filter.mpr ⟨List.mem_append_right _ (List.mem_of_getElem? (i := 387) (by decide +kernel)), rfl⟩
theorem zst_NU_isDigit : Cond.static zy_NU_isDigit ∈ zT := List.mem_filter.mpr ⟨List.mem_append_right _ (List.mem_of_getElem? (i := 388) (by decide +kernel)), rfl⟩
theorem zl_NU_49 : Cond.methodLink "PageWords$Numeral" 49 zy_NU_readWhole ∈ zT := List.mem_filter.mpr ⟨List.mem_append_right _ (List.mem_of_getElem? (i := 390) (by decide +kernel)), rfl⟩
theorem zin_NU_readWhole : Cond.instanceMethod zy_NU_readWhole ∈ zT := List.mem_filter.mpr ⟨List.mem_append_right _ (List.mem_of_getElem? (i := 392) (by decide +kernel)), rfl⟩
theorem zl_NU_70 : Cond.methodLink "PageWords$Numeral" 70 zy_NU_sumDigits ∈ zT := List.mem_filter.mpr ⟨List.mem_append_right _ (List.mem_of_getElem? (i := 394) (by decide +kernel)), rfl⟩
theorem zst_NU_sumDigits : Cond.static zy_NU_sumDigits ∈ zT := List.mem_filter.mpr ⟨List.mem_append_right _ (List.mem_of_getElem? (i := 395) (by decide +kernel)), rfl⟩
theorem zk_NU_79 : Cond.constantLong "PageWords$Numeral" 79 (4294967296) ∈ zT := List.mem_filter.mpr ⟨List.mem_append_right _ (List.mem_of_getElem? (i := 397) (by decide +kernel)), rfl⟩
theorem zl_NU_81 : Cond.methodLink "PageWords$Numeral" 81 Lib.MathLoose.min_long.x ∈ zT := List.mem_filter.mpr ⟨List.mem_append_right _ (List.mem_of_getElem? (i := 399) (by decide +kernel)), rfl⟩
theorem zst_MA_minJ : Cond.static Lib.MathLoose.min_long.x ∈ zT := List.mem_filter.mpr ⟨List.mem_append_right _ (List.mem_of_getElem? (i := 400) (by decide +kernel)), rfl⟩
theorem zco_MA_minJ : Cond.code Lib.MathLoose.min_long.x Lib.MathLoose.min_long.code 4 (some .long) ∈ zT := List.mem_filter.mpr ⟨List.mem_append_right _ (List.mem_of_getElem? (i := 401) rfl), rfl⟩
theorem zk_NU_74 : Cond.constantLong "PageWords$Numeral" 74 (2147483648) ∈ zT := List.mem_filter.mpr ⟨List.mem_append_right _ (List.mem_of_getElem? (i := 402) (by decide +kernel)), rfl⟩
theorem zl_NU_53 : Cond.methodLink "PageWords$Numeral" 53 zy_NU_readWithBase ∈ zT := List.mem_filter.mpr ⟨List.mem_append_right _ (List.mem_of_getElem? (i := 403) (by decide +kernel)), rfl⟩
theorem zin_NU_readWithBase : Cond.instanceMethod zy_NU_readWithBase ∈ zT := List.mem_filter.mpr ⟨List.mem_append_right _ (List.mem_of_getElem? (i := 405) (by decide +kernel)), rfl⟩
theorem zl_NU_57 : Cond.methodLink "PageWords$Numeral" 57 zy_NU_findFraction ∈ zT := List.mem_filter.mpr ⟨List.mem_append_right _ (List.mem_of_getElem? (i := 407) (by decide +kernel)), rfl⟩
theorem zin_NU_findFraction : Cond.instanceMethod zy_NU_findFraction ∈ zT := List.mem_filter.mpr ⟨List.mem_append_right _ (List.mem_of_getElem? (i := 409) (by decide +kernel)), rfl⟩
theorem zl_NU_61 : Cond.methodLink "PageWords$Numeral" 61 zy_NU_findExponent ∈ zT := List.mem_filter.mpr ⟨List.mem_append_right _ (List.mem_of_getElem? (i := 411) (by decide +kernel)), rfl⟩
theorem zin_NU_findExponent : Cond.instanceMethod zy_NU_findExponent ∈ zT := List.mem_filter.mpr ⟨List.mem_append_right _ (List.mem_of_getElem? (i := 413) (by decide +kernel)), rfl⟩
theorem zk_NU_90 : Cond.constantLong "PageWords$Numeral" 90 (1000) ∈ zT := List.mem_filter.mpr ⟨List.mem_append_right _ (List.mem_of_getElem? (i := 415) (by decide +kernel)), rfl⟩
theorem zl_NU_64 : Cond.methodLink "PageWords$Numeral" 64 zy_NU_readReal ∈ zT := List.mem_filter.mpr ⟨List.mem_append_right _ (List.mem_of_getElem? (i := 416) (by decide +kernel)), rfl⟩
theorem zin_NU_readReal : Cond.instanceMethod zy_NU_readReal ∈ zT := List.mem_filter.mpr ⟨List.mem_append_right _ (List.mem_of_getElem? (i := 418) (by decide +kernel)), rfl⟩
theorem zl_NU_92 : Cond.methodLink "PageWords$Numeral" 92 zy_NU_placeDigits ∈ zT := List.mem_filter.mpr ⟨List.mem_append_right _ (List.mem_of_getElem? (i := 420) (by decide +kernel)), rfl⟩
theorem zin_NU_placeDigits : Cond.instanceMethod zy_NU_placeDigits ∈ zT := List.mem_filter.mpr ⟨List.mem_append_right _ (List.mem_of_getElem? (i := 422) (by decide +kernel)), rfl⟩
theorem zl_NU_105 : Cond.methodLink "PageWords$Numeral" 105 zy_AR_fill ∈ zT := List.mem_filter.mpr ⟨List.mem_append_right _ (List.mem_of_getElem? (i := 424) (by decide +kernel)), rfl⟩
theorem zf_NU_111 : Cond.fieldLink "PageWords$Numeral" 111 "PageWords$Numeral" "TENS" "[I" ∈ zT := List.mem_filter.mpr ⟨List.mem_append_right _ (List.mem_of_getElem? (i := 425) (by decide +kernel)), rfl⟩
theorem zk_NU_96 : Cond.constantLong "PageWords$Numeral" 96 (65536) ∈ zT := List.mem_filter.mpr ⟨List.mem_append_right _ (List.mem_of_getElem? (i := 427) (by decide +kernel)), rfl⟩
theorem zl_NU_98 : Cond.methodLink "PageWords$Numeral" 98 zy_NU_multiplyFraction ∈ zT := List.mem_filter.mpr ⟨List.mem_append_right _ (List.mem_of_getElem? (i := 428) (by decide +kernel)), rfl⟩
theorem zin_NU_multiplyFraction : Cond.instanceMethod zy_NU_multiplyFraction ∈ zT := List.mem_filter.mpr ⟨List.mem_append_right _ (List.mem_of_getElem? (i := 430) (by decide +kernel)), rfl⟩
theorem zk_NU_114 : Cond.constant "PageWords$Numeral" 114 (65536) ∈ zT := List.mem_filter.mpr ⟨List.mem_append_right _ (List.mem_of_getElem? (i := 432) (by decide +kernel)), rfl⟩
theorem zl_NU_102 : Cond.methodLink "PageWords$Numeral" 102 zy_NU_compareFractionToHalf ∈ zT := List.mem_filter.mpr ⟨List.mem_append_right _ (List.mem_of_getElem? (i := 433) (by decide +kernel)), rfl⟩
theorem zin_NU_compareFractionToHalf : Cond.instanceMethod zy_NU_compareFractionToHalf ∈ zT := List.mem_filter.mpr ⟨List.mem_append_right _ (List.mem_of_getElem? (i := 435) (by decide +kernel)), rfl⟩
theorem zl_NU_115 : Cond.methodLink "PageWords$Numeral" 115 zy_IG_compare ∈ zT := List.mem_filter.mpr ⟨List.mem_append_right _ (List.mem_of_getElem? (i := 437) (by decide +kernel)), rfl⟩
theorem zst_IG_compare : Cond.static zy_IG_compare ∈ zT := List.mem_filter.mpr ⟨List.mem_append_right _ (List.mem_of_getElem? (i := 438) (by decide +kernel)), rfl⟩
theorem zl_PW_148 : Cond.methodLink "PageWords" 148 zy_NU_fits ∈ zT := List.mem_filter.mpr ⟨List.mem_append_right _ (List.mem_of_getElem? (i := 440) (by decide +kernel)), rfl⟩
theorem zin_NU_fits : Cond.instanceMethod zy_NU_fits ∈ zT := List.mem_filter.mpr ⟨List.mem_append_right _ (List.mem_of_getElem? (i := 441) (by decide +kernel)), rfl⟩
theorem zse_NU_fits : Cond.selects "PageWords$Numeral" zy_NU_fits zy_NU_fits ∈ zT := List.mem_filter.mpr ⟨List.mem_append_right _ (List.mem_of_getElem? (i := 442) (by decide +kernel)), rfl⟩
theorem zl_PW_151 : Cond.methodLink "PageWords" 151 zy_NU_value ∈ zT := List.mem_filter.mpr ⟨List.mem_append_right _ (List.mem_of_getElem? (i := 444) (by decide +kernel)), rfl⟩
theorem zin_NU_value : Cond.instanceMethod zy_NU_value ∈ zT := List.mem_filter.mpr ⟨List.mem_append_right _ (List.mem_of_getElem? (i := 445) (by decide +kernel)), rfl⟩
theorem zse_NU_value : Cond.selects "PageWords$Numeral" zy_NU_value zy_NU_value ∈ zT := List.mem_filter.mpr ⟨List.mem_append_right _ (List.mem_of_getElem? (i := 446) (by decide +kernel)), rfl⟩
theorem zl_PW_79 : Cond.methodLink "PageWords" 79 zy_BR_shorten ∈ zT := List.mem_filter.mpr ⟨List.mem_append_right _ (List.mem_of_getElem? (i := 448) (by decide +kernel)), rfl⟩
theorem zl_LW_25 : Cond.methodLink "PageWordsLaw" 25 zy_PW_place ∈ zT := List.mem_filter.mpr ⟨List.mem_append_right _ (List.mem_of_getElem? (i := 449) (by decide +kernel)), rfl⟩
theorem zin_PW_place : Cond.instanceMethod zy_PW_place ∈ zT := List.mem_filter.mpr ⟨List.mem_append_right _ (List.mem_of_getElem? (i := 450) (by decide +kernel)), rfl⟩
theorem zse_PW_place : Cond.selects "PageWords" zy_PW_place zy_PW_place ∈ zT := List.mem_filter.mpr ⟨List.mem_append_right _ (List.mem_of_getElem? (i := 451) (by decide +kernel)), rfl⟩
theorem zl_LW_29 : Cond.methodLink "PageWordsLaw" 29 zy_PW_words ∈ zT := List.mem_filter.mpr ⟨List.mem_append_right _ (List.mem_of_getElem? (i := 453) (by decide +kernel)), rfl⟩
theorem zin_PW_words : Cond.instanceMethod zy_PW_words ∈ zT := List.mem_filter.mpr ⟨List.mem_append_right _ (List.mem_of_getElem? (i := 454) (by decide +kernel)), rfl⟩
theorem zse_PW_words : Cond.selects "PageWords" zy_PW_words zy_PW_words ∈ zT := List.mem_filter.mpr ⟨List.mem_append_right _ (List.mem_of_getElem? (i := 455) (by decide +kernel)), rfl⟩
theorem zl_LW_33 : Cond.methodLink "PageWordsLaw" 33 zy_PW_kind ∈ zT := List.mem_filter.mpr ⟨List.mem_append_right _ (List.mem_of_getElem? (i := 457) (by decide +kernel)), rfl⟩
theorem zin_PW_kind : Cond.instanceMethod zy_PW_kind ∈ zT := List.mem_filter.mpr ⟨List.mem_append_right _ (List.mem_of_getElem? (i := 458) (by decide +kernel)), rfl⟩
theorem zse_PW_kind : Cond.selects "PageWords" zy_PW_kind zy_PW_kind ∈ zT := List.mem_filter.mpr ⟨List.mem_append_right _ (List.mem_of_getElem? (i := 459) (by decide +kernel)), rfl⟩
theorem zl_PW_83 : Cond.methodLink "PageWords" 83 zy_WL_kindOf ∈ zT := List.mem_filter.mpr ⟨List.mem_append_right _ (List.mem_of_getElem? (i := 461) (by decide +kernel)), rfl⟩
theorem zin_WL_kindOf : Cond.instanceMethod zy_WL_kindOf ∈ zT := List.mem_filter.mpr ⟨List.mem_append_right _ (List.mem_of_getElem? (i := 462) (by decide +kernel)), rfl⟩
theorem zse_WL_kindOf : Cond.selects "PageWords$WordList" zy_WL_kindOf zy_WL_kindOf ∈ zT := List.mem_filter.mpr ⟨List.mem_append_right _ (List.mem_of_getElem? (i := 463) (by decide +kernel)), rfl⟩
theorem zl_WL_36 : Cond.methodLink "PageWords$WordList" 36 zy_IR_get ∈ zT := List.mem_filter.mpr ⟨List.mem_append_right _ (List.mem_of_getElem? (i := 465) (by decide +kernel)), rfl⟩
theorem zl_LW_38 : Cond.methodLink "PageWordsLaw" 38 zy_PW_number ∈ zT := List.mem_filter.mpr ⟨List.mem_append_right _ (List.mem_of_getElem? (i := 466) (by decide +kernel)), rfl⟩
theorem zin_PW_number : Cond.instanceMethod zy_PW_number ∈ zT := List.mem_filter.mpr ⟨List.mem_append_right _ (List.mem_of_getElem? (i := 467) (by decide +kernel)), rfl⟩
theorem zse_PW_number : Cond.selects "PageWords" zy_PW_number zy_PW_number ∈ zT := List.mem_filter.mpr ⟨List.mem_append_right _ (List.mem_of_getElem? (i := 468) (by decide +kernel)), rfl⟩
theorem zl_PW_87 : Cond.methodLink "PageWords" 87 zy_WL_numberOf ∈ zT := List.mem_filter.mpr ⟨List.mem_append_right _ (List.mem_of_getElem? (i := 470) (by decide +kernel)), rfl⟩
theorem zin_WL_numberOf : Cond.instanceMethod zy_WL_numberOf ∈ zT := List.mem_filter.mpr ⟨List.mem_append_right _ (List.mem_of_getElem? (i := 471) (by decide +kernel)), rfl⟩
theorem zse_WL_numberOf : Cond.selects "PageWords$WordList" zy_WL_numberOf zy_WL_numberOf ∈ zT := List.mem_filter.mpr ⟨List.mem_append_right _ (List.mem_of_getElem? (i := 472) (by decide +kernel)), rfl⟩
theorem zl_LW_42 : Cond.methodLink "PageWordsLaw" 42 zy_PW_begin ∈ zT := List.mem_filter.mpr ⟨List.mem_append_right _ (List.mem_of_getElem? (i := 474) (by decide +kernel)), rfl⟩
theorem zin_PW_begin : Cond.instanceMethod zy_PW_begin ∈ zT := List.mem_filter.mpr ⟨List.mem_append_right _ (List.mem_of_getElem? (i := 475) (by decide +kernel)), rfl⟩
theorem zse_PW_begin : Cond.selects "PageWords" zy_PW_begin zy_PW_begin ∈ zT := List.mem_filter.mpr ⟨List.mem_append_right _ (List.mem_of_getElem? (i := 476) (by decide +kernel)), rfl⟩
theorem zl_PW_90 : Cond.methodLink "PageWords" 90 zy_WL_beginOf ∈ zT := List.mem_filter.mpr ⟨List.mem_append_right _ (List.mem_of_getElem? (i := 478) (by decide +kernel)), rfl⟩
theorem zin_WL_beginOf : Cond.instanceMethod zy_WL_beginOf ∈ zT := List.mem_filter.mpr ⟨List.mem_append_right _ (List.mem_of_getElem? (i := 479) (by decide +kernel)), rfl⟩
theorem zse_WL_beginOf : Cond.selects "PageWords$WordList" zy_WL_beginOf zy_WL_beginOf ∈ zT := List.mem_filter.mpr ⟨List.mem_append_right _ (List.mem_of_getElem? (i := 480) (by decide +kernel)), rfl⟩
theorem zl_LW_46 : Cond.methodLink "PageWordsLaw" 46 zy_PW_texts ∈ zT := List.mem_filter.mpr ⟨List.mem_append_right _ (List.mem_of_getElem? (i := 482) (by decide +kernel)), rfl⟩
theorem zin_PW_texts : Cond.instanceMethod zy_PW_texts ∈ zT := List.mem_filter.mpr ⟨List.mem_append_right _ (List.mem_of_getElem? (i := 483) (by decide +kernel)), rfl⟩
theorem zse_PW_texts : Cond.selects "PageWords" zy_PW_texts zy_PW_texts ∈ zT := List.mem_filter.mpr ⟨List.mem_append_right _ (List.mem_of_getElem? (i := 484) (by decide +kernel)), rfl⟩
theorem zl_PW_93 : Cond.methodLink "PageWords" 93 zy_TS_count ∈ zT := List.mem_filter.mpr ⟨List.mem_append_right _ (List.mem_of_getElem? (i := 486) (by decide +kernel)), rfl⟩
theorem zl_LW_50 : Cond.methodLink "PageWordsLaw" 50 zy_PW_size ∈ zT := List.mem_filter.mpr ⟨List.mem_append_right _ (List.mem_of_getElem? (i := 487) (by decide +kernel)), rfl⟩
theorem zin_PW_size : Cond.instanceMethod zy_PW_size ∈ zT := List.mem_filter.mpr ⟨List.mem_append_right _ (List.mem_of_getElem? (i := 488) (by decide +kernel)), rfl⟩
theorem zse_PW_size : Cond.selects "PageWords" zy_PW_size zy_PW_size ∈ zT := List.mem_filter.mpr ⟨List.mem_append_right _ (List.mem_of_getElem? (i := 489) (by decide +kernel)), rfl⟩
theorem zl_PW_94 : Cond.methodLink "PageWords" 94 zy_TS_sizeOf ∈ zT := List.mem_filter.mpr ⟨List.mem_append_right _ (List.mem_of_getElem? (i := 491) (by decide +kernel)), rfl⟩
theorem zin_TS_sizeOf : Cond.instanceMethod zy_TS_sizeOf ∈ zT := List.mem_filter.mpr ⟨List.mem_append_right _ (List.mem_of_getElem? (i := 492) (by decide +kernel)), rfl⟩
theorem zse_TS_sizeOf : Cond.selects "PageWords$TextStore" zy_TS_sizeOf zy_TS_sizeOf ∈ zT := List.mem_filter.mpr ⟨List.mem_append_right _ (List.mem_of_getElem? (i := 493) (by decide +kernel)), rfl⟩
theorem zl_LW_54 : Cond.methodLink "PageWordsLaw" 54 zy_PW_at ∈ zT := List.mem_filter.mpr ⟨List.mem_append_right _ (List.mem_of_getElem? (i := 495) (by decide +kernel)), rfl⟩
theorem zin_PW_at : Cond.instanceMethod zy_PW_at ∈ zT := List.mem_filter.mpr ⟨List.mem_append_right _ (List.mem_of_getElem? (i := 496) (by decide +kernel)), rfl⟩
theorem zse_PW_at : Cond.selects "PageWords" zy_PW_at zy_PW_at ∈ zT := List.mem_filter.mpr ⟨List.mem_append_right _ (List.mem_of_getElem? (i := 497) (by decide +kernel)), rfl⟩
theorem zl_PW_97 : Cond.methodLink "PageWords" 97 zy_TS_byteOf ∈ zT := List.mem_filter.mpr ⟨List.mem_append_right _ (List.mem_of_getElem? (i := 499) (by decide +kernel)), rfl⟩
theorem zin_TS_byteOf : Cond.instanceMethod zy_TS_byteOf ∈ zT := List.mem_filter.mpr ⟨List.mem_append_right _ (List.mem_of_getElem? (i := 500) (by decide +kernel)), rfl⟩
theorem zse_TS_byteOf : Cond.selects "PageWords$TextStore" zy_TS_byteOf zy_TS_byteOf ∈ zT := List.mem_filter.mpr ⟨List.mem_append_right _ (List.mem_of_getElem? (i := 501) (by decide +kernel)), rfl⟩
theorem zn_LW_10 : Cond.classLink "PageWordsLaw" 10 "PageWordsModel" ∈ zT := List.mem_filter.mpr ⟨List.mem_append_right _ (List.mem_of_getElem? (i := 503) (by decide +kernel)), rfl⟩
theorem zl_LW_12 : Cond.methodLink "PageWordsLaw" 12 zy_MO_new ∈ zT := List.mem_filter.mpr ⟨List.mem_append_right _ (List.mem_of_getElem? (i := 505) (by decide +kernel)), rfl⟩
theorem zin_MO_new : Cond.instanceMethod zy_MO_new ∈ zT := List.mem_filter.mpr ⟨List.mem_append_right _ (List.mem_of_getElem? (i := 506) (by decide +kernel)), rfl⟩
theorem zl_MO_1 : Cond.methodLink "PageWordsModel" 1 Lib.objectInit ∈ zT := List.mem_filter.mpr ⟨List.mem_append_right _ (List.mem_of_getElem? (i := 508) (by decide +kernel)), rfl⟩
theorem zk_MO_7 : Cond.constant "PageWordsModel" 7 (65536) ∈ zT := List.mem_filter.mpr ⟨List.mem_append_right _ (List.mem_of_getElem? (i := 509) (by decide +kernel)), rfl⟩
theorem zk_MO_27 : Cond.constant "PageWordsModel" 27 (131072) ∈ zT := List.mem_filter.mpr ⟨List.mem_append_right _ (List.mem_of_getElem? (i := 510) (by decide +kernel)), rfl⟩
theorem zf_MO_8 : Cond.fieldLink "PageWordsModel" 8 "PageWordsModel" "tape" "[B" ∈ zT := List.mem_filter.mpr ⟨List.mem_append_right _ (List.mem_of_getElem? (i := 511) (by decide +kernel)), rfl⟩
theorem zf_MO_40 : Cond.fieldLink "PageWordsModel" 40 "PageWordsModel" "size" "I" ∈ zT := List.mem_filter.mpr ⟨List.mem_append_right _ (List.mem_of_getElem? (i := 512) (by decide +kernel)), rfl⟩
theorem zf_MO_58 : Cond.fieldLink "PageWordsModel" 58 "PageWordsModel" "place" "I" ∈ zT := List.mem_filter.mpr ⟨List.mem_append_right _ (List.mem_of_getElem? (i := 513) (by decide +kernel)), rfl⟩
theorem zf_MO_61 : Cond.fieldLink "PageWordsModel" 61 "PageWordsModel" "words" "I" ∈ zT := List.mem_filter.mpr ⟨List.mem_append_right _ (List.mem_of_getElem? (i := 514) (by decide +kernel)), rfl⟩
theorem zf_MO_14 : Cond.fieldLink "PageWordsModel" 14 "PageWordsModel" "kinds" "[B" ∈ zT := List.mem_filter.mpr ⟨List.mem_append_right _ (List.mem_of_getElem? (i := 515) (by decide +kernel)), rfl⟩
theorem zf_MO_17 : Cond.fieldLink "PageWordsModel" 17 "PageWordsModel" "numbers" "[I" ∈ zT := List.mem_filter.mpr ⟨List.mem_append_right _ (List.mem_of_getElem? (i := 516) (by decide +kernel)), rfl⟩
theorem zf_MO_21 : Cond.fieldLink "PageWordsModel" 21 "PageWordsModel" "begins" "[I" ∈ zT := List.mem_filter.mpr ⟨List.mem_append_right _ (List.mem_of_getElem? (i := 517) (by decide +kernel)), rfl⟩
theorem zf_MO_24 : Cond.fieldLink "PageWordsModel" 24 "PageWordsModel" "braces" "[I" ∈ zT := List.mem_filter.mpr ⟨List.mem_append_right _ (List.mem_of_getElem? (i := 518) (by decide +kernel)), rfl⟩
theorem zf_MO_156 : Cond.fieldLink "PageWordsModel" 156 "PageWordsModel" "open" "I" ∈ zT := List.mem_filter.mpr ⟨List.mem_append_right _ (List.mem_of_getElem? (i := 519) (by decide +kernel)), rfl⟩
theorem zf_MO_67 : Cond.fieldLink "PageWordsModel" 67 "PageWordsModel" "texts" "I" ∈ zT := List.mem_filter.mpr ⟨List.mem_append_right _ (List.mem_of_getElem? (i := 520) (by decide +kernel)), rfl⟩
theorem zf_MO_64 : Cond.fieldLink "PageWordsModel" 64 "PageWordsModel" "used" "I" ∈ zT := List.mem_filter.mpr ⟨List.mem_append_right _ (List.mem_of_getElem? (i := 521) (by decide +kernel)), rfl⟩
theorem zf_MO_28 : Cond.fieldLink "PageWordsModel" 28 "PageWordsModel" "bytes" "[B" ∈ zT := List.mem_filter.mpr ⟨List.mem_append_right _ (List.mem_of_getElem? (i := 522) (by decide +kernel)), rfl⟩
theorem zf_MO_31 : Cond.fieldLink "PageWordsModel" 31 "PageWordsModel" "froms" "[I" ∈ zT := List.mem_filter.mpr ⟨List.mem_append_right _ (List.mem_of_getElem? (i := 523) (by decide +kernel)), rfl⟩
theorem zf_MO_34 : Cond.fieldLink "PageWordsModel" 34 "PageWordsModel" "digits" "[B" ∈ zT := List.mem_filter.mpr ⟨List.mem_append_right _ (List.mem_of_getElem? (i := 524) (by decide +kernel)), rfl⟩
theorem zf_MO_136 : Cond.fieldLink "PageWordsModel" 136 "PageWordsModel" "count" "I" ∈ zT := List.mem_filter.mpr ⟨List.mem_append_right _ (List.mem_of_getElem? (i := 525) (by decide +kernel)), rfl⟩
theorem zf_MO_139 : Cond.fieldLink "PageWordsModel" 139 "PageWordsModel" "whole" "I" ∈ zT := List.mem_filter.mpr ⟨List.mem_append_right _ (List.mem_of_getElem? (i := 526) (by decide +kernel)), rfl⟩
theorem zf_MO_55 : Cond.fieldLink "PageWordsModel" 55 "PageWordsModel" "why" "I" ∈ zT := List.mem_filter.mpr ⟨List.mem_append_right _ (List.mem_of_getElem? (i := 527) (by decide +kernel)), rfl⟩
theorem zf_MO_37 : Cond.fieldLink "PageWordsModel" 37 "PageWordsModel" "fraction" "[B" ∈ zT := List.mem_filter.mpr ⟨List.mem_append_right _ (List.mem_of_getElem? (i := 528) (by decide +kernel)), rfl⟩
theorem zl_LW_19 : Cond.methodLink "PageWordsLaw" 19 zy_MO_type ∈ zT := List.mem_filter.mpr ⟨List.mem_append_right _ (List.mem_of_getElem? (i := 566) (by decide +kernel)), rfl⟩
theorem zin_MO_type : Cond.instanceMethod zy_MO_type ∈ zT := List.mem_filter.mpr ⟨List.mem_append_right _ (List.mem_of_getElem? (i := 567) (by decide +kernel)), rfl⟩
theorem zse_MO_type : Cond.selects "PageWordsModel" zy_MO_type zy_MO_type ∈ zT := List.mem_filter.mpr ⟨List.mem_append_right _ (List.mem_of_getElem? (i := 568) (by decide +kernel)), rfl⟩
theorem zl_LW_24 : Cond.methodLink "PageWordsLaw" 24 zy_MO_cut ∈ zT := List.mem_filter.mpr ⟨List.mem_append_right _ (List.mem_of_getElem? (i := 570) (by decide +kernel)), rfl⟩
theorem zin_MO_cut : Cond.instanceMethod zy_MO_cut ∈ zT := List.mem_filter.mpr ⟨List.mem_append_right _ (List.mem_of_getElem? (i := 571) (by decide +kernel)), rfl⟩
theorem zse_MO_cut : Cond.selects "PageWordsModel" zy_MO_cut zy_MO_cut ∈ zT := List.mem_filter.mpr ⟨List.mem_append_right _ (List.mem_of_getElem? (i := 572) (by decide +kernel)), rfl⟩
theorem zl_MO_177 : Cond.methodLink "PageWordsModel" 177 zy_MO_skip ∈ zT := List.mem_filter.mpr ⟨List.mem_append_right _ (List.mem_of_getElem? (i := 574) (by decide +kernel)), rfl⟩
theorem zin_MO_skip : Cond.instanceMethod zy_MO_skip ∈ zT := List.mem_filter.mpr ⟨List.mem_append_right _ (List.mem_of_getElem? (i := 576) (by decide +kernel)), rfl⟩
theorem zl_MO_51 : Cond.methodLink "PageWordsModel" 51 zy_MO_byteAt ∈ zT := List.mem_filter.mpr ⟨List.mem_append_right _ (List.mem_of_getElem? (i := 578) (by decide +kernel)), rfl⟩
theorem zin_MO_byteAt : Cond.instanceMethod zy_MO_byteAt ∈ zT := List.mem_filter.mpr ⟨List.mem_append_right _ (List.mem_of_getElem? (i := 580) (by decide +kernel)), rfl⟩
theorem zl_MO_44 : Cond.methodLink "PageWordsModel" 44 zy_MO_isBlank ∈ zT := List.mem_filter.mpr ⟨List.mem_append_right _ (List.mem_of_getElem? (i := 582) (by decide +kernel)), rfl⟩
theorem zst_MO_isBlank : Cond.static zy_MO_isBlank ∈ zT := List.mem_filter.mpr ⟨List.mem_append_right _ (List.mem_of_getElem? (i := 583) (by decide +kernel)), rfl⟩
theorem zl_MO_80 : Cond.methodLink "PageWordsModel" 80 zy_MO_fail ∈ zT := List.mem_filter.mpr ⟨List.mem_append_right _ (List.mem_of_getElem? (i := 585) (by decide +kernel)), rfl⟩
theorem zin_MO_fail : Cond.instanceMethod zy_MO_fail ∈ zT := List.mem_filter.mpr ⟨List.mem_append_right _ (List.mem_of_getElem? (i := 587) (by decide +kernel)), rfl⟩
theorem zl_MO_180 : Cond.methodLink "PageWordsModel" 180 zy_MO_one ∈ zT := List.mem_filter.mpr ⟨List.mem_append_right _ (List.mem_of_getElem? (i := 589) (by decide +kernel)), rfl⟩
theorem zin_MO_one : Cond.instanceMethod zy_MO_one ∈ zT := List.mem_filter.mpr ⟨List.mem_append_right _ (List.mem_of_getElem? (i := 591) (by decide +kernel)), rfl⟩
theorem zl_MO_162 : Cond.methodLink "PageWordsModel" 162 zy_MO_brackets ∈ zT := List.mem_filter.mpr ⟨List.mem_append_right _ (List.mem_of_getElem? (i := 593) (by decide +kernel)), rfl⟩
theorem zin_MO_brackets : Cond.instanceMethod zy_MO_brackets ∈ zT := List.mem_filter.mpr ⟨List.mem_append_right _ (List.mem_of_getElem? (i := 595) (by decide +kernel)), rfl⟩
theorem zl_MO_150 : Cond.methodLink "PageWordsModel" 150 zy_MO_escape ∈ zT := List.mem_filter.mpr ⟨List.mem_append_right _ (List.mem_of_getElem? (i := 597) (by decide +kernel)), rfl⟩
theorem zin_MO_escape : Cond.instanceMethod zy_MO_escape ∈ zT := List.mem_filter.mpr ⟨List.mem_append_right _ (List.mem_of_getElem? (i := 599) (by decide +kernel)), rfl⟩
theorem zl_MO_153 : Cond.methodLink "PageWordsModel" 153 zy_MO_isOctal ∈ zT := List.mem_filter.mpr ⟨List.mem_append_right _ (List.mem_of_getElem? (i := 601) (by decide +kernel)), rfl⟩
theorem zst_MO_isOctal : Cond.static zy_MO_isOctal ∈ zT := List.mem_filter.mpr ⟨List.mem_append_right _ (List.mem_of_getElem? (i := 602) (by decide +kernel)), rfl⟩
theorem zl_MO_72 : Cond.methodLink "PageWordsModel" 72 zy_MO_drop ∈ zT := List.mem_filter.mpr ⟨List.mem_append_right _ (List.mem_of_getElem? (i := 604) (by decide +kernel)), rfl⟩
theorem zin_MO_drop : Cond.instanceMethod zy_MO_drop ∈ zT := List.mem_filter.mpr ⟨List.mem_append_right _ (List.mem_of_getElem? (i := 606) (by decide +kernel)), rfl⟩
theorem zl_MO_76 : Cond.methodLink "PageWordsModel" 76 zy_MO_text ∈ zT := List.mem_filter.mpr ⟨List.mem_append_right _ (List.mem_of_getElem? (i := 608) (by decide +kernel)), rfl⟩
theorem zin_MO_text : Cond.instanceMethod zy_MO_text ∈ zT := List.mem_filter.mpr ⟨List.mem_append_right _ (List.mem_of_getElem? (i := 610) (by decide +kernel)), rfl⟩
theorem zl_MO_70 : Cond.methodLink "PageWordsModel" 70 zy_MO_size ∈ zT := List.mem_filter.mpr ⟨List.mem_append_right _ (List.mem_of_getElem? (i := 612) (by decide +kernel)), rfl⟩
theorem zin_MO_size : Cond.instanceMethod zy_MO_size ∈ zT := List.mem_filter.mpr ⟨List.mem_append_right _ (List.mem_of_getElem? (i := 613) (by decide +kernel)), rfl⟩
theorem zse_MO_size : Cond.selects "PageWordsModel" zy_MO_size zy_MO_size ∈ zT := List.mem_filter.mpr ⟨List.mem_append_right _ (List.mem_of_getElem? (i := 614) (by decide +kernel)), rfl⟩
theorem zl_MO_110 : Cond.methodLink "PageWordsModel" 110 zy_MO_word ∈ zT := List.mem_filter.mpr ⟨List.mem_append_right _ (List.mem_of_getElem? (i := 616) (by decide +kernel)), rfl⟩
theorem zin_MO_word : Cond.instanceMethod zy_MO_word ∈ zT := List.mem_filter.mpr ⟨List.mem_append_right _ (List.mem_of_getElem? (i := 618) (by decide +kernel)), rfl⟩
theorem zl_MO_165 : Cond.methodLink "PageWordsModel" 165 zy_MO_brace ∈ zT := List.mem_filter.mpr ⟨List.mem_append_right _ (List.mem_of_getElem? (i := 620) (by decide +kernel)), rfl⟩
theorem zin_MO_brace : Cond.instanceMethod zy_MO_brace ∈ zT := List.mem_filter.mpr ⟨List.mem_append_right _ (List.mem_of_getElem? (i := 622) (by decide +kernel)), rfl⟩
theorem zl_MO_107 : Cond.methodLink "PageWordsModel" 107 zy_MO_textOf ∈ zT := List.mem_filter.mpr ⟨List.mem_append_right _ (List.mem_of_getElem? (i := 624) (by decide +kernel)), rfl⟩
theorem zin_MO_textOf : Cond.instanceMethod zy_MO_textOf ∈ zT := List.mem_filter.mpr ⟨List.mem_append_right _ (List.mem_of_getElem? (i := 626) (by decide +kernel)), rfl⟩
theorem zl_MO_168 : Cond.methodLink "PageWordsModel" 168 zy_MO_pairs ∈ zT := List.mem_filter.mpr ⟨List.mem_append_right _ (List.mem_of_getElem? (i := 628) (by decide +kernel)), rfl⟩
theorem zin_MO_pairs : Cond.instanceMethod zy_MO_pairs ∈ zT := List.mem_filter.mpr ⟨List.mem_append_right _ (List.mem_of_getElem? (i := 630) (by decide +kernel)), rfl⟩
theorem zl_MO_127 : Cond.methodLink "PageWordsModel" 127 zy_MO_digitOf ∈ zT := List.mem_filter.mpr ⟨List.mem_append_right _ (List.mem_of_getElem? (i := 632) (by decide +kernel)), rfl⟩
theorem zst_MO_digitOf : Cond.static zy_MO_digitOf ∈ zT := List.mem_filter.mpr ⟨List.mem_append_right _ (List.mem_of_getElem? (i := 633) (by decide +kernel)), rfl⟩
theorem zl_MO_48 : Cond.methodLink "PageWordsModel" 48 zy_MO_isDigit ∈ zT := List.mem_filter.mpr ⟨List.mem_append_right _ (List.mem_of_getElem? (i := 635) (by decide +kernel)), rfl⟩
theorem zst_MO_isDigit : Cond.static zy_MO_isDigit ∈ zT := List.mem_filter.mpr ⟨List.mem_append_right _ (List.mem_of_getElem? (i := 636) (by decide +kernel)), rfl⟩
theorem zl_MO_171 : Cond.methodLink "PageWordsModel" 171 zy_MO_behindRow ∈ zT := List.mem_filter.mpr ⟨List.mem_append_right _ (List.mem_of_getElem? (i := 638) (by decide +kernel)), rfl⟩
theorem zin_MO_behindRow : Cond.instanceMethod zy_MO_behindRow ∈ zT := List.mem_filter.mpr ⟨List.mem_append_right _ (List.mem_of_getElem? (i := 640) (by decide +kernel)), rfl⟩
theorem zl_MO_159 : Cond.methodLink "PageWordsModel" 159 zy_MO_isPlain ∈ zT := List.mem_filter.mpr ⟨List.mem_append_right _ (List.mem_of_getElem? (i := 642) (by decide +kernel)), rfl⟩
theorem zst_MO_isPlain : Cond.static zy_MO_isPlain ∈ zT := List.mem_filter.mpr ⟨List.mem_append_right _ (List.mem_of_getElem? (i := 643) (by decide +kernel)), rfl⟩
theorem zl_MO_174 : Cond.methodLink "PageWordsModel" 174 zy_MO_row ∈ zT := List.mem_filter.mpr ⟨List.mem_append_right _ (List.mem_of_getElem? (i := 645) (by decide +kernel)), rfl⟩
theorem zin_MO_row : Cond.instanceMethod zy_MO_row ∈ zT := List.mem_filter.mpr ⟨List.mem_append_right _ (List.mem_of_getElem? (i := 647) (by decide +kernel)), rfl⟩
theorem zl_MO_84 : Cond.methodLink "PageWordsModel" 84 zy_MO_isSign ∈ zT := List.mem_filter.mpr ⟨List.mem_append_right _ (List.mem_of_getElem? (i := 649) (by decide +kernel)), rfl⟩
theorem zst_MO_isSign : Cond.static zy_MO_isSign ∈ zT := List.mem_filter.mpr ⟨List.mem_append_right _ (List.mem_of_getElem? (i := 650) (by decide +kernel)), rfl⟩
theorem zl_MO_87 : Cond.methodLink "PageWordsModel" 87 zy_MO_behindDigits ∈ zT := List.mem_filter.mpr ⟨List.mem_append_right _ (List.mem_of_getElem? (i := 652) (by decide +kernel)), rfl⟩
theorem zin_MO_behindDigits : Cond.instanceMethod zy_MO_behindDigits ∈ zT := List.mem_filter.mpr ⟨List.mem_append_right _ (List.mem_of_getElem? (i := 654) (by decide +kernel)), rfl⟩
theorem zl_MO_90 : Cond.methodLink "PageWordsModel" 90 zy_MO_wholeNumber ∈ zT := List.mem_filter.mpr ⟨List.mem_append_right _ (List.mem_of_getElem? (i := 656) (by decide +kernel)), rfl⟩
theorem zin_MO_wholeNumber : Cond.instanceMethod zy_MO_wholeNumber ∈ zT := List.mem_filter.mpr ⟨List.mem_append_right _ (List.mem_of_getElem? (i := 658) (by decide +kernel)), rfl⟩
theorem zk_MO_114 : Cond.constantLong "PageWordsModel" 114 (100000000000) ∈ zT := List.mem_filter.mpr ⟨List.mem_append_right _ (List.mem_of_getElem? (i := 660) (by decide +kernel)), rfl⟩
theorem zk_MO_116 : Cond.constantLong "PageWordsModel" 116 (10) ∈ zT := List.mem_filter.mpr ⟨List.mem_append_right _ (List.mem_of_getElem? (i := 661) (by decide +kernel)), rfl⟩
theorem zk_MO_118 : Cond.constantLong "PageWordsModel" 118 (48) ∈ zT := List.mem_filter.mpr ⟨List.mem_append_right _ (List.mem_of_getElem? (i := 662) (by decide +kernel)), rfl⟩
theorem zk_MO_120 : Cond.constantLong "PageWordsModel" 120 (2147483647) ∈ zT := List.mem_filter.mpr ⟨List.mem_append_right _ (List.mem_of_getElem? (i := 663) (by decide +kernel)), rfl⟩
theorem zk_MO_122 : Cond.constantLong "PageWordsModel" 122 (-2147483648) ∈ zT := List.mem_filter.mpr ⟨List.mem_append_right _ (List.mem_of_getElem? (i := 664) (by decide +kernel)), rfl⟩
theorem zl_MO_94 : Cond.methodLink "PageWordsModel" 94 zy_MO_isBased ∈ zT := List.mem_filter.mpr ⟨List.mem_append_right _ (List.mem_of_getElem? (i := 665) (by decide +kernel)), rfl⟩
theorem zin_MO_isBased : Cond.instanceMethod zy_MO_isBased ∈ zT := List.mem_filter.mpr ⟨List.mem_append_right _ (List.mem_of_getElem? (i := 667) (by decide +kernel)), rfl⟩
theorem zl_MO_124 : Cond.methodLink "PageWordsModel" 124 zy_MO_baseOf ∈ zT := List.mem_filter.mpr ⟨List.mem_append_right _ (List.mem_of_getElem? (i := 669) (by decide +kernel)), rfl⟩
theorem zin_MO_baseOf : Cond.instanceMethod zy_MO_baseOf ∈ zT := List.mem_filter.mpr ⟨List.mem_append_right _ (List.mem_of_getElem? (i := 671) (by decide +kernel)), rfl⟩
theorem zl_MO_98 : Cond.methodLink "PageWordsModel" 98 zy_MO_based ∈ zT := List.mem_filter.mpr ⟨List.mem_append_right _ (List.mem_of_getElem? (i := 673) (by decide +kernel)), rfl⟩
theorem zin_MO_based : Cond.instanceMethod zy_MO_based ∈ zT := List.mem_filter.mpr ⟨List.mem_append_right _ (List.mem_of_getElem? (i := 675) (by decide +kernel)), rfl⟩
theorem zk_MO_130 : Cond.constantLong "PageWordsModel" 130 (4294967295) ∈ zT := List.mem_filter.mpr ⟨List.mem_append_right _ (List.mem_of_getElem? (i := 677) (by decide +kernel)), rfl⟩
theorem zl_MO_101 : Cond.methodLink "PageWordsModel" 101 zy_MO_isReal ∈ zT := List.mem_filter.mpr ⟨List.mem_append_right _ (List.mem_of_getElem? (i := 678) (by decide +kernel)), rfl⟩
theorem zin_MO_isReal : Cond.instanceMethod zy_MO_isReal ∈ zT := List.mem_filter.mpr ⟨List.mem_append_right _ (List.mem_of_getElem? (i := 680) (by decide +kernel)), rfl⟩
theorem zl_MO_104 : Cond.methodLink "PageWordsModel" 104 zy_MO_real ∈ zT := List.mem_filter.mpr ⟨List.mem_append_right _ (List.mem_of_getElem? (i := 682) (by decide +kernel)), rfl⟩
theorem zin_MO_real : Cond.instanceMethod zy_MO_real ∈ zT := List.mem_filter.mpr ⟨List.mem_append_right _ (List.mem_of_getElem? (i := 684) (by decide +kernel)), rfl⟩
theorem zl_MO_132 : Cond.methodLink "PageWordsModel" 132 zy_MO_read ∈ zT := List.mem_filter.mpr ⟨List.mem_append_right _ (List.mem_of_getElem? (i := 686) (by decide +kernel)), rfl⟩
theorem zin_MO_read : Cond.instanceMethod zy_MO_read ∈ zT := List.mem_filter.mpr ⟨List.mem_append_right _ (List.mem_of_getElem? (i := 688) (by decide +kernel)), rfl⟩
theorem zk_MO_149 : Cond.constant "PageWordsModel" 149 (100000) ∈ zT := List.mem_filter.mpr ⟨List.mem_append_right _ (List.mem_of_getElem? (i := 690) (by decide +kernel)), rfl⟩
theorem zk_MO_142 : Cond.constantLong "PageWordsModel" 142 (65536) ∈ zT := List.mem_filter.mpr ⟨List.mem_append_right _ (List.mem_of_getElem? (i := 691) (by decide +kernel)), rfl⟩
theorem zk_MO_144 : Cond.constantLong "PageWordsModel" 144 (2) ∈ zT := List.mem_filter.mpr ⟨List.mem_append_right _ (List.mem_of_getElem? (i := 692) (by decide +kernel)), rfl⟩
theorem zl_MO_146 : Cond.methodLink "PageWordsModel" 146 zy_MO_twice ∈ zT := List.mem_filter.mpr ⟨List.mem_append_right _ (List.mem_of_getElem? (i := 693) (by decide +kernel)), rfl⟩
theorem zin_MO_twice : Cond.instanceMethod zy_MO_twice ∈ zT := List.mem_filter.mpr ⟨List.mem_append_right _ (List.mem_of_getElem? (i := 695) (by decide +kernel)), rfl⟩
theorem zl_LW_28 : Cond.methodLink "PageWordsLaw" 28 zy_MO_place ∈ zT := List.mem_filter.mpr ⟨List.mem_append_right _ (List.mem_of_getElem? (i := 697) (by decide +kernel)), rfl⟩
theorem zin_MO_place : Cond.instanceMethod zy_MO_place ∈ zT := List.mem_filter.mpr ⟨List.mem_append_right _ (List.mem_of_getElem? (i := 698) (by decide +kernel)), rfl⟩
theorem zse_MO_place : Cond.selects "PageWordsModel" zy_MO_place zy_MO_place ∈ zT := List.mem_filter.mpr ⟨List.mem_append_right _ (List.mem_of_getElem? (i := 699) (by decide +kernel)), rfl⟩
theorem zl_LW_32 : Cond.methodLink "PageWordsLaw" 32 zy_MO_words ∈ zT := List.mem_filter.mpr ⟨List.mem_append_right _ (List.mem_of_getElem? (i := 701) (by decide +kernel)), rfl⟩
theorem zin_MO_words : Cond.instanceMethod zy_MO_words ∈ zT := List.mem_filter.mpr ⟨List.mem_append_right _ (List.mem_of_getElem? (i := 702) (by decide +kernel)), rfl⟩
theorem zse_MO_words : Cond.selects "PageWordsModel" zy_MO_words zy_MO_words ∈ zT := List.mem_filter.mpr ⟨List.mem_append_right _ (List.mem_of_getElem? (i := 703) (by decide +kernel)), rfl⟩
theorem zl_LW_37 : Cond.methodLink "PageWordsLaw" 37 zy_MO_kind ∈ zT := List.mem_filter.mpr ⟨List.mem_append_right _ (List.mem_of_getElem? (i := 705) (by decide +kernel)), rfl⟩
theorem zin_MO_kind : Cond.instanceMethod zy_MO_kind ∈ zT := List.mem_filter.mpr ⟨List.mem_append_right _ (List.mem_of_getElem? (i := 706) (by decide +kernel)), rfl⟩
theorem zse_MO_kind : Cond.selects "PageWordsModel" zy_MO_kind zy_MO_kind ∈ zT := List.mem_filter.mpr ⟨List.mem_append_right _ (List.mem_of_getElem? (i := 707) (by decide +kernel)), rfl⟩
theorem zl_MO_183 : Cond.methodLink "PageWordsModel" 183 zy_MO_isWord ∈ zT := List.mem_filter.mpr ⟨List.mem_append_right _ (List.mem_of_getElem? (i := 709) (by decide +kernel)), rfl⟩
theorem zin_MO_isWord : Cond.instanceMethod zy_MO_isWord ∈ zT := List.mem_filter.mpr ⟨List.mem_append_right _ (List.mem_of_getElem? (i := 711) (by decide +kernel)), rfl⟩
theorem zl_LW_41 : Cond.methodLink "PageWordsLaw" 41 zy_MO_number ∈ zT := List.mem_filter.mpr ⟨List.mem_append_right _ (List.mem_of_getElem? (i := 713) (by decide +kernel)), rfl⟩
theorem zin_MO_number : Cond.instanceMethod zy_MO_number ∈ zT := List.mem_filter.mpr ⟨List.mem_append_right _ (List.mem_of_getElem? (i := 714) (by decide +kernel)), rfl⟩
theorem zse_MO_number : Cond.selects "PageWordsModel" zy_MO_number zy_MO_number ∈ zT := List.mem_filter.mpr ⟨List.mem_append_right _ (List.mem_of_getElem? (i := 715) (by decide +kernel)), rfl⟩
theorem zl_LW_45 : Cond.methodLink "PageWordsLaw" 45 zy_MO_begin ∈ zT := List.mem_filter.mpr ⟨List.mem_append_right _ (List.mem_of_getElem? (i := 717) (by decide +kernel)), rfl⟩
theorem zin_MO_begin : Cond.instanceMethod zy_MO_begin ∈ zT := List.mem_filter.mpr ⟨List.mem_append_right _ (List.mem_of_getElem? (i := 718) (by decide +kernel)), rfl⟩
theorem zse_MO_begin : Cond.selects "PageWordsModel" zy_MO_begin zy_MO_begin ∈ zT := List.mem_filter.mpr ⟨List.mem_append_right _ (List.mem_of_getElem? (i := 719) (by decide +kernel)), rfl⟩
theorem zl_LW_49 : Cond.methodLink "PageWordsLaw" 49 zy_MO_texts ∈ zT := List.mem_filter.mpr ⟨List.mem_append_right _ (List.mem_of_getElem? (i := 721) (by decide +kernel)), rfl⟩
theorem zin_MO_texts : Cond.instanceMethod zy_MO_texts ∈ zT := List.mem_filter.mpr ⟨List.mem_append_right _ (List.mem_of_getElem? (i := 722) (by decide +kernel)), rfl⟩
theorem zse_MO_texts : Cond.selects "PageWordsModel" zy_MO_texts zy_MO_texts ∈ zT := List.mem_filter.mpr ⟨List.mem_append_right _ (List.mem_of_getElem? (i := 723) (by decide +kernel)), rfl⟩
theorem zl_LW_53 : Cond.methodLink "PageWordsLaw" 53 zy_MO_size ∈ zT := List.mem_filter.mpr ⟨List.mem_append_right _ (List.mem_of_getElem? (i := 725) (by decide +kernel)), rfl⟩
theorem zl_LW_58 : Cond.methodLink "PageWordsLaw" 58 zy_MO_at ∈ zT := List.mem_filter.mpr ⟨List.mem_append_right _ (List.mem_of_getElem? (i := 726) (by decide +kernel)), rfl⟩
theorem zin_MO_at : Cond.instanceMethod zy_MO_at ∈ zT := List.mem_filter.mpr ⟨List.mem_append_right _ (List.mem_of_getElem? (i := 727) (by decide +kernel)), rfl⟩
theorem zse_MO_at : Cond.selects "PageWordsModel" zy_MO_at zy_MO_at ∈ zT := List.mem_filter.mpr ⟨List.mem_append_right _ (List.mem_of_getElem? (i := 728) (by decide +kernel)), rfl⟩
theorem zk_LW_13 : Cond.constantLong "PageWordsLaw" 13 (4294967295) ∈ zT := List.mem_filter.mpr ⟨List.mem_append_right _ (List.mem_of_getElem? (i := 730) (by decide +kernel)), rfl⟩
set_option maxRecDepth 100000 in
theorem zcal_PW_new : zCal zy_PW_new zm_PW_new 0 := ⟨List.mem_filter.mpr ⟨List.mem_append_right _ (List.mem_of_getElem? (i := 16) rfl), rfl⟩, zini_PW, by decide +kernel⟩
set_option maxRecDepth 100000 in
theorem zcal_BR_new : zCal zy_BR_new zm_BR_new 0 := ⟨List.mem_filter.mpr ⟨List.mem_append_right _ (List.mem_of_getElem? (i := 24) rfl), rfl⟩, zini_BR, by decide +kernel⟩
set_option maxRecDepth 100000 in
theorem zcal_WL_new : zCal zy_WL_new zm_WL_new 0 := ⟨List.mem_filter.mpr ⟨List.mem_append_right _ (List.mem_of_getElem? (i := 38) rfl), rfl⟩, zini_WL, by decide +kernel⟩
set_option maxRecDepth 100000 in
theorem zcal_IR_new : zCal zy_IR_new zm_IR_new 1 := ⟨List.mem_filter.mpr ⟨List.mem_append_right _ (List.mem_of_getElem? (i := 44) rfl), rfl⟩, zini_IR, by decide +kernel⟩
set_option maxRecDepth 100000 in
theorem zcal_TS_new : zCal zy_TS_new zm_TS_new 0 := ⟨List.mem_filter.mpr ⟨List.mem_append_right _ (List.mem_of_getElem? (i := 71) rfl), rfl⟩, zini_TS, by decide +kernel⟩
set_option maxRecDepth 100000 in
theorem zcal_AR_fill : zCal zy_AR_fill zm_AR_fill 2 := ⟨List.mem_filter.mpr ⟨List.mem_append_right _ (List.mem_of_getElem? (i := 79) rfl), rfl⟩, zini_AR, by decide +kernel⟩
set_option maxRecDepth 100000 in
theorem zcal_NU_new : zCal zy_NU_new zm_NU_new 0 := ⟨List.mem_filter.mpr ⟨List.mem_append_right _ (List.mem_of_getElem? (i := 108) rfl), rfl⟩, zini_NU, by decide +kernel⟩
set_option maxRecDepth 100000 in
theorem zcal_PW_type : zCal zy_PW_type zm_PW_type 2 := ⟨List.mem_filter.mpr ⟨List.mem_append_right _ (List.mem_of_getElem? (i := 163) rfl), rfl⟩, zini_PW, by decide +kernel⟩
set_option maxRecDepth 100000 in
theorem zcal_BR_count : zCal zy_BR_count zm_BR_count 0 := ⟨List.mem_filter.mpr ⟨List.mem_append_right _ (List.mem_of_getElem? (i := 167) rfl), rfl⟩, zini_BR, by decide +kernel⟩
set_option maxRecDepth 100000 in
theorem zcal_BR_add : zCal zy_BR_add zm_BR_add 1 := ⟨List.mem_filter.mpr ⟨List.mem_append_right _ (List.mem_of_getElem? (i := 172) rfl), rfl⟩, zini_BR, by decide +kernel⟩
set_option maxRecDepth 100000 in
theorem zcal_AR_copyOfB : zCal zy_AR_copyOfB zm_AR_copyOfB 2 := ⟨List.mem_filter.mpr ⟨List.mem_append_right _ (List.mem_of_getElem? (i := 176) rfl), rfl⟩, zini_AR, by decide +kernel⟩
set_option maxRecDepth 100000 in
theorem zcal_PW_cut : zCal zy_PW_cut zm_PW_cut 0 := ⟨List.mem_filter.mpr ⟨List.mem_append_right _ (List.mem_of_getElem? (i := 193) rfl), rfl⟩, zini_PW, by decide +kernel⟩
set_option maxRecDepth 100000 in
theorem zcal_PW_startAnew : zCal zy_PW_startAnew zm_PW_startAnew 1 := ⟨List.mem_filter.mpr ⟨List.mem_append_right _ (List.mem_of_getElem? (i := 197) rfl), rfl⟩, zini_PW, by decide +kernel⟩
theorem zse_PW_startAnew : Cond.selects "PageWords" zy_PW_startAnew zy_PW_startAnew ∈ zT := List.mem_filter.mpr ⟨List.mem_append_left _ (by decide +kernel), rfl⟩
set_option maxRecDepth 100000 in
theorem zcal_WL_forget : zCal zy_WL_forget zm_WL_forget 0 := ⟨List.mem_filter.mpr ⟨List.mem_append_right _ (List.mem_of_getElem? (i := 201) rfl), rfl⟩, zini_WL, by decide +kernel⟩
set_option maxRecDepth 100000 in
theorem zcal_IR_shorten : zCal zy_IR_shorten zm_IR_shorten 1 := ⟨List.mem_filter.mpr ⟨List.mem_append_right _ (List.mem_of_getElem? (i := 205) rfl), rfl⟩, zini_IR, by decide +kernel⟩
set_option maxRecDepth 100000 in
theorem zcal_TS_forget : zCal zy_TS_forget zm_TS_forget 0 := ⟨List.mem_filter.mpr ⟨List.mem_append_right _ (List.mem_of_getElem? (i := 209) rfl), rfl⟩, zini_TS, by decide +kernel⟩
set_option maxRecDepth 100000 in
theorem zcal_TS_count : zCal zy_TS_count zm_TS_count 0 := ⟨List.mem_filter.mpr ⟨List.mem_append_right _ (List.mem_of_getElem? (i := 213) rfl), rfl⟩, zini_TS, by decide +kernel⟩
set_option maxRecDepth 100000 in
theorem zcal_IR_count : zCal zy_IR_count zm_IR_count 0 := ⟨List.mem_filter.mpr ⟨List.mem_append_right _ (List.mem_of_getElem? (i := 217) rfl), rfl⟩, zini_IR, by decide +kernel⟩
set_option maxRecDepth 100000 in
theorem zcal_IR_get : zCal zy_IR_get zm_IR_get 1 := ⟨List.mem_filter.mpr ⟨List.mem_append_right _ (List.mem_of_getElem? (i := 221) rfl), rfl⟩, zini_IR, by decide +kernel⟩
set_option maxRecDepth 100000 in
theorem zcal_TS_bucketOf : zCal zy_TS_bucketOf zm_TS_bucketOf 1 := ⟨List.mem_filter.mpr ⟨List.mem_append_right _ (List.mem_of_getElem? (i := 224) rfl), rfl⟩, zini_TS, by decide +kernel⟩
set_option maxRecDepth 100000 in
theorem zcal_BR_shorten : zCal zy_BR_shorten zm_BR_shorten 1 := ⟨List.mem_filter.mpr ⟨List.mem_append_right _ (List.mem_of_getElem? (i := 228) rfl), rfl⟩, zini_BR, by decide +kernel⟩
set_option maxRecDepth 100000 in
theorem zcal_PW_leaveOut : zCal zy_PW_leaveOut zm_PW_leaveOut 0 := ⟨List.mem_filter.mpr ⟨List.mem_append_right _ (List.mem_of_getElem? (i := 234) rfl), rfl⟩, zini_PW, by decide +kernel⟩
theorem zse_PW_leaveOut : Cond.selects "PageWords" zy_PW_leaveOut zy_PW_leaveOut ∈ zT := List.mem_filter.mpr ⟨List.mem_append_left _ (by decide +kernel), rfl⟩
set_option maxRecDepth 100000 in
theorem zcal_BR_get : zCal zy_BR_get zm_BR_get 1 := ⟨List.mem_filter.mpr ⟨List.mem_append_right _ (List.mem_of_getElem? (i := 238) rfl), rfl⟩, zini_BR, by decide +kernel⟩
set_option maxRecDepth 100000 in
theorem zcal_PW_isBlank : zCal zy_PW_isBlank zm_PW_isBlank 1 := ⟨List.mem_filter.mpr ⟨List.mem_append_right _ (List.mem_of_getElem? (i := 241) rfl), rfl⟩, zini_PW, by decide +kernel⟩
set_option maxRecDepth 100000 in
theorem zcal_PW_skipComment : zCal zy_PW_skipComment zm_PW_skipComment 0 := ⟨List.mem_filter.mpr ⟨List.mem_append_right _ (List.mem_of_getElem? (i := 245) rfl), rfl⟩, zini_PW, by decide +kernel⟩
theorem zse_PW_skipComment : Cond.selects "PageWords" zy_PW_skipComment zy_PW_skipComment ∈ zT := List.mem_filter.mpr ⟨List.mem_append_left _ (by decide +kernel), rfl⟩
set_option maxRecDepth 100000 in
theorem zcal_PW_isLineEnd : zCal zy_PW_isLineEnd zm_PW_isLineEnd 1 := ⟨List.mem_filter.mpr ⟨List.mem_append_right _ (List.mem_of_getElem? (i := 248) rfl), rfl⟩, zini_PW, by decide +kernel⟩
set_option maxRecDepth 100000 in
theorem zcal_PW_cutWord : zCal zy_PW_cutWord zm_PW_cutWord 0 := ⟨List.mem_filter.mpr ⟨List.mem_append_right _ (List.mem_of_getElem? (i := 252) rfl), rfl⟩, zini_PW, by decide +kernel⟩
theorem zse_PW_cutWord : Cond.selects "PageWords" zy_PW_cutWord zy_PW_cutWord ∈ zT := List.mem_filter.mpr ⟨List.mem_append_left _ (by decide +kernel), rfl⟩
set_option maxRecDepth 100000 in
theorem zcal_WL_count : zCal zy_WL_count zm_WL_count 0 := ⟨List.mem_filter.mpr ⟨List.mem_append_right _ (List.mem_of_getElem? (i := 256) rfl), rfl⟩, zini_WL, by decide +kernel⟩
set_option maxRecDepth 100000 in
theorem zcal_PW_goWrong : zCal zy_PW_goWrong zm_PW_goWrong 2 := ⟨List.mem_filter.mpr ⟨List.mem_append_right _ (List.mem_of_getElem? (i := 261) rfl), rfl⟩, zini_PW, by decide +kernel⟩
theorem zse_PW_goWrong : Cond.selects "PageWords" zy_PW_goWrong zy_PW_goWrong ∈ zT := List.mem_filter.mpr ⟨List.mem_append_left _ (by decide +kernel), rfl⟩
set_option maxRecDepth 100000 in
theorem zcal_PW_cutBracketText : zCal zy_PW_cutBracketText zm_PW_cutBracketText 0 := ⟨List.mem_filter.mpr ⟨List.mem_append_right _ (List.mem_of_getElem? (i := 265) rfl), rfl⟩, zini_PW, by decide +kernel⟩
theorem zse_PW_cutBracketText : Cond.selects "PageWords" zy_PW_cutBracketText zy_PW_cutBracketText ∈ zT := List.mem_filter.mpr ⟨List.mem_append_left _ (by decide +kernel), rfl⟩
set_option maxRecDepth 100000 in
theorem zcal_PW_takeEscaped : zCal zy_PW_takeEscaped zm_PW_takeEscaped 0 := ⟨List.mem_filter.mpr ⟨List.mem_append_right _ (List.mem_of_getElem? (i := 269) rfl), rfl⟩, zini_PW, by decide +kernel⟩
theorem zse_PW_takeEscaped : Cond.selects "PageWords" zy_PW_takeEscaped zy_PW_takeEscaped ∈ zT := List.mem_filter.mpr ⟨List.mem_append_left _ (by decide +kernel), rfl⟩
set_option maxRecDepth 100000 in
theorem zcal_PW_skipLineEnd : zCal zy_PW_skipLineEnd zm_PW_skipLineEnd 0 := ⟨List.mem_filter.mpr ⟨List.mem_append_right _ (List.mem_of_getElem? (i := 273) rfl), rfl⟩, zini_PW, by decide +kernel⟩
theorem zse_PW_skipLineEnd : Cond.selects "PageWords" zy_PW_skipLineEnd zy_PW_skipLineEnd ∈ zT := List.mem_filter.mpr ⟨List.mem_append_left _ (by decide +kernel), rfl⟩
set_option maxRecDepth 100000 in
theorem zcal_PW_isOctal : zCal zy_PW_isOctal zm_PW_isOctal 1 := ⟨List.mem_filter.mpr ⟨List.mem_append_right _ (List.mem_of_getElem? (i := 276) rfl), rfl⟩, zini_PW, by decide +kernel⟩
set_option maxRecDepth 100000 in
theorem zcal_PW_readOctal : zCal zy_PW_readOctal zm_PW_readOctal 0 := ⟨List.mem_filter.mpr ⟨List.mem_append_right _ (List.mem_of_getElem? (i := 280) rfl), rfl⟩, zini_PW, by decide +kernel⟩
theorem zse_PW_readOctal : Cond.selects "PageWords" zy_PW_readOctal zy_PW_readOctal ∈ zT := List.mem_filter.mpr ⟨List.mem_append_left _ (by decide +kernel), rfl⟩
set_option maxRecDepth 100000 in
theorem zcal_TS_put : zCal zy_TS_put zm_TS_put 1 := ⟨List.mem_filter.mpr ⟨List.mem_append_right _ (List.mem_of_getElem? (i := 284) rfl), rfl⟩, zini_TS, by decide +kernel⟩
set_option maxRecDepth 100000 in
theorem zcal_PW_meant : zCal zy_PW_meant zm_PW_meant 1 := ⟨List.mem_filter.mpr ⟨List.mem_append_right _ (List.mem_of_getElem? (i := 288) rfl), rfl⟩, zini_PW, by decide +kernel⟩
set_option maxRecDepth 100000 in
theorem zcal_PW_endText : zCal zy_PW_endText zm_PW_endText 2 := ⟨List.mem_filter.mpr ⟨List.mem_append_right _ (List.mem_of_getElem? (i := 292) rfl), rfl⟩, zini_PW, by decide +kernel⟩
theorem zse_PW_endText : Cond.selects "PageWords" zy_PW_endText zy_PW_endText ∈ zT := List.mem_filter.mpr ⟨List.mem_append_left _ (by decide +kernel), rfl⟩
set_option maxRecDepth 100000 in
theorem zcal_TS_keep : zCal zy_TS_keep zm_TS_keep 0 := ⟨List.mem_filter.mpr ⟨List.mem_append_right _ (List.mem_of_getElem? (i := 296) rfl), rfl⟩, zini_TS, by decide +kernel⟩
set_option maxRecDepth 100000 in
theorem zcal_TS_hashOfNew : zCal zy_TS_hashOfNew zm_TS_hashOfNew 0 := ⟨List.mem_filter.mpr ⟨List.mem_append_right _ (List.mem_of_getElem? (i := 300) rfl), rfl⟩, zini_TS, by decide +kernel⟩
theorem zse_TS_hashOfNew : Cond.selects "PageWords$TextStore" zy_TS_hashOfNew zy_TS_hashOfNew ∈ zT := List.mem_filter.mpr ⟨List.mem_append_left _ (by decide +kernel), rfl⟩
set_option maxRecDepth 100000 in
theorem zcal_TS_equalsNew : zCal zy_TS_equalsNew zm_TS_equalsNew 1 := ⟨List.mem_filter.mpr ⟨List.mem_append_right _ (List.mem_of_getElem? (i := 306) rfl), rfl⟩, zini_TS, by decide +kernel⟩
theorem zse_TS_equalsNew : Cond.selects "PageWords$TextStore" zy_TS_equalsNew zy_TS_equalsNew ∈ zT := List.mem_filter.mpr ⟨List.mem_append_left _ (by decide +kernel), rfl⟩
set_option maxRecDepth 100000 in
theorem zcal_IR_add : zCal zy_IR_add zm_IR_add 1 := ⟨List.mem_filter.mpr ⟨List.mem_append_right _ (List.mem_of_getElem? (i := 310) rfl), rfl⟩, zini_IR, by decide +kernel⟩
set_option maxRecDepth 100000 in
theorem zcal_AR_copyOfI : zCal zy_AR_copyOfI zm_AR_copyOfI 2 := ⟨List.mem_filter.mpr ⟨List.mem_append_right _ (List.mem_of_getElem? (i := 313) rfl), rfl⟩, zini_AR, by decide +kernel⟩
set_option maxRecDepth 100000 in
theorem zcal_WL_add : zCal zy_WL_add zm_WL_add 3 := ⟨List.mem_filter.mpr ⟨List.mem_append_right _ (List.mem_of_getElem? (i := 322) rfl), rfl⟩, zini_WL, by decide +kernel⟩
set_option maxRecDepth 100000 in
theorem zcal_PW_cutAngle : zCal zy_PW_cutAngle zm_PW_cutAngle 0 := ⟨List.mem_filter.mpr ⟨List.mem_append_right _ (List.mem_of_getElem? (i := 327) rfl), rfl⟩, zini_PW, by decide +kernel⟩
theorem zse_PW_cutAngle : Cond.selects "PageWords" zy_PW_cutAngle zy_PW_cutAngle ∈ zT := List.mem_filter.mpr ⟨List.mem_append_left _ (by decide +kernel), rfl⟩
set_option maxRecDepth 100000 in
theorem zcal_PW_addName : zCal zy_PW_addName zm_PW_addName 4 := ⟨List.mem_filter.mpr ⟨List.mem_append_right _ (List.mem_of_getElem? (i := 331) rfl), rfl⟩, zini_PW, by decide +kernel⟩
theorem zse_PW_addName : Cond.selects "PageWords" zy_PW_addName zy_PW_addName ∈ zT := List.mem_filter.mpr ⟨List.mem_append_left _ (by decide +kernel), rfl⟩
set_option maxRecDepth 100000 in
theorem zcal_PW_cutDigitText : zCal zy_PW_cutDigitText zm_PW_cutDigitText 0 := ⟨List.mem_filter.mpr ⟨List.mem_append_right _ (List.mem_of_getElem? (i := 335) rfl), rfl⟩, zini_PW, by decide +kernel⟩
theorem zse_PW_cutDigitText : Cond.selects "PageWords" zy_PW_cutDigitText zy_PW_cutDigitText ∈ zT := List.mem_filter.mpr ⟨List.mem_append_left _ (by decide +kernel), rfl⟩
set_option maxRecDepth 100000 in
theorem zcal_PW_digitValue : zCal zy_PW_digitValue zm_PW_digitValue 1 := ⟨List.mem_filter.mpr ⟨List.mem_append_right _ (List.mem_of_getElem? (i := 338) rfl), rfl⟩, zini_PW, by decide +kernel⟩
set_option maxRecDepth 100000 in
theorem zcal_PW_cutOpenBrace : zCal zy_PW_cutOpenBrace zm_PW_cutOpenBrace 0 := ⟨List.mem_filter.mpr ⟨List.mem_append_right _ (List.mem_of_getElem? (i := 342) rfl), rfl⟩, zini_PW, by decide +kernel⟩
theorem zse_PW_cutOpenBrace : Cond.selects "PageWords" zy_PW_cutOpenBrace zy_PW_cutOpenBrace ∈ zT := List.mem_filter.mpr ⟨List.mem_append_left _ (by decide +kernel), rfl⟩
set_option maxRecDepth 100000 in
theorem zcal_PW_cutCloseBrace : zCal zy_PW_cutCloseBrace zm_PW_cutCloseBrace 0 := ⟨List.mem_filter.mpr ⟨List.mem_append_right _ (List.mem_of_getElem? (i := 348) rfl), rfl⟩, zini_PW, by decide +kernel⟩
theorem zse_PW_cutCloseBrace : Cond.selects "PageWords" zy_PW_cutCloseBrace zy_PW_cutCloseBrace ∈ zT := List.mem_filter.mpr ⟨List.mem_append_left _ (by decide +kernel), rfl⟩
set_option maxRecDepth 100000 in
theorem zcal_WL_setNumber : zCal zy_WL_setNumber zm_WL_setNumber 2 := ⟨List.mem_filter.mpr ⟨List.mem_append_right _ (List.mem_of_getElem? (i := 353) rfl), rfl⟩, zini_WL, by decide +kernel⟩
set_option maxRecDepth 100000 in
theorem zcal_IR_set : zCal zy_IR_set zm_IR_set 2 := ⟨List.mem_filter.mpr ⟨List.mem_append_right _ (List.mem_of_getElem? (i := 357) rfl), rfl⟩, zini_IR, by decide +kernel⟩
set_option maxRecDepth 100000 in
theorem zcal_PW_cutNameItself : zCal zy_PW_cutNameItself zm_PW_cutNameItself 0 := ⟨List.mem_filter.mpr ⟨List.mem_append_right _ (List.mem_of_getElem? (i := 361) rfl), rfl⟩, zini_PW, by decide +kernel⟩
theorem zse_PW_cutNameItself : Cond.selects "PageWords" zy_PW_cutNameItself zy_PW_cutNameItself ∈ zT := List.mem_filter.mpr ⟨List.mem_append_left _ (by decide +kernel), rfl⟩
set_option maxRecDepth 100000 in
theorem zcal_PW_rowEnd : zCal zy_PW_rowEnd zm_PW_rowEnd 1 := ⟨List.mem_filter.mpr ⟨List.mem_append_right _ (List.mem_of_getElem? (i := 365) rfl), rfl⟩, zini_PW, by decide +kernel⟩
theorem zse_PW_rowEnd : Cond.selects "PageWords" zy_PW_rowEnd zy_PW_rowEnd ∈ zT := List.mem_filter.mpr ⟨List.mem_append_left _ (by decide +kernel), rfl⟩
set_option maxRecDepth 100000 in
theorem zcal_PW_isPlain : zCal zy_PW_isPlain zm_PW_isPlain 1 := ⟨List.mem_filter.mpr ⟨List.mem_append_right _ (List.mem_of_getElem? (i := 368) rfl), rfl⟩, zini_PW, by decide +kernel⟩
set_option maxRecDepth 100000 in
theorem zcal_PW_isMark : zCal zy_PW_isMark zm_PW_isMark 1 := ⟨List.mem_filter.mpr ⟨List.mem_append_right _ (List.mem_of_getElem? (i := 371) rfl), rfl⟩, zini_PW, by decide +kernel⟩
set_option maxRecDepth 100000 in
theorem zcal_PW_cutRow : zCal zy_PW_cutRow zm_PW_cutRow 0 := ⟨List.mem_filter.mpr ⟨List.mem_append_right _ (List.mem_of_getElem? (i := 375) rfl), rfl⟩, zini_PW, by decide +kernel⟩
theorem zse_PW_cutRow : Cond.selects "PageWords" zy_PW_cutRow zy_PW_cutRow ∈ zT := List.mem_filter.mpr ⟨List.mem_append_left _ (by decide +kernel), rfl⟩
set_option maxRecDepth 100000 in
theorem zcal_NU_read : zCal zy_NU_read zm_NU_read 3 := ⟨List.mem_filter.mpr ⟨List.mem_append_right _ (List.mem_of_getElem? (i := 379) rfl), rfl⟩, zini_NU, by decide +kernel⟩
set_option maxRecDepth 100000 in
theorem zcal_NU_isSign : zCal zy_NU_isSign zm_NU_isSign 1 := ⟨List.mem_filter.mpr ⟨List.mem_append_right _ (List.mem_of_getElem? (i := 383) rfl), rfl⟩, zini_NU, by decide +kernel⟩
set_option maxRecDepth 100000 in
theorem zcal_NU_skipDigits : zCal zy_NU_skipDigits zm_NU_skipDigits 3 := ⟨List.mem_filter.mpr ⟨List.mem_append_right _ (List.mem_of_getElem? (i := 386) rfl), rfl⟩, zini_NU, by decide +kernel⟩
set_option maxRecDepth 100000 in
theorem zcal_NU_isDigit : zCal zy_NU_isDigit zm_NU_isDigit 1 := ⟨List.mem_filter.mpr ⟨List.mem_append_right _ (List.mem_of_getElem? (i := 389) rfl), rfl⟩, zini_NU, by decide +kernel⟩
set_option maxRecDepth 100000 in
theorem zcal_NU_readWhole : zCal zy_NU_readWhole zm_NU_readWhole 1 := ⟨List.mem_filter.mpr ⟨List.mem_append_right _ (List.mem_of_getElem? (i := 393) rfl), rfl⟩, zini_NU, by decide +kernel⟩
theorem zse_NU_readWhole : Cond.selects "PageWords$Numeral" zy_NU_readWhole zy_NU_readWhole ∈ zT := List.mem_filter.mpr ⟨List.mem_append_left _ (by decide +kernel), rfl⟩
set_option maxRecDepth 100000 in
theorem zcal_NU_sumDigits : zCal zy_NU_sumDigits zm_NU_sumDigits 4 := ⟨List.mem_filter.mpr ⟨List.mem_append_right _ (List.mem_of_getElem? (i := 396) rfl), rfl⟩, zini_NU, by decide +kernel⟩
set_option maxRecDepth 100000 in
theorem zcal_NU_readWithBase : zCal zy_NU_readWithBase zm_NU_readWithBase 2 := ⟨List.mem_filter.mpr ⟨List.mem_append_right _ (List.mem_of_getElem? (i := 406) rfl), rfl⟩, zini_NU, by decide +kernel⟩
theorem zse_NU_readWithBase : Cond.selects "PageWords$Numeral" zy_NU_readWithBase zy_NU_readWithBase ∈ zT := List.mem_filter.mpr ⟨List.mem_append_left _ (by decide +kernel), rfl⟩
set_option maxRecDepth 100000 in
theorem zcal_NU_findFraction : zCal zy_NU_findFraction zm_NU_findFraction 2 := ⟨List.mem_filter.mpr ⟨List.mem_append_right _ (List.mem_of_getElem? (i := 410) rfl), rfl⟩, zini_NU, by decide +kernel⟩
theorem zse_NU_findFraction : Cond.selects "PageWords$Numeral" zy_NU_findFraction zy_NU_findFraction ∈ zT := List.mem_filter.mpr ⟨List.mem_append_left _ (by decide +kernel), rfl⟩
set_option maxRecDepth 100000 in
theorem zcal_NU_findExponent : zCal zy_NU_findExponent zm_NU_findExponent 2 := ⟨List.mem_filter.mpr ⟨List.mem_append_right _ (List.mem_of_getElem? (i := 414) rfl), rfl⟩, zini_NU, by decide +kernel⟩
theorem zse_NU_findExponent : Cond.selects "PageWords$Numeral" zy_NU_findExponent zy_NU_findExponent ∈ zT := List.mem_filter.mpr ⟨List.mem_append_left _ (by decide +kernel), rfl⟩
set_option maxRecDepth 100000 in
theorem zcal_NU_readReal : zCal zy_NU_readReal zm_NU_readReal 1 := ⟨List.mem_filter.mpr ⟨List.mem_append_right _ (List.mem_of_getElem? (i := 419) rfl), rfl⟩, zini_NU, by decide +kernel⟩
theorem zse_NU_readReal : Cond.selects "PageWords$Numeral" zy_NU_readReal zy_NU_readReal ∈ zT := List.mem_filter.mpr ⟨List.mem_append_left _ (by decide +kernel), rfl⟩
set_option maxRecDepth 100000 in
theorem zcal_NU_placeDigits : zCal zy_NU_placeDigits zm_NU_placeDigits 1 := ⟨List.mem_filter.mpr ⟨List.mem_append_right _ (List.mem_of_getElem? (i := 423) rfl), rfl⟩, zini_NU, by decide +kernel⟩
theorem zse_NU_placeDigits : Cond.selects "PageWords$Numeral" zy_NU_placeDigits zy_NU_placeDigits ∈ zT := List.mem_filter.mpr ⟨List.mem_append_left _ (by decide +kernel), rfl⟩
set_option maxRecDepth 100000 in
theorem zcal_NU_multiplyFraction : zCal zy_NU_multiplyFraction zm_NU_multiplyFraction 0 := ⟨List.mem_filter.mpr ⟨List.mem_append_right _ (List.mem_of_getElem? (i := 431) rfl), rfl⟩, zini_NU, by decide +kernel⟩
theorem zse_NU_multiplyFraction : Cond.selects "PageWords$Numeral" zy_NU_multiplyFraction zy_NU_multiplyFraction ∈ zT := List.mem_filter.mpr ⟨List.mem_append_left _ (by decide +kernel), rfl⟩
set_option maxRecDepth 100000 in
theorem zcal_NU_compareFractionToHalf : zCal zy_NU_compareFractionToHalf zm_NU_compareFractionToHalf 0 := ⟨List.mem_filter.mpr ⟨List.mem_append_right _ (List.mem_of_getElem? (i := 436) rfl), rfl⟩, zini_NU, by decide +kernel⟩
theorem zse_NU_compareFractionToHalf : Cond.selects "PageWords$Numeral" zy_NU_compareFractionToHalf zy_NU_compareFractionToHalf ∈ zT := List.mem_filter.mpr ⟨List.mem_append_left _ (by decide +kernel), rfl⟩
set_option maxRecDepth 100000 in
theorem zcal_IG_compare : zCal zy_IG_compare zm_IG_compare 2 := ⟨List.mem_filter.mpr ⟨List.mem_append_right _ (List.mem_of_getElem? (i := 439) rfl), rfl⟩, zini_IG, by decide +kernel⟩
set_option maxRecDepth 100000 in
theorem zcal_NU_fits : zCal zy_NU_fits zm_NU_fits 0 := ⟨List.mem_filter.mpr ⟨List.mem_append_right _ (List.mem_of_getElem? (i := 443) rfl), rfl⟩, zini_NU, by decide +kernel⟩
set_option maxRecDepth 100000 in
theorem zcal_NU_value : zCal zy_NU_value zm_NU_value 0 := ⟨List.mem_filter.mpr ⟨List.mem_append_right _ (List.mem_of_getElem? (i := 447) rfl), rfl⟩, zini_NU, by decide +kernel⟩
set_option maxRecDepth 100000 in
theorem zcal_PW_place : zCal zy_PW_place zm_PW_place 0 := ⟨List.mem_filter.mpr ⟨List.mem_append_right _ (List.mem_of_getElem? (i := 452) rfl), rfl⟩, zini_PW, by decide +kernel⟩
set_option maxRecDepth 100000 in
theorem zcal_PW_words : zCal zy_PW_words zm_PW_words 0 := ⟨List.mem_filter.mpr ⟨List.mem_append_right _ (List.mem_of_getElem? (i := 456) rfl), rfl⟩, zini_PW, by decide +kernel⟩
set_option maxRecDepth 100000 in
theorem zcal_PW_kind : zCal zy_PW_kind zm_PW_kind 1 := ⟨List.mem_filter.mpr ⟨List.mem_append_right _ (List.mem_of_getElem? (i := 460) rfl), rfl⟩, zini_PW, by decide +kernel⟩
set_option maxRecDepth 100000 in
theorem zcal_WL_kindOf : zCal zy_WL_kindOf zm_WL_kindOf 1 := ⟨List.mem_filter.mpr ⟨List.mem_append_right _ (List.mem_of_getElem? (i := 464) rfl), rfl⟩, zini_WL, by decide +kernel⟩
set_option maxRecDepth 100000 in
theorem zcal_PW_number : zCal zy_PW_number zm_PW_number 1 := ⟨List.mem_filter.mpr ⟨List.mem_append_right _ (List.mem_of_getElem? (i := 469) rfl), rfl⟩, zini_PW, by decide +kernel⟩
set_option maxRecDepth 100000 in
theorem zcal_WL_numberOf : zCal zy_WL_numberOf zm_WL_numberOf 1 := ⟨List.mem_filter.mpr ⟨List.mem_append_right _ (List.mem_of_getElem? (i := 473) rfl), rfl⟩, zini_WL, by decide +kernel⟩
set_option maxRecDepth 100000 in
theorem zcal_PW_begin : zCal zy_PW_begin zm_PW_begin 1 := ⟨List.mem_filter.mpr ⟨List.mem_append_right _ (List.mem_of_getElem? (i := 477) rfl), rfl⟩, zini_PW, by decide +kernel⟩
set_option maxRecDepth 100000 in
theorem zcal_WL_beginOf : zCal zy_WL_beginOf zm_WL_beginOf 1 := ⟨List.mem_filter.mpr ⟨List.mem_append_right _ (List.mem_of_getElem? (i := 481) rfl), rfl⟩, zini_WL, by decide +kernel⟩
set_option maxRecDepth 100000 in
theorem zcal_PW_texts : zCal zy_PW_texts zm_PW_texts 0 := ⟨List.mem_filter.mpr ⟨List.mem_append_right _ (List.mem_of_getElem? (i := 485) rfl), rfl⟩, zini_PW, by decide +kernel⟩
set_option maxRecDepth 100000 in
theorem zcal_PW_size : zCal zy_PW_size zm_PW_size 1 := ⟨List.mem_filter.mpr ⟨List.mem_append_right _ (List.mem_of_getElem? (i := 490) rfl), rfl⟩, zini_PW, by decide +kernel⟩
set_option maxRecDepth 100000 in
theorem zcal_TS_sizeOf : zCal zy_TS_sizeOf zm_TS_sizeOf 1 := ⟨List.mem_filter.mpr ⟨List.mem_append_right _ (List.mem_of_getElem? (i := 494) rfl), rfl⟩, zini_TS, by decide +kernel⟩
set_option maxRecDepth 100000 in
theorem zcal_PW_at : zCal zy_PW_at zm_PW_at 2 := ⟨List.mem_filter.mpr ⟨List.mem_append_right _ (List.mem_of_getElem? (i := 498) rfl), rfl⟩, zini_PW, by decide +kernel⟩
set_option maxRecDepth 100000 in
theorem zcal_TS_byteOf : zCal zy_TS_byteOf zm_TS_byteOf 2 := ⟨List.mem_filter.mpr ⟨List.mem_append_right _ (List.mem_of_getElem? (i := 502) rfl), rfl⟩, zini_TS, by decide +kernel⟩
set_option maxRecDepth 100000 in
theorem zcal_MO_new : zCal zy_MO_new zm_MO_new 0 := ⟨List.mem_filter.mpr ⟨List.mem_append_right _ (List.mem_of_getElem? (i := 507) rfl), rfl⟩, zini_MO, by decide +kernel⟩
set_option maxRecDepth 100000 in
theorem zcal_MO_type : zCal zy_MO_type zm_MO_type 2 := ⟨List.mem_filter.mpr ⟨List.mem_append_right _ (List.mem_of_getElem? (i := 569) rfl), rfl⟩, zini_MO, by decide +kernel⟩
set_option maxRecDepth 100000 in
theorem zcal_MO_cut : zCal zy_MO_cut zm_MO_cut 0 := ⟨List.mem_filter.mpr ⟨List.mem_append_right _ (List.mem_of_getElem? (i := 573) rfl), rfl⟩, zini_MO, by decide +kernel⟩
set_option maxRecDepth 100000 in
theorem zcal_MO_skip : zCal zy_MO_skip zm_MO_skip 1 := ⟨List.mem_filter.mpr ⟨List.mem_append_right _ (List.mem_of_getElem? (i := 577) rfl), rfl⟩, zini_MO, by decide +kernel⟩
theorem zse_MO_skip : Cond.selects "PageWordsModel" zy_MO_skip zy_MO_skip ∈ zT := List.mem_filter.mpr ⟨List.mem_append_left _ (by decide +kernel), rfl⟩
set_option maxRecDepth 100000 in
theorem zcal_MO_byteAt : zCal zy_MO_byteAt zm_MO_byteAt 1 := ⟨List.mem_filter.mpr ⟨List.mem_append_right _ (List.mem_of_getElem? (i := 581) rfl), rfl⟩, zini_MO, by decide +kernel⟩
theorem zse_MO_byteAt : Cond.selects "PageWordsModel" zy_MO_byteAt zy_MO_byteAt ∈ zT := List.mem_filter.mpr ⟨List.mem_append_left _ (by decide +kernel), rfl⟩
set_option maxRecDepth 100000 in
theorem zcal_MO_isBlank : zCal zy_MO_isBlank zm_MO_isBlank 1 := ⟨List.mem_filter.mpr ⟨List.mem_append_right _ (List.mem_of_getElem? (i := 584) rfl), rfl⟩, zini_MO, by decide +kernel⟩
set_option maxRecDepth 100000 in
theorem zcal_MO_fail : zCal zy_MO_fail zm_MO_fail 2 := ⟨List.mem_filter.mpr ⟨List.mem_append_right _ (List.mem_of_getElem? (i := 588) rfl), rfl⟩, zini_MO, by decide +kernel⟩
theorem zse_MO_fail : Cond.selects "PageWordsModel" zy_MO_fail zy_MO_fail ∈ zT := List.mem_filter.mpr ⟨List.mem_append_left _ (by decide +kernel), rfl⟩
set_option maxRecDepth 100000 in
theorem zcal_MO_one : zCal zy_MO_one zm_MO_one 1 := ⟨List.mem_filter.mpr ⟨List.mem_append_right _ (List.mem_of_getElem? (i := 592) rfl), rfl⟩, zini_MO, by decide +kernel⟩
theorem zse_MO_one : Cond.selects "PageWordsModel" zy_MO_one zy_MO_one ∈ zT := List.mem_filter.mpr ⟨List.mem_append_left _ (by decide +kernel), rfl⟩
set_option maxRecDepth 100000 in
theorem zcal_MO_brackets : zCal zy_MO_brackets zm_MO_brackets 1 := ⟨List.mem_filter.mpr ⟨List.mem_append_right _ (List.mem_of_getElem? (i := 596) rfl), rfl⟩, zini_MO, by decide +kernel⟩
theorem zse_MO_brackets : Cond.selects "PageWordsModel" zy_MO_brackets zy_MO_brackets ∈ zT := List.mem_filter.mpr ⟨List.mem_append_left _ (by decide +kernel), rfl⟩
set_option maxRecDepth 100000 in
theorem zcal_MO_escape : zCal zy_MO_escape zm_MO_escape 1 := ⟨List.mem_filter.mpr ⟨List.mem_append_right _ (List.mem_of_getElem? (i := 600) rfl), rfl⟩, zini_MO, by decide +kernel⟩
theorem zse_MO_escape : Cond.selects "PageWordsModel" zy_MO_escape zy_MO_escape ∈ zT := List.mem_filter.mpr ⟨List.mem_append_left _ (by decide +kernel), rfl⟩
set_option maxRecDepth 100000 in
theorem zcal_MO_isOctal : zCal zy_MO_isOctal zm_MO_isOctal 1 := ⟨List.mem_filter.mpr ⟨List.mem_append_right _ (List.mem_of_getElem? (i := 603) rfl), rfl⟩, zini_MO, by decide +kernel⟩
set_option maxRecDepth 100000 in
theorem zcal_MO_drop : zCal zy_MO_drop zm_MO_drop 1 := ⟨List.mem_filter.mpr ⟨List.mem_append_right _ (List.mem_of_getElem? (i := 607) rfl), rfl⟩, zini_MO, by decide +kernel⟩
theorem zse_MO_drop : Cond.selects "PageWordsModel" zy_MO_drop zy_MO_drop ∈ zT := List.mem_filter.mpr ⟨List.mem_append_left _ (by decide +kernel), rfl⟩
set_option maxRecDepth 100000 in
theorem zcal_MO_text : zCal zy_MO_text zm_MO_text 0 := ⟨List.mem_filter.mpr ⟨List.mem_append_right _ (List.mem_of_getElem? (i := 611) rfl), rfl⟩, zini_MO, by decide +kernel⟩
theorem zse_MO_text : Cond.selects "PageWordsModel" zy_MO_text zy_MO_text ∈ zT := List.mem_filter.mpr ⟨List.mem_append_left _ (by decide +kernel), rfl⟩
set_option maxRecDepth 100000 in
theorem zcal_MO_size : zCal zy_MO_size zm_MO_size 1 := ⟨List.mem_filter.mpr ⟨List.mem_append_right _ (List.mem_of_getElem? (i := 615) rfl), rfl⟩, zini_MO, by decide +kernel⟩
set_option maxRecDepth 100000 in
theorem zcal_MO_word : zCal zy_MO_word zm_MO_word 3 := ⟨List.mem_filter.mpr ⟨List.mem_append_right _ (List.mem_of_getElem? (i := 619) rfl), rfl⟩, zini_MO, by decide +kernel⟩
theorem zse_MO_word : Cond.selects "PageWordsModel" zy_MO_word zy_MO_word ∈ zT := List.mem_filter.mpr ⟨List.mem_append_left _ (by decide +kernel), rfl⟩
set_option maxRecDepth 100000 in
theorem zcal_MO_brace : zCal zy_MO_brace zm_MO_brace 2 := ⟨List.mem_filter.mpr ⟨List.mem_append_right _ (List.mem_of_getElem? (i := 623) rfl), rfl⟩, zini_MO, by decide +kernel⟩
theorem zse_MO_brace : Cond.selects "PageWordsModel" zy_MO_brace zy_MO_brace ∈ zT := List.mem_filter.mpr ⟨List.mem_append_left _ (by decide +kernel), rfl⟩
set_option maxRecDepth 100000 in
theorem zcal_MO_textOf : zCal zy_MO_textOf zm_MO_textOf 2 := ⟨List.mem_filter.mpr ⟨List.mem_append_right _ (List.mem_of_getElem? (i := 627) rfl), rfl⟩, zini_MO, by decide +kernel⟩
theorem zse_MO_textOf : Cond.selects "PageWordsModel" zy_MO_textOf zy_MO_textOf ∈ zT := List.mem_filter.mpr ⟨List.mem_append_left _ (by decide +kernel), rfl⟩
set_option maxRecDepth 100000 in
theorem zcal_MO_pairs : zCal zy_MO_pairs zm_MO_pairs 1 := ⟨List.mem_filter.mpr ⟨List.mem_append_right _ (List.mem_of_getElem? (i := 631) rfl), rfl⟩, zini_MO, by decide +kernel⟩
theorem zse_MO_pairs : Cond.selects "PageWordsModel" zy_MO_pairs zy_MO_pairs ∈ zT := List.mem_filter.mpr ⟨List.mem_append_left _ (by decide +kernel), rfl⟩
set_option maxRecDepth 100000 in
theorem zcal_MO_digitOf : zCal zy_MO_digitOf zm_MO_digitOf 1 := ⟨List.mem_filter.mpr ⟨List.mem_append_right _ (List.mem_of_getElem? (i := 634) rfl), rfl⟩, zini_MO, by decide +kernel⟩
set_option maxRecDepth 100000 in
theorem zcal_MO_isDigit : zCal zy_MO_isDigit zm_MO_isDigit 1 := ⟨List.mem_filter.mpr ⟨List.mem_append_right _ (List.mem_of_getElem? (i := 637) rfl), rfl⟩, zini_MO, by decide +kernel⟩
set_option maxRecDepth 100000 in
theorem zcal_MO_behindRow : zCal zy_MO_behindRow zm_MO_behindRow 1 := ⟨List.mem_filter.mpr ⟨List.mem_append_right _ (List.mem_of_getElem? (i := 641) rfl), rfl⟩, zini_MO, by decide +kernel⟩
theorem zse_MO_behindRow : Cond.selects "PageWordsModel" zy_MO_behindRow zy_MO_behindRow ∈ zT := List.mem_filter.mpr ⟨List.mem_append_left _ (by decide +kernel), rfl⟩
set_option maxRecDepth 100000 in
theorem zcal_MO_isPlain : zCal zy_MO_isPlain zm_MO_isPlain 1 := ⟨List.mem_filter.mpr ⟨List.mem_append_right _ (List.mem_of_getElem? (i := 644) rfl), rfl⟩, zini_MO, by decide +kernel⟩
set_option maxRecDepth 100000 in
theorem zcal_MO_row : zCal zy_MO_row zm_MO_row 2 := ⟨List.mem_filter.mpr ⟨List.mem_append_right _ (List.mem_of_getElem? (i := 648) rfl), rfl⟩, zini_MO, by decide +kernel⟩
theorem zse_MO_row : Cond.selects "PageWordsModel" zy_MO_row zy_MO_row ∈ zT := List.mem_filter.mpr ⟨List.mem_append_left _ (by decide +kernel), rfl⟩
set_option maxRecDepth 100000 in
theorem zcal_MO_isSign : zCal zy_MO_isSign zm_MO_isSign 1 := ⟨List.mem_filter.mpr ⟨List.mem_append_right _ (List.mem_of_getElem? (i := 651) rfl), rfl⟩, zini_MO, by decide +kernel⟩
set_option maxRecDepth 100000 in
theorem zcal_MO_behindDigits : zCal zy_MO_behindDigits zm_MO_behindDigits 1 := ⟨List.mem_filter.mpr ⟨List.mem_append_right _ (List.mem_of_getElem? (i := 655) rfl), rfl⟩, zini_MO, by decide +kernel⟩
theorem zse_MO_behindDigits : Cond.selects "PageWordsModel" zy_MO_behindDigits zy_MO_behindDigits ∈ zT := List.mem_filter.mpr ⟨List.mem_append_left _ (by decide +kernel), rfl⟩
set_option maxRecDepth 100000 in
theorem zcal_MO_wholeNumber : zCal zy_MO_wholeNumber zm_MO_wholeNumber 3 := ⟨List.mem_filter.mpr ⟨List.mem_append_right _ (List.mem_of_getElem? (i := 659) rfl), rfl⟩, zini_MO, by decide +kernel⟩
theorem zse_MO_wholeNumber : Cond.selects "PageWordsModel" zy_MO_wholeNumber zy_MO_wholeNumber ∈ zT := List.mem_filter.mpr ⟨List.mem_append_left _ (by decide +kernel), rfl⟩
set_option maxRecDepth 100000 in
theorem zcal_MO_isBased : zCal zy_MO_isBased zm_MO_isBased 2 := ⟨List.mem_filter.mpr ⟨List.mem_append_right _ (List.mem_of_getElem? (i := 668) rfl), rfl⟩, zini_MO, by decide +kernel⟩
theorem zse_MO_isBased : Cond.selects "PageWordsModel" zy_MO_isBased zy_MO_isBased ∈ zT := List.mem_filter.mpr ⟨List.mem_append_left _ (by decide +kernel), rfl⟩
set_option maxRecDepth 100000 in
theorem zcal_MO_baseOf : zCal zy_MO_baseOf zm_MO_baseOf 1 := ⟨List.mem_filter.mpr ⟨List.mem_append_right _ (List.mem_of_getElem? (i := 672) rfl), rfl⟩, zini_MO, by decide +kernel⟩
theorem zse_MO_baseOf : Cond.selects "PageWordsModel" zy_MO_baseOf zy_MO_baseOf ∈ zT := List.mem_filter.mpr ⟨List.mem_append_left _ (by decide +kernel), rfl⟩
set_option maxRecDepth 100000 in
theorem zcal_MO_based : zCal zy_MO_based zm_MO_based 2 := ⟨List.mem_filter.mpr ⟨List.mem_append_right _ (List.mem_of_getElem? (i := 676) rfl), rfl⟩, zini_MO, by decide +kernel⟩
theorem zse_MO_based : Cond.selects "PageWordsModel" zy_MO_based zy_MO_based ∈ zT := List.mem_filter.mpr ⟨List.mem_append_left _ (by decide +kernel), rfl⟩
set_option maxRecDepth 100000 in
theorem zcal_MO_isReal : zCal zy_MO_isReal zm_MO_isReal 2 := ⟨List.mem_filter.mpr ⟨List.mem_append_right _ (List.mem_of_getElem? (i := 681) rfl), rfl⟩, zini_MO, by decide +kernel⟩
theorem zse_MO_isReal : Cond.selects "PageWordsModel" zy_MO_isReal zy_MO_isReal ∈ zT := List.mem_filter.mpr ⟨List.mem_append_left _ (by decide +kernel), rfl⟩
set_option maxRecDepth 100000 in
theorem zcal_MO_real : zCal zy_MO_real zm_MO_real 3 := ⟨List.mem_filter.mpr ⟨List.mem_append_right _ (List.mem_of_getElem? (i := 685) rfl), rfl⟩, zini_MO, by decide +kernel⟩
theorem zse_MO_real : Cond.selects "PageWordsModel" zy_MO_real zy_MO_real ∈ zT := List.mem_filter.mpr ⟨List.mem_append_left _ (by decide +kernel), rfl⟩
set_option maxRecDepth 100000 in
theorem zcal_MO_read : zCal zy_MO_read zm_MO_read 2 := ⟨List.mem_filter.mpr ⟨List.mem_append_right _ (List.mem_of_getElem? (i := 689) rfl), rfl⟩, zini_MO, by decide +kernel⟩
theorem zse_MO_read : Cond.selects "PageWordsModel" zy_MO_read zy_MO_read ∈ zT := List.mem_filter.mpr ⟨List.mem_append_left _ (by decide +kernel), rfl⟩
set_option maxRecDepth 100000 in
theorem zcal_MO_twice : zCal zy_MO_twice zm_MO_twice 1 := ⟨List.mem_filter.mpr ⟨List.mem_append_right _ (List.mem_of_getElem? (i := 696) rfl), rfl⟩, zini_MO, by decide +kernel⟩
theorem zse_MO_twice : Cond.selects "PageWordsModel" zy_MO_twice zy_MO_twice ∈ zT := List.mem_filter.mpr ⟨List.mem_append_left _ (by decide +kernel), rfl⟩
set_option maxRecDepth 100000 in
theorem zcal_MO_place : zCal zy_MO_place zm_MO_place 0 := ⟨List.mem_filter.mpr ⟨List.mem_append_right _ (List.mem_of_getElem? (i := 700) rfl), rfl⟩, zini_MO, by decide +kernel⟩
set_option maxRecDepth 100000 in
theorem zcal_MO_words : zCal zy_MO_words zm_MO_words 0 := ⟨List.mem_filter.mpr ⟨List.mem_append_right _ (List.mem_of_getElem? (i := 704) rfl), rfl⟩, zini_MO, by decide +kernel⟩
set_option maxRecDepth 100000 in
theorem zcal_MO_kind : zCal zy_MO_kind zm_MO_kind 1 := ⟨List.mem_filter.mpr ⟨List.mem_append_right _ (List.mem_of_getElem? (i := 708) rfl), rfl⟩, zini_MO, by decide +kernel⟩
set_option maxRecDepth 100000 in
theorem zcal_MO_isWord : zCal zy_MO_isWord zm_MO_isWord 1 := ⟨List.mem_filter.mpr ⟨List.mem_append_right _ (List.mem_of_getElem? (i := 712) rfl), rfl⟩, zini_MO, by decide +kernel⟩
theorem zse_MO_isWord : Cond.selects "PageWordsModel" zy_MO_isWord zy_MO_isWord ∈ zT := List.mem_filter.mpr ⟨List.mem_append_left _ (by decide +kernel), rfl⟩
set_option maxRecDepth 100000 in
theorem zcal_MO_number : zCal zy_MO_number zm_MO_number 1 := ⟨List.mem_filter.mpr ⟨List.mem_append_right _ (List.mem_of_getElem? (i := 716) rfl), rfl⟩, zini_MO, by decide +kernel⟩
set_option maxRecDepth 100000 in
theorem zcal_MO_begin : zCal zy_MO_begin zm_MO_begin 1 := ⟨List.mem_filter.mpr ⟨List.mem_append_right _ (List.mem_of_getElem? (i := 720) rfl), rfl⟩, zini_MO, by decide +kernel⟩
set_option maxRecDepth 100000 in
theorem zcal_MO_texts : zCal zy_MO_texts zm_MO_texts 0 := ⟨List.mem_filter.mpr ⟨List.mem_append_right _ (List.mem_of_getElem? (i := 724) rfl), rfl⟩, zini_MO, by decide +kernel⟩
set_option maxRecDepth 100000 in
theorem zcal_MO_at : zCal zy_MO_at zm_MO_at 2 := ⟨List.mem_filter.mpr ⟨List.mem_append_right _ (List.mem_of_getElem? (i := 729) rfl), rfl⟩, zini_MO, by decide +kernel⟩
