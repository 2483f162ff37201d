set_option maxHeartbeats 4000000 in
set_option maxRecDepth 100000 in
theorem c_WL_count (h : Nat) (ws : List (Int32 × Int32 × Int32)) (n : Nat) : zCT zy_WL_count zm_WL_count (0) (0) [.ref h] [zWL h (ws) (n)] (some (.int (zI ((ws.length : Nat) : Int)))) [zWL h (ws) (n)] := by
  refine zCT.of [(0, .ref h)] rfl (by decide) rfl (fun h => by first | rfl | cases h) (Nat.le_of_ble_eq_true rfl) (fun X hR => ?_)
  refine zw_unp (fun G ws h => h) (fun x0 hx0 => ?_)
  obtain ⟨a, b, c⟩ := x0
  simp only [List.cons_append, List.nil_append]
  refine zw_aload_n 0 rfl zd_WL_count_0 ?_
  refine zw_get zc_WL 0 0 rfl (by decide) zf_WL_14 rfl zd_WL_count_1 ?_
  refine zw_callV (As := []) (rest := []) (L2 := [zObj h 3 [.ref a, .ref b, .ref c], zIRow b (ws.map (fun q => q.2.1)) (n) (16384), zIRow c (ws.map (fun q => q.2.2)) (n) (16384)]) (L' := [zIRow a (ws.map (fun q => q.1)) (n) (16384), zObj h 3 [.ref a, .ref b, .ref c], zIRow b (ws.map (fun q => q.2.1)) (n) (16384), zIRow c (ws.map (fun q => q.2.2)) (n) (16384)]) (stk' := [.int (zI (((ws.length : Nat) : Int)))]) (c_IR_count a (ws.map (fun q => q.1)) (n) (16384) (ws.length) (List.length_map ..)) [1] [0, 2, 3] rfl rfl rfl zcal_IR_count zl_WL_26 zin_IR_count zse_IR_count 0 rfl zRv_IRow rfl (Nat.le_of_ble_eq_true rfl) (Nat.le_of_ble_eq_true rfl) (by omega) (by omega) rfl (Nat.le_of_ble_eq_true rfl) rfl rfl zd_WL_count_4 ?_
  refine zw_sub (L' := [zObj h 3 [.ref a, .ref b, .ref c], zIRow a (ws.map (fun q => q.1)) (n) (16384), zIRow b (ws.map (fun q => q.2.1)) (n) (16384), zIRow c (ws.map (fun q => q.2.2)) (n) (16384)]) [1, 0, 2, 3] rfl rfl ?_
  -- as it stands
  refine zw_pack (at0 := zWL h (ws) (n)) (Ls := [zObj h 3 [.ref a, .ref b, .ref c], zIRow a (ws.map (fun q => q.1)) (n) (16384), zIRow b (ws.map (fun q => q.2.1)) (n) (16384), zIRow c (ws.map (fun q => q.2.2)) (n) (16384)]) (L2 := []) rfl (fun G w h => ⟨(a, b, c), hx0, h⟩) ?_
  exact zw_iret hR (rfl) rfl rfl (by omega) (by omega) zd_WL_count_7
set_option maxHeartbeats 4000000 in
set_option maxRecDepth 100000 in
theorem c_WL_kindOf (h : Nat) (ws : List (Int32 × Int32 × Int32)) (n : Nat) (z : Int) (hz : -2147483648 ≤ z ∧ z ≤ 2147483647) : zCT zy_WL_kindOf zm_WL_kindOf (0) (0) [.ref h, .int (zI z)] [zWL h (ws) (n)] (some (.int (iget (ws.map (fun q => q.1)) z))) [zWL h (ws) (n)] := by
  refine zCT.of [(0, .ref h), (1, .int (zI (z)))] rfl (by decide) rfl (fun h => by first | rfl | cases h) (Nat.le_of_ble_eq_true rfl) (fun X hR => ?_)
  refine zw_unp (fun G ws h => h) (fun x0 hx0 => ?_)
  obtain ⟨a, b, c⟩ := x0
  simp only [List.cons_append, List.nil_append]
  refine zw_aload_n 0 rfl zd_WL_kindOf_0 ?_
  refine zw_get zc_WL 0 0 rfl (by decide) zf_WL_14 rfl zd_WL_kindOf_1 ?_
  refine zw_iload_n 1 rfl zd_WL_kindOf_4 ?_
  refine zw_callV (As := [.int (zI (z))]) (rest := []) (L2 := [zObj h 3 [.ref a, .ref b, .ref c], zIRow b (ws.map (fun q => q.2.1)) (n) (16384), zIRow c (ws.map (fun q => q.2.2)) (n) (16384)]) (L' := [zIRow a (ws.map (fun q => q.1)) (n) (16384), zObj h 3 [.ref a, .ref b, .ref c], zIRow b (ws.map (fun q => q.2.1)) (n) (16384), zIRow c (ws.map (fun q => q.2.2)) (n) (16384)]) (stk' := [.int (iget (ws.map (fun q => q.1)) (z))]) (c_IR_get a (ws.map (fun q => q.1)) (n) (16384) (z) (by omega)) [1] [0, 2, 3] rfl rfl rfl zcal_IR_get zl_WL_36 zin_IR_get zse_IR_get 0 rfl zRv_IRow rfl (Nat.le_of_ble_eq_true rfl) (Nat.le_of_ble_eq_true rfl) (by omega) (by omega) rfl (Nat.le_of_ble_eq_true rfl) rfl rfl zd_WL_kindOf_5 ?_
  refine zw_sub (L' := [zObj h 3 [.ref a, .ref b, .ref c], zIRow a (ws.map (fun q => q.1)) (n) (16384), zIRow b (ws.map (fun q => q.2.1)) (n) (16384), zIRow c (ws.map (fun q => q.2.2)) (n) (16384)]) [1, 0, 2, 3] rfl rfl ?_
  -- as it stands
  refine zw_pack (at0 := zWL h (ws) (n)) (Ls := [zObj h 3 [.ref a, .ref b, .ref c], zIRow a (ws.map (fun q => q.1)) (n) (16384), zIRow b (ws.map (fun q => q.2.1)) (n) (16384), zIRow c (ws.map (fun q => q.2.2)) (n) (16384)]) (L2 := []) rfl (fun G w h => ⟨(a, b, c), hx0, h⟩) ?_
  exact zw_iret hR (rfl) rfl rfl (by omega) (by omega) zd_WL_kindOf_8
set_option maxHeartbeats 4000000 in
set_option maxRecDepth 100000 in
theorem c_WL_numberOf (h : Nat) (ws : List (Int32 × Int32 × Int32)) (n : Nat) (z : Int) (hz : -2147483648 ≤ z ∧ z ≤ 2147483647) : zCT zy_WL_numberOf zm_WL_numberOf (0) (0) [.ref h, .int (zI z)] [zWL h (ws) (n)] (some (.int (iget (ws.map (fun q => q.2.1)) z))) [zWL h (ws) (n)] := by
  refine zCT.of [(0, .ref h), (1, .int (zI (z)))] rfl (by decide) rfl (fun h => by first | rfl | cases h) (Nat.le_of_ble_eq_true rfl) (fun X hR => ?_)
  refine zw_unp (fun G ws h => h) (fun x0 hx0 => ?_)
  obtain ⟨a, b, c⟩ := x0
  simp only [List.cons_append, List.nil_append]
  refine zw_aload_n 0 rfl zd_WL_numberOf_0 ?_
  refine zw_get zc_WL 0 1 rfl (by decide) zf_WL_20 rfl zd_WL_numberOf_1 ?_
  refine zw_iload_n 1 rfl zd_WL_numberOf_4 ?_
  refine zw_callV (As := [.int (zI (z))]) (rest := []) (L2 := [zObj h 3 [.ref a, .ref b, .ref c], zIRow a (ws.map (fun q => q.1)) (n) (16384), zIRow c (ws.map (fun q => q.2.2)) (n) (16384)]) (L' := [zIRow b (ws.map (fun q => q.2.1)) (n) (16384), zObj h 3 [.ref a, .ref b, .ref c], zIRow a (ws.map (fun q => q.1)) (n) (16384), zIRow c (ws.map (fun q => q.2.2)) (n) (16384)]) (stk' := [.int (iget (ws.map (fun q => q.2.1)) (z))]) (c_IR_get b (ws.map (fun q => q.2.1)) (n) (16384) (z) (by omega)) [2] [0, 1, 3] rfl rfl rfl zcal_IR_get zl_WL_36 zin_IR_get zse_IR_get 0 rfl zRv_IRow rfl (Nat.le_of_ble_eq_true rfl) (Nat.le_of_ble_eq_true rfl) (by omega) (by omega) rfl (Nat.le_of_ble_eq_true rfl) rfl rfl zd_WL_numberOf_5 ?_
  refine zw_sub (L' := [zObj h 3 [.ref a, .ref b, .ref c], zIRow a (ws.map (fun q => q.1)) (n) (16384), zIRow b (ws.map (fun q => q.2.1)) (n) (16384), zIRow c (ws.map (fun q => q.2.2)) (n) (16384)]) [1, 2, 0, 3] rfl rfl ?_
  -- as it stands
  refine zw_pack (at0 := zWL h (ws) (n)) (Ls := [zObj h 3 [.ref a, .ref b, .ref c], zIRow a (ws.map (fun q => q.1)) (n) (16384), zIRow b (ws.map (fun q => q.2.1)) (n) (16384), zIRow c (ws.map (fun q => q.2.2)) (n) (16384)]) (L2 := []) rfl (fun G w h => ⟨(a, b, c), hx0, h⟩) ?_
  exact zw_iret hR (rfl) rfl rfl (by omega) (by omega) zd_WL_numberOf_8
set_option maxHeartbeats 4000000 in
set_option maxRecDepth 100000 in
theorem c_WL_beginOf (h : Nat) (ws : List (Int32 × Int32 × Int32)) (n : Nat) (z : Int) (hz : -2147483648 ≤ z ∧ z ≤ 2147483647) : zCT zy_WL_beginOf zm_WL_beginOf (0) (0) [.ref h, .int (zI z)] [zWL h (ws) (n)] (some (.int (iget (ws.map (fun q => q.2.2)) z))) [zWL h (ws) (n)] := by
  refine zCT.of [(0, .ref h), (1, .int (zI (z)))] rfl (by decide) rfl (fun h => by first | rfl | cases h) (Nat.le_of_ble_eq_true rfl) (fun X hR => ?_)
  refine zw_unp (fun G ws h => h) (fun x0 hx0 => ?_)
  obtain ⟨a, b, c⟩ := x0
  simp only [List.cons_append, List.nil_append]
  refine zw_aload_n 0 rfl zd_WL_beginOf_0 ?_
  refine zw_get zc_WL 0 2 rfl (by decide) zf_WL_23 rfl zd_WL_beginOf_1 ?_
  refine zw_iload_n 1 rfl zd_WL_beginOf_4 ?_
  refine zw_callV (As := [.int (zI (z))]) (rest := []) (L2 := [zObj h 3 [.ref a, .ref b, .ref c], zIRow a (ws.map (fun q => q.1)) (n) (16384), zIRow b (ws.map (fun q => q.2.1)) (n) (16384)]) (L' := [zIRow c (ws.map (fun q => q.2.2)) (n) (16384), zObj h 3 [.ref a, .ref b, .ref c], zIRow a (ws.map (fun q => q.1)) (n) (16384), zIRow b (ws.map (fun q => q.2.1)) (n) (16384)]) (stk' := [.int (iget (ws.map (fun q => q.2.2)) (z))]) (c_IR_get c (ws.map (fun q => q.2.2)) (n) (16384) (z) (by omega)) [3] [0, 1, 2] rfl rfl rfl zcal_IR_get zl_WL_36 zin_IR_get zse_IR_get 0 rfl zRv_IRow rfl (Nat.le_of_ble_eq_true rfl) (Nat.le_of_ble_eq_true rfl) (by omega) (by omega) rfl (Nat.le_of_ble_eq_true rfl) rfl rfl zd_WL_beginOf_5 ?_
  refine zw_sub (L' := [zObj h 3 [.ref a, .ref b, .ref c], zIRow a (ws.map (fun q => q.1)) (n) (16384), zIRow b (ws.map (fun q => q.2.1)) (n) (16384), zIRow c (ws.map (fun q => q.2.2)) (n) (16384)]) [1, 2, 3, 0] rfl rfl ?_
  -- as it stands
  refine zw_pack (at0 := zWL h (ws) (n)) (Ls := [zObj h 3 [.ref a, .ref b, .ref c], zIRow a (ws.map (fun q => q.1)) (n) (16384), zIRow b (ws.map (fun q => q.2.1)) (n) (16384), zIRow c (ws.map (fun q => q.2.2)) (n) (16384)]) (L2 := []) rfl (fun G w h => ⟨(a, b, c), hx0, h⟩) ?_
  exact zw_iret hR (rfl) rfl rfl (by omega) (by omega) zd_WL_beginOf_8
set_option maxHeartbeats 4000000 in
set_option maxRecDepth 100000 in
theorem c_WL_forget (h : Nat) (ws : List (Int32 × Int32 × Int32)) (n : Nat) : zCT zy_WL_forget zm_WL_forget (0) (0) [.ref h] [zWL h (ws) (n)] (none) [zWL h ([]) (n)] := by
  refine zCT.of [(0, .ref h)] rfl (by decide) rfl (fun h => by first | rfl | cases h) (Nat.le_of_ble_eq_true rfl) (fun X hR => ?_)
  refine zw_unp (fun G ws h => h) (fun x0 hx0 => ?_)
  obtain ⟨a, b, c⟩ := x0
  simp only [List.cons_append, List.nil_append]
  refine zw_aload_n 0 rfl zd_WL_forget_0 ?_
  refine zw_get zc_WL 0 0 rfl (by decide) zf_WL_14 rfl zd_WL_forget_1 ?_
  refine zw_iconst zd_WL_forget_4 ?_
  refine zw_callV (As := [.int (zI (0))]) (rest := []) (L2 := [zObj h 3 [.ref a, .ref b, .ref c], zIRow b (ws.map (fun q => q.2.1)) (n) (16384), zIRow c (ws.map (fun q => q.2.2)) (n) (16384)]) (L' := [zIRow a (rshort (ws.map (fun q => q.1)) (0)) (n) (16384), zObj h 3 [.ref a, .ref b, .ref c], zIRow b (ws.map (fun q => q.2.1)) (n) (16384), zIRow c (ws.map (fun q => q.2.2)) (n) (16384)]) (stk' := []) (c_IR_shorten a (ws.map (fun q => q.1)) (n) (16384) (0) (by omega)) [1] [0, 2, 3] rfl rfl rfl zcal_IR_shorten zl_WL_30 zin_IR_shorten zse_IR_shorten 0 rfl zRv_IRow rfl (Nat.le_of_ble_eq_true rfl) (Nat.le_of_ble_eq_true rfl) (by omega) (by omega) rfl (Nat.le_of_ble_eq_true rfl) rfl rfl zd_WL_forget_5 ?_
  refine zw_aload_n 0 rfl zd_WL_forget_8 ?_
  refine zw_get zc_WL 1 1 rfl (by decide) zf_WL_20 rfl zd_WL_forget_9 ?_
  refine zw_iconst zd_WL_forget_12 ?_
  refine zw_callV (As := [.int (zI (0))]) (rest := []) (L2 := [zIRow a (rshort (ws.map (fun q => q.1)) (0)) (n) (16384), zObj h 3 [.ref a, .ref b, .ref c], zIRow c (ws.map (fun q => q.2.2)) (n) (16384)]) (L' := [zIRow b (rshort (ws.map (fun q => q.2.1)) (0)) (n) (16384), zIRow a (rshort (ws.map (fun q => q.1)) (0)) (n) (16384), zObj h 3 [.ref a, .ref b, .ref c], zIRow c (ws.map (fun q => q.2.2)) (n) (16384)]) (stk' := []) (c_IR_shorten b (ws.map (fun q => q.2.1)) (n) (16384) (0) (by omega)) [2] [0, 1, 3] rfl rfl rfl zcal_IR_shorten zl_WL_30 zin_IR_shorten zse_IR_shorten 0 rfl zRv_IRow rfl (Nat.le_of_ble_eq_true rfl) (Nat.le_of_ble_eq_true rfl) (by omega) (by omega) rfl (Nat.le_of_ble_eq_true rfl) rfl rfl zd_WL_forget_13 ?_
  refine zw_aload_n 0 rfl zd_WL_forget_16 ?_
  refine zw_get zc_WL 2 2 rfl (by decide) zf_WL_23 rfl zd_WL_forget_17 ?_
  refine zw_iconst zd_WL_forget_20 ?_
  refine zw_callV (As := [.int (zI (0))]) (rest := []) (L2 := [zIRow b (rshort (ws.map (fun q => q.2.1)) (0)) (n) (16384), zIRow a (rshort (ws.map (fun q => q.1)) (0)) (n) (16384), zObj h 3 [.ref a, .ref b, .ref c]]) (L' := [zIRow c (rshort (ws.map (fun q => q.2.2)) (0)) (n) (16384), zIRow b (rshort (ws.map (fun q => q.2.1)) (0)) (n) (16384), zIRow a (rshort (ws.map (fun q => q.1)) (0)) (n) (16384), zObj h 3 [.ref a, .ref b, .ref c]]) (stk' := []) (c_IR_shorten c (ws.map (fun q => q.2.2)) (n) (16384) (0) (by omega)) [3] [0, 1, 2] rfl rfl rfl zcal_IR_shorten zl_WL_30 zin_IR_shorten zse_IR_shorten 0 rfl zRv_IRow rfl (Nat.le_of_ble_eq_true rfl) (Nat.le_of_ble_eq_true rfl) (by omega) (by omega) rfl (Nat.le_of_ble_eq_true rfl) rfl rfl zd_WL_forget_21 ?_
  refine zw_sub (L' := [zObj h 3 [.ref a, .ref b, .ref c], zIRow a (rshort (ws.map (fun q => q.1)) (0)) (n) (16384), zIRow b (rshort (ws.map (fun q => q.2.1)) (0)) (n) (16384), zIRow c (rshort (ws.map (fun q => q.2.2)) (0)) (n) (16384)]) [3, 2, 1, 0] rfl rfl ?_
  refine zw_eqL (L' := [zObj h 3 [.ref a, .ref b, .ref c], zIRow a ((([] : List (Int32 × Int32 × Int32)).map (fun q => q.1))) (n) (16384), zIRow b ((([] : List (Int32 × Int32 × Int32)).map (fun q => q.2.1))) (n) (16384), zIRow c ((([] : List (Int32 × Int32 × Int32)).map (fun q => q.2.2))) (n) (16384)]) (by rw [rshort0, rshort0, rshort0]; rfl) ?_
  refine zw_pack (at0 := zWL h ([]) (n)) (Ls := [zObj h 3 [.ref a, .ref b, .ref c], zIRow a ((([] : List (Int32 × Int32 × Int32)).map (fun q => q.1))) (n) (16384), zIRow b ((([] : List (Int32 × Int32 × Int32)).map (fun q => q.2.1))) (n) (16384), zIRow c ((([] : List (Int32 × Int32 × Int32)).map (fun q => q.2.2))) (n) (16384)]) (L2 := []) rfl (fun G w h => ⟨(a, b, c), Nat.zero_le _, h⟩) ?_
  exact zw_vret hR rfl rfl rfl (by omega) (by omega) zd_WL_forget_24
set_option maxHeartbeats 4000000 in
set_option maxRecDepth 100000 in
theorem c_WL_add (h : Nat) (ws : List (Int32 × Int32 × Int32)) (n : Nat) (x y z : Int32) (hl : ws.length < 16384) : zCT zy_WL_add zm_WL_add (3 * (gcap ws.length n - n)) (6 * (gcap ws.length n - n)) [.ref h, .int x, .int y, .int z] [zWL h (ws) (n)] (none) [zWL h (ws ++ [(x, y, z)]) (gcap ws.length n)] := by
  refine zCT.of [(0, .ref h), (1, .int (x)), (2, .int (y)), (3, .int (z))] rfl (by decide) rfl (fun h => by first | rfl | cases h) (Nat.le_of_ble_eq_true rfl) (fun X hR => ?_)
  refine zw_unp (fun G ws h => h) (fun x0 hx0 => ?_)
  obtain ⟨a, b, c⟩ := x0
  simp only [List.cons_append, List.nil_append]
  have hg := gcap_ge ws.length n
  refine zw_aload_n 0 rfl zd_WL_add_0 ?_
  refine zw_get zc_WL 0 0 rfl (by decide) zf_WL_14 rfl zd_WL_add_1 ?_
  refine zw_iload_n 1 rfl zd_WL_add_4 ?_
  refine zw_callV (As := [.int (x)]) (rest := []) (L2 := [zObj h 3 [.ref a, .ref b, .ref c], zIRow b (ws.map (fun q => q.2.1)) (n) (16384), zIRow c (ws.map (fun q => q.2.2)) (n) (16384)]) (L' := [zIRow a ((ws.map (fun q => q.1)) ++ [x]) (gcap (ws.length) (n)) (16384), zObj h 3 [.ref a, .ref b, .ref c], zIRow b (ws.map (fun q => q.2.1)) (n) (16384), zIRow c (ws.map (fun q => q.2.2)) (n) (16384)]) (stk' := []) (c_IR_add a (ws.map (fun q => q.1)) (n) (16384) x (ws.length) (List.length_map ..) (by omega) (by omega)) [1] [0, 2, 3] rfl rfl rfl zcal_IR_add zl_WL_33 zin_IR_add zse_IR_add 0 rfl zRv_IRow rfl (Nat.le_of_ble_eq_true rfl) (Nat.le_of_ble_eq_true rfl) (by omega) (by omega) rfl (Nat.le_of_ble_eq_true rfl) rfl rfl zd_WL_add_5 ?_
  refine zw_aload_n 0 rfl zd_WL_add_8 ?_
  refine zw_get zc_WL 1 1 rfl (by decide) zf_WL_20 rfl zd_WL_add_9 ?_
  refine zw_iload_n 2 rfl zd_WL_add_12 ?_
  refine zw_callV (As := [.int (y)]) (rest := []) (L2 := [zIRow a ((ws.map (fun q => q.1)) ++ [x]) (gcap (ws.length) (n)) (16384), zObj h 3 [.ref a, .ref b, .ref c], zIRow c (ws.map (fun q => q.2.2)) (n) (16384)]) (L' := [zIRow b ((ws.map (fun q => q.2.1)) ++ [y]) (gcap (ws.length) (n)) (16384), zIRow a ((ws.map (fun q => q.1)) ++ [x]) (gcap (ws.length) (n)) (16384), zObj h 3 [.ref a, .ref b, .ref c], zIRow c (ws.map (fun q => q.2.2)) (n) (16384)]) (stk' := []) (c_IR_add b (ws.map (fun q => q.2.1)) (n) (16384) y (ws.length) (List.length_map ..) (by omega) (by omega)) [2] [0, 1, 3] rfl rfl rfl zcal_IR_add zl_WL_33 zin_IR_add zse_IR_add 0 rfl zRv_IRow rfl (Nat.le_of_ble_eq_true rfl) (Nat.le_of_ble_eq_true rfl) (by omega) (by omega) rfl (Nat.le_of_ble_eq_true rfl) rfl rfl zd_WL_add_13 ?_
  refine zw_aload_n 0 rfl zd_WL_add_16 ?_
  refine zw_get zc_WL 2 2 rfl (by decide) zf_WL_23 rfl zd_WL_add_17 ?_
  refine zw_iload_n 3 rfl zd_WL_add_20 ?_
  refine zw_callV (As := [.int (z)]) (rest := []) (L2 := [zIRow b ((ws.map (fun q => q.2.1)) ++ [y]) (gcap (ws.length) (n)) (16384), zIRow a ((ws.map (fun q => q.1)) ++ [x]) (gcap (ws.length) (n)) (16384), zObj h 3 [.ref a, .ref b, .ref c]]) (L' := [zIRow c ((ws.map (fun q => q.2.2)) ++ [z]) (gcap (ws.length) (n)) (16384), zIRow b ((ws.map (fun q => q.2.1)) ++ [y]) (gcap (ws.length) (n)) (16384), zIRow a ((ws.map (fun q => q.1)) ++ [x]) (gcap (ws.length) (n)) (16384), zObj h 3 [.ref a, .ref b, .ref c]]) (stk' := []) (c_IR_add c (ws.map (fun q => q.2.2)) (n) (16384) z (ws.length) (List.length_map ..) (by omega) (by omega)) [3] [0, 1, 2] rfl rfl rfl zcal_IR_add zl_WL_33 zin_IR_add zse_IR_add 0 rfl zRv_IRow rfl (Nat.le_of_ble_eq_true rfl) (Nat.le_of_ble_eq_true rfl) (by omega) (by omega) rfl (Nat.le_of_ble_eq_true rfl) rfl rfl zd_WL_add_21 ?_
  refine zw_sub (L' := [zObj h 3 [.ref a, .ref b, .ref c], zIRow a ((ws.map (fun q => q.1)) ++ [x]) (gcap (ws.length) (n)) (16384), zIRow b ((ws.map (fun q => q.2.1)) ++ [y]) (gcap (ws.length) (n)) (16384), zIRow c ((ws.map (fun q => q.2.2)) ++ [z]) (gcap (ws.length) (n)) (16384)]) [3, 2, 1, 0] rfl rfl ?_
  refine zw_eqL (L' := [zObj h 3 [.ref a, .ref b, .ref c], zIRow a (((ws ++ [(x, y, z)]).map (fun q => q.1))) (gcap ws.length n) (16384), zIRow b (((ws ++ [(x, y, z)]).map (fun q => q.2.1))) (gcap ws.length n) (16384), zIRow c (((ws ++ [(x, y, z)]).map (fun q => q.2.2))) (gcap ws.length n) (16384)]) (by simp only [List.map_append, List.map_cons, List.map_nil]) ?_
  refine zw_pack (at0 := zWL h (ws ++ [(x, y, z)]) (gcap ws.length n)) (Ls := [zObj h 3 [.ref a, .ref b, .ref c], zIRow a (((ws ++ [(x, y, z)]).map (fun q => q.1))) (gcap ws.length n) (16384), zIRow b (((ws ++ [(x, y, z)]).map (fun q => q.2.1))) (gcap ws.length n) (16384), zIRow c (((ws ++ [(x, y, z)]).map (fun q => q.2.2))) (gcap ws.length n) (16384)]) (L2 := []) rfl (fun G w h => ⟨(a, b, c), by rw [List.length_append, List.length_singleton]; omega, h⟩) ?_
  exact zw_vret hR rfl rfl rfl (by omega) (by omega) zd_WL_add_24
set_option maxHeartbeats 4000000 in
set_option maxRecDepth 100000 in
theorem c_WL_setNumber (h : Nat) (ws : List (Int32 × Int32 × Int32)) (n : Nat) (z : Int) (hz : -2147483648 ≤ z ∧ z ≤ 2147483647) (x : Int32) : zCT zy_WL_setNumber zm_WL_setNumber (0) (0) [.ref h, .int (zI z), .int x] [zWL h (ws) (n)] (none) [zWL h (wsetN ws z x) (n)] := by
  refine zCT.of [(0, .ref h), (1, .int (zI (z))), (2, .int (x))] rfl (by decide) rfl (fun h => by first | rfl | cases h) (Nat.le_of_ble_eq_true rfl) (fun X hR => ?_)
  refine zw_unp (fun G ws h => h) (fun x0 hx0 => ?_)
  obtain ⟨a, b, c⟩ := x0
  simp only [List.cons_append, List.nil_append]
  refine zw_aload_n 0 rfl zd_WL_setNumber_0 ?_
  refine zw_get zc_WL 0 1 rfl (by decide) zf_WL_20 rfl zd_WL_setNumber_1 ?_
  refine zw_iload_n 1 rfl zd_WL_setNumber_4 ?_
  refine zw_iload_n 2 rfl zd_WL_setNumber_5 ?_
  refine zw_callV (As := [.int (zI (z)), .int (x)]) (rest := []) (L2 := [zObj h 3 [.ref a, .ref b, .ref c], zIRow a (ws.map (fun q => q.1)) (n) (16384), zIRow c (ws.map (fun q => q.2.2)) (n) (16384)]) (L' := [zIRow b (iset (ws.map (fun q => q.2.1)) (z) x) (n) (16384), zObj h 3 [.ref a, .ref b, .ref c], zIRow a (ws.map (fun q => q.1)) (n) (16384), zIRow c (ws.map (fun q => q.2.2)) (n) (16384)]) (stk' := []) (c_IR_set b (ws.map (fun q => q.2.1)) (n) (16384) (z) x (by omega)) [2] [0, 1, 3] rfl rfl rfl zcal_IR_set zl_WL_40 zin_IR_set zse_IR_set 0 rfl zRv_IRow rfl (Nat.le_of_ble_eq_true rfl) (Nat.le_of_ble_eq_true rfl) (by omega) (by omega) rfl (Nat.le_of_ble_eq_true rfl) rfl rfl zd_WL_setNumber_6 ?_
  refine zw_sub (L' := [zObj h 3 [.ref a, .ref b, .ref c], zIRow a (ws.map (fun q => q.1)) (n) (16384), zIRow b (iset (ws.map (fun q => q.2.1)) (z) x) (n) (16384), zIRow c (ws.map (fun q => q.2.2)) (n) (16384)]) [1, 2, 0, 3] rfl rfl ?_
  refine zw_eqL (L' := [zObj h 3 [.ref a, .ref b, .ref c], zIRow a (((wsetN ws z x).map (fun q => q.1))) (n) (16384), zIRow b (((wsetN ws z x).map (fun q => q.2.1))) (n) (16384), zIRow c (((wsetN ws z x).map (fun q => q.2.2))) (n) (16384)]) (by rw [wsetN_1, wsetN_2, wsetN_3]) ?_
  refine zw_pack (at0 := zWL h (wsetN ws z x) (n)) (Ls := [zObj h 3 [.ref a, .ref b, .ref c], zIRow a (((wsetN ws z x).map (fun q => q.1))) (n) (16384), zIRow b (((wsetN ws z x).map (fun q => q.2.1))) (n) (16384), zIRow c (((wsetN ws z x).map (fun q => q.2.2))) (n) (16384)]) (L2 := []) rfl (fun G w h => ⟨(a, b, c), by rw [wsetN_len]; exact hx0, h⟩) ?_
  exact zw_vret hR rfl rfl rfl (by omega) (by omega) zd_WL_setNumber_9
