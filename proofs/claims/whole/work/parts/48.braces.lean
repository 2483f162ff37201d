theorem rowE_rg {t : List Int} {z : Int} (h : 0 ≤ z ∧ z ≤ t.length) : z ≤ rowE t z ∧ rowE t z ≤ t.length ∧ rowE t z ≤ z + 128 := by
  obtain ⟨s1, s2, s3, s4⟩ := scanE_spec (f := sPlain) (t := t) (p := z) h.1
  have s2 := s2 h.2
  unfold rowE
  omega
set_option maxHeartbeats 4000000 in
set_option maxRecDepth 100000 in
theorem c_PW_itself_ok (h ht hl hs ho hn : Nat) (t : List Int) (nt : Nat) (p0 w0 r0 : Int) (ws : List (Int32 × Int32 × Int32)) (nw : Nat) (ts : List (List Int)) (nb n : Nat) (hp : 0 ≤ p0 ∧ p0 < t.length) (hF : ts.flatten.length + t.length < 60000) (he : rowE t (p0 + 1) - p0 - 1 ≤ 127) (hw : ws.length < 16384) (hs1 : ts.length < 16384) : zCT zy_PW_cutNameItself zm_PW_cutNameItself ((capN nb (ts.flatten.length + (rowE t (p0 + 1) - (p0 + 1)).toNat) - nb) + 4 * (capN n (addT ts (slc t (p0 + 1) (rowE t (p0 + 1)))).length - n) + 3 * (capN nw (ws.length + 1) - nw)) (2 * (capN nb (ts.flatten.length + (rowE t (p0 + 1) - (p0 + 1)).toNat) - nb) + 8 * (capN n (addT ts (slc t (p0 + 1) (rowE t (p0 + 1)))).length - n) + 6 * (capN nw (ws.length + 1) - nw)) [.ref h] [zObj h 0 [.ref ht, .ref hl, .ref hs, .ref ho, .ref hn, .int (zI (p0)), .int (zI (w0)), .int (zI (r0))], zBRow ht (t) (nt), zWL hl (ws) (nw), zTS hs (ts) ([]) (nb) (n)] (none) [zObj h 0 [.ref ht, .ref hl, .ref hs, .ref ho, .ref hn, .int (zI (rowE t (p0 + 1))), .int (zI (w0)), .int (zI (r0))], zBRow ht (t) (nt), zWL hl (ws ++ [(zI (4), zI ((ixOf ts (slc t (p0 + 1) (rowE t (p0 + 1))) : Nat) : Int), zI (p0))]) (capN nw (ws.length + 1)), zTS hs (addT ts (slc t (p0 + 1) (rowE t (p0 + 1)))) ([]) (capN nb (ts.flatten.length + (rowE t (p0 + 1) - (p0 + 1)).toNat)) (capN n (addT ts (slc t (p0 + 1) (rowE t (p0 + 1)))).length)] := by
  refine zCT.of [(0, .ref h)] rfl (by decide) rfl (fun h => by first | rfl | cases h) (Nat.le_of_ble_eq_true rfl) (fun X hR => ?_)
  refine zw_fact 1 rfl (fun G w h => zBR_fact h) (fun hbr => ?_)
  obtain ⟨⟨ht1, ht2, ht3⟩, hby⟩ := hbr
  refine zw_fact 2 rfl (fun G w h => zWL_fact h) (fun hwl => ?_)
  refine zw_fact 3 rfl (fun G w h => zTS_fact h) (fun hts => ?_)
  obtain ⟨hts1, hts2, hts3, hts4⟩ := hts
  refine zw_aload_n 0 rfl zd_PW_cutNameItself_0 ?_
  refine zw_get zc_PW 0 5 rfl (by decide) zf_PW_46 rfl zd_PW_cutNameItself_1 ?_
  refine zw_istore_n (lv' := [(1, .int (zI (p0))), (0, .ref h)]) (Nat.le_of_ble_eq_true rfl) rfl zd_PW_cutNameItself_4 ?_
  refine zw_aload_n 1 rfl zd_PW_cutNameItself_5 ?_
  refine zw_iload_n 0 rfl zd_PW_cutNameItself_6 ?_
  refine zw_iconst zd_PW_cutNameItself_7 ?_
  refine zw_iadd zd_PW_cutNameItself_8 ?_
  refine zw_callV (As := [.int (zI (p0 + 1))]) (rest := []) (L2 := [zWL hl (ws) (nw), zTS hs (ts) ([]) (nb) (n)]) (L' := [zObj h 0 [.ref ht, .ref hl, .ref hs, .ref ho, .ref hn, .int (zI (p0)), .int (zI (w0)), .int (zI (r0))], zBRow ht (t) (nt), zWL hl (ws) (nw), zTS hs (ts) ([]) (nb) (n)]) (stk' := [.int (zI (rowE t (p0 + 1)))]) (c_PW_rowEnd h ht hl hs ho hn t nt p0 w0 r0 (p0 + 1) (by omega)) [0, 1] [2, 3] rfl rfl rfl zcal_PW_rowEnd zl_PW_141 zin_PW_rowEnd zse_PW_rowEnd 0 rfl zRv_obj rfl (Nat.le_of_ble_eq_true rfl) (Nat.le_of_ble_eq_true rfl) (by omega) (by omega) rfl (Nat.le_of_ble_eq_true rfl) rfl rfl zd_PW_cutNameItself_9 ?_
  have re9 := rowE_rg (t := t) (z := p0 + 1) (by omega)
  refine zw_istore_n (lv' := [(2, .int (zI (rowE t (p0 + 1)))), (1, .int (zI (p0))), (0, .ref h)]) (Nat.le_of_ble_eq_true rfl) rfl zd_PW_cutNameItself_12 ?_
  refine zw_iload_n 0 rfl zd_PW_cutNameItself_13 ?_
  refine zw_iload_n 1 rfl zd_PW_cutNameItself_14 ?_
  refine zw_isub zd_PW_cutNameItself_15 ?_
  refine zw_iconst zd_PW_cutNameItself_16 ?_
  refine zw_isub zd_PW_cutNameItself_17 ?_
  refine zw_bipush rfl zd_PW_cutNameItself_18 ?_
  refine zw_icmp_le 33 (by omega) (by omega) zd_PW_cutNameItself_20 (by decide) (fun c20 => ?_) (fun c20 => ?_)
  · -- 20 -> 33
    refine zw_aload_n 2 rfl zd_PW_cutNameItself_33 ?_
    refine zw_iconst zd_PW_cutNameItself_34 ?_
    refine zw_iload_n 1 rfl zd_PW_cutNameItself_35 ?_
    refine zw_iload_n 1 rfl zd_PW_cutNameItself_36 ?_
    refine zw_iconst zd_PW_cutNameItself_37 ?_
    refine zw_iadd zd_PW_cutNameItself_38 ?_
    refine zw_iload_n 0 rfl zd_PW_cutNameItself_39 ?_
    refine zw_callV (As := [.int (zI (4)), .int (zI (p0)), .int (zI (p0 + 1)), .int (zI (rowE t (p0 + 1)))]) (rest := []) (L2 := []) (L' := [zObj h 0 [.ref ht, .ref hl, .ref hs, .ref ho, .ref hn, .int (zI (rowE t (p0 + 1))), .int (zI (w0)), .int (zI (r0))], zBRow ht (t) (nt), zWL hl (ws ++ [(zI (4), zI ((ixOf ts (slc t (p0 + 1) (rowE t (p0 + 1))) : Nat) : Int), zI (p0))]) (capN nw (ws.length + 1)), zTS hs (addT ts (slc t (p0 + 1) (rowE t (p0 + 1)))) ([]) (capN nb (ts.flatten.length + (rowE t (p0 + 1) - (p0 + 1)).toNat)) (capN n (addT ts (slc t (p0 + 1) (rowE t (p0 + 1)))).length)]) (stk' := []) (c_PW_addName h ht hl hs ho hn t nt p0 w0 r0 ws nw ts nb n 4 p0 (p0 + 1) (rowE t (p0 + 1)) (by omega) (by omega) (by omega) (by omega)) [0, 1, 2, 3] [] rfl rfl rfl zcal_PW_addName zl_PW_122 zin_PW_addName zse_PW_addName 0 rfl zRv_obj rfl (Nat.le_of_ble_eq_true rfl) (Nat.le_of_ble_eq_true rfl) (by omega) (by omega) rfl (Nat.le_of_ble_eq_true rfl) rfl rfl zd_PW_cutNameItself_40 ?_
    exact zw_vret hR rfl rfl rfl (by omega) (by omega) zd_PW_cutNameItself_43
  · -- 20 -> 23
    exact absurd c20 (by omega)
set_option maxHeartbeats 4000000 in
set_option maxRecDepth 100000 in
theorem c_PW_itself_bad (h ht hl hs ho hn : Nat) (t : List Int) (nt : Nat) (p0 w0 r0 : Int) (hp : 0 ≤ p0 ∧ p0 < t.length) (he : 127 < rowE t (p0 + 1) - p0 - 1) : zCT zy_PW_cutNameItself zm_PW_cutNameItself (0) (0) [.ref h] [zObj h 0 [.ref ht, .ref hl, .ref hs, .ref ho, .ref hn, .int (zI (p0)), .int (zI (w0)), .int (zI (r0))], zBRow ht (t) (nt)] (none) [zObj h 0 [.ref ht, .ref hl, .ref hs, .ref ho, .ref hn, .int (zI (p0)), .int (zI (6)), .int (zI (p0))], zBRow ht (t) (nt)] := by
  refine zCT.of [(0, .ref h)] rfl (by decide) rfl (fun h => by first | rfl | cases h) (Nat.le_of_ble_eq_true rfl) (fun X hR => ?_)
  refine zw_fact 1 rfl (fun G w h => zBR_fact h) (fun hbr => ?_)
  obtain ⟨⟨ht1, ht2, ht3⟩, hby⟩ := hbr
  refine zw_aload_n 0 rfl zd_PW_cutNameItself_0 ?_
  refine zw_get zc_PW 0 5 rfl (by decide) zf_PW_46 rfl zd_PW_cutNameItself_1 ?_
  refine zw_istore_n (lv' := [(1, .int (zI (p0))), (0, .ref h)]) (Nat.le_of_ble_eq_true rfl) rfl zd_PW_cutNameItself_4 ?_
  refine zw_aload_n 1 rfl zd_PW_cutNameItself_5 ?_
  refine zw_iload_n 0 rfl zd_PW_cutNameItself_6 ?_
  refine zw_iconst zd_PW_cutNameItself_7 ?_
  refine zw_iadd zd_PW_cutNameItself_8 ?_
  refine zw_callV (As := [.int (zI (p0 + 1))]) (rest := []) (L2 := []) (L' := [zObj h 0 [.ref ht, .ref hl, .ref hs, .ref ho, .ref hn, .int (zI (p0)), .int (zI (w0)), .int (zI (r0))], zBRow ht (t) (nt)]) (stk' := [.int (zI (rowE t (p0 + 1)))]) (c_PW_rowEnd h ht hl hs ho hn t nt p0 w0 r0 (p0 + 1) (by omega)) [0, 1] [] rfl rfl rfl zcal_PW_rowEnd zl_PW_141 zin_PW_rowEnd zse_PW_rowEnd 0 rfl zRv_obj rfl (Nat.le_of_ble_eq_true rfl) (Nat.le_of_ble_eq_true rfl) (by omega) (by omega) rfl (Nat.le_of_ble_eq_true rfl) rfl rfl zd_PW_cutNameItself_9 ?_
  have re9 := rowE_rg (t := t) (z := p0 + 1) (by omega)
  refine zw_istore_n (lv' := [(2, .int (zI (rowE t (p0 + 1)))), (1, .int (zI (p0))), (0, .ref h)]) (Nat.le_of_ble_eq_true rfl) rfl zd_PW_cutNameItself_12 ?_
  refine zw_iload_n 0 rfl zd_PW_cutNameItself_13 ?_
  refine zw_iload_n 1 rfl zd_PW_cutNameItself_14 ?_
  refine zw_isub zd_PW_cutNameItself_15 ?_
  refine zw_iconst zd_PW_cutNameItself_16 ?_
  refine zw_isub zd_PW_cutNameItself_17 ?_
  refine zw_bipush rfl zd_PW_cutNameItself_18 ?_
  refine zw_icmp_le 33 (by omega) (by omega) zd_PW_cutNameItself_20 (by decide) (fun c20 => ?_) (fun c20 => ?_)
  · -- 20 -> 33
    exact absurd c20 (by omega)
  · -- 20 -> 23
    refine zw_aload_n 2 rfl zd_PW_cutNameItself_23 ?_
    refine zw_bipush rfl zd_PW_cutNameItself_24 ?_
    refine zw_iload_n 1 rfl zd_PW_cutNameItself_26 ?_
    refine zw_callV (As := [.int (zI (6)), .int (zI (p0))]) (rest := []) (L2 := [zBRow ht (t) (nt)]) (L' := [zObj h 0 [.ref ht, .ref hl, .ref hs, .ref ho, .ref hn, .int (zI (p0)), .int (zI (6)), .int (zI (p0))], zBRow ht (t) (nt)]) (stk' := []) (c_PW_goWrong h ht hl hs ho hn p0 w0 r0 6 p0) [0] [1] rfl rfl rfl zcal_PW_goWrong zl_PW_75 zin_PW_goWrong zse_PW_goWrong 0 rfl zRv_obj rfl (Nat.le_of_ble_eq_true rfl) (Nat.le_of_ble_eq_true rfl) (by omega) (by omega) rfl (Nat.le_of_ble_eq_true rfl) rfl rfl zd_PW_cutNameItself_27 ?_
    refine zw_goto 43 zd_PW_cutNameItself_30 (by decide) ?_
    exact zw_vret hR rfl rfl rfl (by omega) (by omega) zd_PW_cutNameItself_43
set_option maxHeartbeats 4000000 in
set_option maxRecDepth 100000 in
theorem c_PW_open_ok (h ht hl hs ho hn : Nat) (p0 w0 r0 : Int) (ws : List (Int32 × Int32 × Int32)) (nw : Nat) (op : List Int) (hp : 0 ≤ p0 ∧ p0 ≤ 100000) (hol : op.length < 64) (hw : ws.length < 16384) : zCT zy_PW_cutOpenBrace zm_PW_cutOpenBrace (3 * (capN nw (ws.length + 1) - nw)) (6 * (capN nw (ws.length + 1) - nw)) [.ref h] [zObj h 0 [.ref ht, .ref hl, .ref hs, .ref ho, .ref hn, .int (zI (p0)), .int (zI (w0)), .int (zI (r0))], zWL hl (ws) (nw), zIRow ho (op.map zI) (64) (64)] (none) [zObj h 0 [.ref ht, .ref hl, .ref hs, .ref ho, .ref hn, .int (zI (p0 + 1)), .int (zI (w0)), .int (zI (r0))], zWL hl (ws ++ [(zI 6, zI (-1), zI p0)]) (capN nw (ws.length + 1)), zIRow ho ((op ++ [((ws.length : Nat) : Int)]).map zI) (64) (64)] := by
  refine zCT.of [(0, .ref h)] rfl (by decide) rfl (fun h => by first | rfl | cases h) (Nat.le_of_ble_eq_true rfl) (fun X hR => ?_)
  refine zw_fact 1 rfl (fun G w h => zWL_fact h) (fun hwl => ?_)
  have e9 : gcap op.length 64 = 64 := by rw [gcap, if_pos (by omega)]
  have mW := capN_ge nw (ws.length + 1)
  refine zw_aload_n 0 rfl zd_PW_cutOpenBrace_0 ?_
  refine zw_get zc_PW 0 3 rfl (by decide) zf_PW_35 rfl zd_PW_cutOpenBrace_1 ?_
  refine zw_callV (As := []) (rest := []) (L2 := [zObj h 0 [.ref ht, .ref hl, .ref hs, .ref ho, .ref hn, .int (zI (p0)), .int (zI (w0)), .int (zI (r0))], zWL hl (ws) (nw)]) (L' := [zIRow ho (op.map zI) (64) (64), zObj h 0 [.ref ht, .ref hl, .ref hs, .ref ho, .ref hn, .int (zI (p0)), .int (zI (w0)), .int (zI (r0))], zWL hl (ws) (nw)]) (stk' := [.int (zI (((op.length : Nat) : Int)))]) (c_IR_count ho (op.map zI) (64) (64) (op.length) (List.length_map ..)) [2] [0, 1] rfl rfl rfl zcal_IR_count zl_PW_74 zin_IR_count zse_IR_count 0 rfl zRv_IRow rfl (Nat.le_of_ble_eq_true rfl) (Nat.le_of_ble_eq_true rfl) (by omega) (by omega) rfl (Nat.le_of_ble_eq_true rfl) rfl rfl zd_PW_cutOpenBrace_4 ?_
  refine zw_bipush rfl zd_PW_cutOpenBrace_7 ?_
  refine zw_icmp_lt 23 (by omega) (by omega) zd_PW_cutOpenBrace_9 (by decide) (fun c9 => ?_) (fun c9 => ?_)
  · -- 9 -> 23
    refine zw_aload_n 0 rfl zd_PW_cutOpenBrace_23 ?_
    refine zw_get zc_PW 1 3 rfl (by decide) zf_PW_35 rfl zd_PW_cutOpenBrace_24 ?_
    refine zw_aload_n 0 rfl zd_PW_cutOpenBrace_27 ?_
    refine zw_get zc_PW 1 1 rfl (by decide) zf_PW_19 rfl zd_PW_cutOpenBrace_28 ?_
    refine zw_callV (As := []) (rest := [.ref ho]) (L2 := [zIRow ho (op.map zI) (64) (64), zObj h 0 [.ref ht, .ref hl, .ref hs, .ref ho, .ref hn, .int (zI (p0)), .int (zI (w0)), .int (zI (r0))]]) (L' := [zWL hl (ws) (nw), zIRow ho (op.map zI) (64) (64), zObj h 0 [.ref ht, .ref hl, .ref hs, .ref ho, .ref hn, .int (zI (p0)), .int (zI (w0)), .int (zI (r0))]]) (stk' := [.int (zI ((((ws).length : Nat) : Int))), .ref ho]) (c_WL_count hl (ws) (nw)) [2] [0, 1] rfl rfl rfl zcal_WL_count zl_PW_82 zin_WL_count zse_WL_count 0 rfl zRv_WL rfl (Nat.le_of_ble_eq_true rfl) (Nat.le_of_ble_eq_true rfl) (by omega) (by omega) rfl (Nat.le_of_ble_eq_true rfl) rfl rfl zd_PW_cutOpenBrace_31 ?_
    refine zw_callV (As := [.int (zI ((((ws).length : Nat) : Int)))]) (rest := []) (L2 := [zWL hl (ws) (nw), zObj h 0 [.ref ht, .ref hl, .ref hs, .ref ho, .ref hn, .int (zI (p0)), .int (zI (w0)), .int (zI (r0))]]) (L' := [zIRow ho ((op.map zI) ++ [(zI ((((ws).length : Nat) : Int)))]) (gcap (op.length) (64)) (64), zWL hl (ws) (nw), zObj h 0 [.ref ht, .ref hl, .ref hs, .ref ho, .ref hn, .int (zI (p0)), .int (zI (w0)), .int (zI (r0))]]) (stk' := []) (c_IR_add ho (op.map zI) (64) (64) (zI ((((ws).length : Nat) : Int))) (op.length) (List.length_map ..) (by omega) (by omega)) [1] [0, 2] rfl rfl rfl zcal_IR_add zl_PW_166 zin_IR_add zse_IR_add 0 rfl zRv_IRow rfl (Nat.le_of_ble_eq_true rfl) (Nat.le_of_ble_eq_true rfl) (by omega) (by omega) rfl (Nat.le_of_ble_eq_true rfl) rfl rfl zd_PW_cutOpenBrace_34 ?_
    refine zw_aload_n 0 rfl zd_PW_cutOpenBrace_37 ?_
    refine zw_get zc_PW 2 1 rfl (by decide) zf_PW_19 rfl zd_PW_cutOpenBrace_38 ?_
    refine zw_bipush rfl zd_PW_cutOpenBrace_41 ?_
    refine zw_iconst zd_PW_cutOpenBrace_43 ?_
    refine zw_aload_n 0 rfl zd_PW_cutOpenBrace_44 ?_
    refine zw_get zc_PW 2 5 rfl (by decide) zf_PW_46 rfl zd_PW_cutOpenBrace_45 ?_
    refine zw_callV (As := [.int (zI (6)), .int (zI (-1)), .int (zI (p0))]) (rest := []) (L2 := [zIRow ho ((op.map zI) ++ [(zI ((((ws).length : Nat) : Int)))]) (gcap (op.length) (64)) (64), zObj h 0 [.ref ht, .ref hl, .ref hs, .ref ho, .ref hn, .int (zI (p0)), .int (zI (w0)), .int (zI (r0))]]) (L' := [zWL hl (ws ++ [((zI (6)), (zI (-1)), (zI (p0)))]) (capN (nw) ((ws).length + 1)), zIRow ho ((op.map zI) ++ [(zI ((((ws).length : Nat) : Int)))]) (gcap (op.length) (64)) (64), zObj h 0 [.ref ht, .ref hl, .ref hs, .ref ho, .ref hn, .int (zI (p0)), .int (zI (w0)), .int (zI (r0))]]) (stk' := []) (c_WL_addC hl (ws) (nw) (zI (6)) (zI (-1)) (zI (p0)) (by omega) (by omega)) [1] [0, 2] rfl rfl rfl zcal_WL_add zl_PW_154 zin_WL_add zse_WL_add 0 rfl zRv_WL rfl (Nat.le_of_ble_eq_true rfl) (Nat.le_of_ble_eq_true rfl) (by omega) (by omega) rfl (Nat.le_of_ble_eq_true rfl) rfl rfl zd_PW_cutOpenBrace_48 ?_
    refine zw_aload_n 0 rfl zd_PW_cutOpenBrace_51 ?_
    refine zw_dup rfl zd_PW_cutOpenBrace_52 ?_
    refine zw_get zc_PW 2 5 rfl (by decide) zf_PW_46 rfl zd_PW_cutOpenBrace_53 ?_
    refine zw_iconst zd_PW_cutOpenBrace_56 ?_
    refine zw_iadd zd_PW_cutOpenBrace_57 ?_
    refine zw_put (L' := [zWL hl (ws ++ [((zI (6)), (zI (-1)), (zI (p0)))]) (capN (nw) ((ws).length + 1)), zIRow ho ((op.map zI) ++ [(zI ((((ws).length : Nat) : Int)))]) (gcap (op.length) (64)) (64), zObj h 0 [.ref ht, .ref hl, .ref hs, .ref ho, .ref hn, .int (zI (p0 + 1)), .int (zI (w0)), .int (zI (r0))]]) zc_PW 2 5 rfl (by decide) zf_PW_46 rfl rfl rfl (Nat.le_of_ble_eq_true rfl) rfl zd_PW_cutOpenBrace_58 ?_
    refine zw_sub (L' := [zObj h 0 [.ref ht, .ref hl, .ref hs, .ref ho, .ref hn, .int (zI (p0 + 1)), .int (zI (w0)), .int (zI (r0))], zWL hl (ws ++ [((zI (6)), (zI (-1)), (zI (p0)))]) (capN (nw) ((ws).length + 1)), zIRow ho ((op.map zI) ++ [(zI ((((ws).length : Nat) : Int)))]) (gcap (op.length) (64)) (64)]) [2, 0, 1] rfl rfl ?_
    exact zw_vret hR rfl (by rw [e9, List.map_append, List.map_cons, List.map_nil]) rfl (by omega) (by omega) zd_PW_cutOpenBrace_61
  · -- 9 -> 12
    exact absurd c9 (by omega)
set_option maxHeartbeats 4000000 in
set_option maxRecDepth 100000 in
theorem c_PW_open_bad (h ht hl hs ho hn : Nat) (p0 w0 r0 : Int) (op : List Int) (hol : 64 ≤ op.length ∧ op.length ≤ 1000) : zCT zy_PW_cutOpenBrace zm_PW_cutOpenBrace (0) (0) [.ref h] [zObj h 0 [.ref ht, .ref hl, .ref hs, .ref ho, .ref hn, .int (zI (p0)), .int (zI (w0)), .int (zI (r0))], zIRow ho (op.map zI) (64) (64)] (none) [zObj h 0 [.ref ht, .ref hl, .ref hs, .ref ho, .ref hn, .int (zI (p0)), .int (zI (7)), .int (zI (p0))], zIRow ho (op.map zI) (64) (64)] := by
  refine zCT.of [(0, .ref h)] rfl (by decide) rfl (fun h => by first | rfl | cases h) (Nat.le_of_ble_eq_true rfl) (fun X hR => ?_)
  refine zw_aload_n 0 rfl zd_PW_cutOpenBrace_0 ?_
  refine zw_get zc_PW 0 3 rfl (by decide) zf_PW_35 rfl zd_PW_cutOpenBrace_1 ?_
  refine zw_callV (As := []) (rest := []) (L2 := [zObj h 0 [.ref ht, .ref hl, .ref hs, .ref ho, .ref hn, .int (zI (p0)), .int (zI (w0)), .int (zI (r0))]]) (L' := [zIRow ho (op.map zI) (64) (64), zObj h 0 [.ref ht, .ref hl, .ref hs, .ref ho, .ref hn, .int (zI (p0)), .int (zI (w0)), .int (zI (r0))]]) (stk' := [.int (zI (((op.length : Nat) : Int)))]) (c_IR_count ho (op.map zI) (64) (64) (op.length) (List.length_map ..)) [1] [0] rfl rfl rfl zcal_IR_count zl_PW_74 zin_IR_count zse_IR_count 0 rfl zRv_IRow rfl (Nat.le_of_ble_eq_true rfl) (Nat.le_of_ble_eq_true rfl) (by omega) (by omega) rfl (Nat.le_of_ble_eq_true rfl) rfl rfl zd_PW_cutOpenBrace_4 ?_
  refine zw_bipush rfl zd_PW_cutOpenBrace_7 ?_
  refine zw_icmp_lt 23 (by omega) (by omega) zd_PW_cutOpenBrace_9 (by decide) (fun c9 => ?_) (fun c9 => ?_)
  · -- 9 -> 23
    exact absurd c9 (by omega)
  · -- 9 -> 12
    refine zw_aload_n 0 rfl zd_PW_cutOpenBrace_12 ?_
    refine zw_bipush rfl zd_PW_cutOpenBrace_13 ?_
    refine zw_aload_n 0 rfl zd_PW_cutOpenBrace_15 ?_
    refine zw_get zc_PW 1 5 rfl (by decide) zf_PW_46 rfl zd_PW_cutOpenBrace_16 ?_
    refine zw_callV (As := [.int (zI (7)), .int (zI (p0))]) (rest := []) (L2 := [zIRow ho (op.map zI) (64) (64)]) (L' := [zObj h 0 [.ref ht, .ref hl, .ref hs, .ref ho, .ref hn, .int (zI (p0)), .int (zI (7)), .int (zI (p0))], zIRow ho (op.map zI) (64) (64)]) (stk' := []) (c_PW_goWrong h ht hl hs ho hn p0 w0 r0 7 p0) [1] [0] rfl rfl rfl zcal_PW_goWrong zl_PW_75 zin_PW_goWrong zse_PW_goWrong 0 rfl zRv_obj rfl (Nat.le_of_ble_eq_true rfl) (Nat.le_of_ble_eq_true rfl) (by omega) (by omega) rfl (Nat.le_of_ble_eq_true rfl) rfl rfl zd_PW_cutOpenBrace_19 ?_
    exact zw_vret hR rfl rfl rfl (by omega) (by omega) zd_PW_cutOpenBrace_22
set_option maxHeartbeats 4000000 in
set_option maxRecDepth 100000 in
theorem c_PW_close_ok (h ht hl hs ho hn : Nat) (p0 w0 r0 : Int) (ws : List (Int32 × Int32 × Int32)) (nw : Nat) (op : List Int) (hp : 0 ≤ p0 ∧ p0 ≤ 100000) (hol : 0 < op.length ∧ op.length ≤ 1000) (hop : ∀ x ∈ op, 0 ≤ x ∧ x < 16384) (hw : ws.length < 16384) : zCT zy_PW_cutCloseBrace zm_PW_cutCloseBrace (3 * (capN nw (ws.length + 1) - nw)) (6 * (capN nw (ws.length + 1) - nw)) [.ref h] [zObj h 0 [.ref ht, .ref hl, .ref hs, .ref ho, .ref hn, .int (zI (p0)), .int (zI (w0)), .int (zI (r0))], zWL hl (ws) (nw), zIRow ho (op.map zI) (64) (64)] (none) [zObj h 0 [.ref ht, .ref hl, .ref hs, .ref ho, .ref hn, .int (zI (p0 + 1)), .int (zI (w0)), .int (zI (r0))], zWL hl (wsetN ws (op.getD (op.length - 1) 0) (zI ((ws.length : Nat) : Int)) ++ [(zI 7, zI (op.getD (op.length - 1) 0), zI p0)]) (capN nw (ws.length + 1)), zIRow ho ((op.take (op.length - 1)).map zI) (64) (64)] := by
  refine zCT.of [(0, .ref h)] rfl (by decide) rfl (fun h => by first | rfl | cases h) (Nat.le_of_ble_eq_true rfl) (fun X hR => ?_)
  refine zw_fact 1 rfl (fun G w h => zWL_fact h) (fun hwl => ?_)
  have ho2 := hop (op.getD (op.length - 1) 0) (zmem_getD (by omega))
  have mW := capN_ge nw (ws.length + 1)
  have e9 : iget (op.map zI) (((op.length : Nat) : Int) - 1) = zI (op.getD (op.length - 1) 0) := by rw [iget, List.length_map, if_pos (by omega), zgD_map _ _ 0 _ (by omega), show (((op.length : Nat) : Int) - 1).toNat = op.length - 1 by omega]
  have e8 : rshort (op.map zI) (((op.length : Nat) : Int) - 1) = (op.take (op.length - 1)).map zI := by rw [rshort, List.length_map, if_pos (by omega), List.map_take, show (((op.length : Nat) : Int) - 1).toNat = op.length - 1 by omega]
  have e7 := wsetN_len ws (op.getD (op.length - 1) 0) (zI ((ws.length : Nat) : Int))
  refine zw_aload_n 0 rfl zd_PW_cutCloseBrace_0 ?_
  refine zw_get zc_PW 0 3 rfl (by decide) zf_PW_35 rfl zd_PW_cutCloseBrace_1 ?_
  refine zw_callV (As := []) (rest := []) (L2 := [zObj h 0 [.ref ht, .ref hl, .ref hs, .ref ho, .ref hn, .int (zI (p0)), .int (zI (w0)), .int (zI (r0))], zWL hl (ws) (nw)]) (L' := [zIRow ho (op.map zI) (64) (64), zObj h 0 [.ref ht, .ref hl, .ref hs, .ref ho, .ref hn, .int (zI (p0)), .int (zI (w0)), .int (zI (r0))], zWL hl (ws) (nw)]) (stk' := [.int (zI (((op.length : Nat) : Int)))]) (c_IR_count ho (op.map zI) (64) (64) (op.length) (List.length_map ..)) [2] [0, 1] rfl rfl rfl zcal_IR_count zl_PW_74 zin_IR_count zse_IR_count 0 rfl zRv_IRow rfl (Nat.le_of_ble_eq_true rfl) (Nat.le_of_ble_eq_true rfl) (by omega) (by omega) rfl (Nat.le_of_ble_eq_true rfl) rfl rfl zd_PW_cutCloseBrace_4 ?_
  refine zw_if_ne 20 (by omega) zd_PW_cutCloseBrace_7 (by decide) (fun c7 => ?_) (fun c7 => ?_)
  · -- 7 -> 20
    refine zw_aload_n 0 rfl zd_PW_cutCloseBrace_20 ?_
    refine zw_get zc_PW 1 3 rfl (by decide) zf_PW_35 rfl zd_PW_cutCloseBrace_21 ?_
    refine zw_aload_n 0 rfl zd_PW_cutCloseBrace_24 ?_
    refine zw_get zc_PW 1 3 rfl (by decide) zf_PW_35 rfl zd_PW_cutCloseBrace_25 ?_
    refine zw_callV (As := []) (rest := [.ref ho]) (L2 := [zObj h 0 [.ref ht, .ref hl, .ref hs, .ref ho, .ref hn, .int (zI (p0)), .int (zI (w0)), .int (zI (r0))], zWL hl (ws) (nw)]) (L' := [zIRow ho (op.map zI) (64) (64), zObj h 0 [.ref ht, .ref hl, .ref hs, .ref ho, .ref hn, .int (zI (p0)), .int (zI (w0)), .int (zI (r0))], zWL hl (ws) (nw)]) (stk' := [.int (zI (((op.length : Nat) : Int))), .ref ho]) (c_IR_count ho (op.map zI) (64) (64) (op.length) (List.length_map ..)) [0] [1, 2] rfl rfl rfl zcal_IR_count zl_PW_74 zin_IR_count zse_IR_count 0 rfl zRv_IRow rfl (Nat.le_of_ble_eq_true rfl) (Nat.le_of_ble_eq_true rfl) (by omega) (by omega) rfl (Nat.le_of_ble_eq_true rfl) rfl rfl zd_PW_cutCloseBrace_28 ?_
    refine zw_iconst zd_PW_cutCloseBrace_31 ?_
    refine zw_isub zd_PW_cutCloseBrace_32 ?_
    refine zw_callV (As := [.int (zI ((((op.length : Nat) : Int)) - 1))]) (rest := []) (L2 := [zObj h 0 [.ref ht, .ref hl, .ref hs, .ref ho, .ref hn, .int (zI (p0)), .int (zI (w0)), .int (zI (r0))], zWL hl (ws) (nw)]) (L' := [zIRow ho (op.map zI) (64) (64), zObj h 0 [.ref ht, .ref hl, .ref hs, .ref ho, .ref hn, .int (zI (p0)), .int (zI (w0)), .int (zI (r0))], zWL hl (ws) (nw)]) (stk' := [.int (iget (op.map zI) ((((op.length : Nat) : Int)) - 1))]) (c_IR_get ho (op.map zI) (64) (64) ((((op.length : Nat) : Int)) - 1) (by omega)) [0] [1, 2] rfl rfl rfl zcal_IR_get zl_PW_167 zin_IR_get zse_IR_get 0 rfl zRv_IRow rfl (Nat.le_of_ble_eq_true rfl) (Nat.le_of_ble_eq_true rfl) (by omega) (by omega) rfl (Nat.le_of_ble_eq_true rfl) rfl rfl zd_PW_cutCloseBrace_33 ?_
    refine zw_topE e9 ?_
    refine zw_istore_n (lv' := [(1, .int (zI (op.getD (op.length - 1) 0))), (0, .ref h)]) (Nat.le_of_ble_eq_true rfl) rfl zd_PW_cutCloseBrace_36 ?_
    refine zw_aload_n 1 rfl zd_PW_cutCloseBrace_37 ?_
    refine zw_get zc_PW 1 3 rfl (by decide) zf_PW_35 rfl zd_PW_cutCloseBrace_38 ?_
    refine zw_aload_n 1 rfl zd_PW_cutCloseBrace_41 ?_
    refine zw_get zc_PW 1 3 rfl (by decide) zf_PW_35 rfl zd_PW_cutCloseBrace_42 ?_
    refine zw_callV (As := []) (rest := [.ref ho]) (L2 := [zObj h 0 [.ref ht, .ref hl, .ref hs, .ref ho, .ref hn, .int (zI (p0)), .int (zI (w0)), .int (zI (r0))], zWL hl (ws) (nw)]) (L' := [zIRow ho (op.map zI) (64) (64), zObj h 0 [.ref ht, .ref hl, .ref hs, .ref ho, .ref hn, .int (zI (p0)), .int (zI (w0)), .int (zI (r0))], zWL hl (ws) (nw)]) (stk' := [.int (zI (((op.length : Nat) : Int))), .ref ho]) (c_IR_count ho (op.map zI) (64) (64) (op.length) (List.length_map ..)) [0] [1, 2] rfl rfl rfl zcal_IR_count zl_PW_74 zin_IR_count zse_IR_count 0 rfl zRv_IRow rfl (Nat.le_of_ble_eq_true rfl) (Nat.le_of_ble_eq_true rfl) (by omega) (by omega) rfl (Nat.le_of_ble_eq_true rfl) rfl rfl zd_PW_cutCloseBrace_45 ?_
    refine zw_iconst zd_PW_cutCloseBrace_48 ?_
    refine zw_isub zd_PW_cutCloseBrace_49 ?_
    refine zw_callV (As := [.int (zI ((((op.length : Nat) : Int)) - 1))]) (rest := []) (L2 := [zObj h 0 [.ref ht, .ref hl, .ref hs, .ref ho, .ref hn, .int (zI (p0)), .int (zI (w0)), .int (zI (r0))], zWL hl (ws) (nw)]) (L' := [zIRow ho (rshort (op.map zI) ((((op.length : Nat) : Int)) - 1)) (64) (64), zObj h 0 [.ref ht, .ref hl, .ref hs, .ref ho, .ref hn, .int (zI (p0)), .int (zI (w0)), .int (zI (r0))], zWL hl (ws) (nw)]) (stk' := []) (c_IR_shorten ho (op.map zI) (64) (64) ((((op.length : Nat) : Int)) - 1) (by omega)) [0] [1, 2] rfl rfl rfl zcal_IR_shorten zl_PW_105 zin_IR_shorten zse_IR_shorten 0 rfl zRv_IRow rfl (Nat.le_of_ble_eq_true rfl) (Nat.le_of_ble_eq_true rfl) (by omega) (by omega) rfl (Nat.le_of_ble_eq_true rfl) rfl rfl zd_PW_cutCloseBrace_50 ?_
    refine zw_aload_n 1 rfl zd_PW_cutCloseBrace_53 ?_
    refine zw_get zc_PW 1 1 rfl (by decide) zf_PW_19 rfl zd_PW_cutCloseBrace_54 ?_
    refine zw_iload_n 0 rfl zd_PW_cutCloseBrace_57 ?_
    refine zw_aload_n 1 rfl zd_PW_cutCloseBrace_58 ?_
    refine zw_get zc_PW 1 1 rfl (by decide) zf_PW_19 rfl zd_PW_cutCloseBrace_59 ?_
    refine zw_callV (As := []) (rest := [.int (zI (op.getD (op.length - 1) 0)), .ref hl]) (L2 := [zIRow ho (rshort (op.map zI) ((((op.length : Nat) : Int)) - 1)) (64) (64), zObj h 0 [.ref ht, .ref hl, .ref hs, .ref ho, .ref hn, .int (zI (p0)), .int (zI (w0)), .int (zI (r0))]]) (L' := [zWL hl (ws) (nw), zIRow ho (rshort (op.map zI) ((((op.length : Nat) : Int)) - 1)) (64) (64), zObj h 0 [.ref ht, .ref hl, .ref hs, .ref ho, .ref hn, .int (zI (p0)), .int (zI (w0)), .int (zI (r0))]]) (stk' := [.int (zI ((((ws).length : Nat) : Int))), .int (zI (op.getD (op.length - 1) 0)), .ref hl]) (c_WL_count hl (ws) (nw)) [2] [0, 1] rfl rfl rfl zcal_WL_count zl_PW_82 zin_WL_count zse_WL_count 0 rfl zRv_WL rfl (Nat.le_of_ble_eq_true rfl) (Nat.le_of_ble_eq_true rfl) (by omega) (by omega) rfl (Nat.le_of_ble_eq_true rfl) rfl rfl zd_PW_cutCloseBrace_62 ?_
    refine zw_callV (As := [.int (zI (op.getD (op.length - 1) 0)), .int (zI ((((ws).length : Nat) : Int)))]) (rest := []) (L2 := [zIRow ho (rshort (op.map zI) ((((op.length : Nat) : Int)) - 1)) (64) (64), zObj h 0 [.ref ht, .ref hl, .ref hs, .ref ho, .ref hn, .int (zI (p0)), .int (zI (w0)), .int (zI (r0))]]) (L' := [zWL hl (wsetN ws (op.getD (op.length - 1) 0) (zI ((((ws).length : Nat) : Int)))) (nw), zIRow ho (rshort (op.map zI) ((((op.length : Nat) : Int)) - 1)) (64) (64), zObj h 0 [.ref ht, .ref hl, .ref hs, .ref ho, .ref hn, .int (zI (p0)), .int (zI (w0)), .int (zI (r0))]]) (stk' := []) (c_WL_setNumber hl (ws) (nw) (op.getD (op.length - 1) 0) (by omega) (zI ((((ws).length : Nat) : Int)))) [0] [1, 2] rfl rfl rfl zcal_WL_setNumber zl_PW_168 zin_WL_setNumber zse_WL_setNumber 0 rfl zRv_WL rfl (Nat.le_of_ble_eq_true rfl) (Nat.le_of_ble_eq_true rfl) (by omega) (by omega) rfl (Nat.le_of_ble_eq_true rfl) rfl rfl zd_PW_cutCloseBrace_65 ?_
    have mW2 : capN nw ((wsetN ws (op.getD (op.length - 1) 0) (zI ((ws.length : Nat) : Int))).length + 1) = capN nw (ws.length + 1) := by rw [e7]
    refine zw_aload_n 1 rfl zd_PW_cutCloseBrace_68 ?_
    refine zw_get zc_PW 2 1 rfl (by decide) zf_PW_19 rfl zd_PW_cutCloseBrace_69 ?_
    refine zw_bipush rfl zd_PW_cutCloseBrace_72 ?_
    refine zw_iload_n 0 rfl zd_PW_cutCloseBrace_74 ?_
    refine zw_aload_n 1 rfl zd_PW_cutCloseBrace_75 ?_
    refine zw_get zc_PW 2 5 rfl (by decide) zf_PW_46 rfl zd_PW_cutCloseBrace_76 ?_
    refine zw_callV (As := [.int (zI (7)), .int (zI (op.getD (op.length - 1) 0)), .int (zI (p0))]) (rest := []) (L2 := [zIRow ho (rshort (op.map zI) ((((op.length : Nat) : Int)) - 1)) (64) (64), zObj h 0 [.ref ht, .ref hl, .ref hs, .ref ho, .ref hn, .int (zI (p0)), .int (zI (w0)), .int (zI (r0))]]) (L' := [zWL hl ((wsetN ws (op.getD (op.length - 1) 0) (zI ((((ws).length : Nat) : Int)))) ++ [((zI (7)), (zI (op.getD (op.length - 1) 0)), (zI (p0)))]) (capN (nw) ((wsetN ws (op.getD (op.length - 1) 0) (zI ((((ws).length : Nat) : Int)))).length + 1)), zIRow ho (rshort (op.map zI) ((((op.length : Nat) : Int)) - 1)) (64) (64), zObj h 0 [.ref ht, .ref hl, .ref hs, .ref ho, .ref hn, .int (zI (p0)), .int (zI (w0)), .int (zI (r0))]]) (stk' := []) (c_WL_addC hl (wsetN ws (op.getD (op.length - 1) 0) (zI ((((ws).length : Nat) : Int)))) (nw) (zI (7)) (zI (op.getD (op.length - 1) 0)) (zI (p0)) (by rw [e7]; omega) (by rw [e7]; omega)) [0] [1, 2] rfl rfl rfl zcal_WL_add zl_PW_154 zin_WL_add zse_WL_add 0 rfl zRv_WL rfl (Nat.le_of_ble_eq_true rfl) (Nat.le_of_ble_eq_true rfl) (by omega) (by omega) rfl (Nat.le_of_ble_eq_true rfl) rfl rfl zd_PW_cutCloseBrace_79 ?_
    refine zw_aload_n 1 rfl zd_PW_cutCloseBrace_82 ?_
    refine zw_dup rfl zd_PW_cutCloseBrace_83 ?_
    refine zw_get zc_PW 2 5 rfl (by decide) zf_PW_46 rfl zd_PW_cutCloseBrace_84 ?_
    refine zw_iconst zd_PW_cutCloseBrace_87 ?_
    refine zw_iadd zd_PW_cutCloseBrace_88 ?_
    refine zw_put (L' := [zWL hl ((wsetN ws (op.getD (op.length - 1) 0) (zI ((((ws).length : Nat) : Int)))) ++ [((zI (7)), (zI (op.getD (op.length - 1) 0)), (zI (p0)))]) (capN (nw) ((wsetN ws (op.getD (op.length - 1) 0) (zI ((((ws).length : Nat) : Int)))).length + 1)), zIRow ho (rshort (op.map zI) ((((op.length : Nat) : Int)) - 1)) (64) (64), zObj h 0 [.ref ht, .ref hl, .ref hs, .ref ho, .ref hn, .int (zI (p0 + 1)), .int (zI (w0)), .int (zI (r0))]]) zc_PW 2 5 rfl (by decide) zf_PW_46 rfl rfl rfl (Nat.le_of_ble_eq_true rfl) rfl zd_PW_cutCloseBrace_89 ?_
    refine zw_sub (L' := [zObj h 0 [.ref ht, .ref hl, .ref hs, .ref ho, .ref hn, .int (zI (p0 + 1)), .int (zI (w0)), .int (zI (r0))], zWL hl ((wsetN ws (op.getD (op.length - 1) 0) (zI ((((ws).length : Nat) : Int)))) ++ [((zI (7)), (zI (op.getD (op.length - 1) 0)), (zI (p0)))]) (capN (nw) ((wsetN ws (op.getD (op.length - 1) 0) (zI ((((ws).length : Nat) : Int)))).length + 1)), zIRow ho (rshort (op.map zI) ((((op.length : Nat) : Int)) - 1)) (64) (64)]) [2, 0, 1] rfl rfl ?_
    exact zw_vret hR rfl (by rw [e8, e7]) rfl (by rw [e7]; omega) (by rw [e7]; omega) zd_PW_cutCloseBrace_92
  · -- 7 -> 10
    exact absurd c7 (by omega)
set_option maxHeartbeats 4000000 in
set_option maxRecDepth 100000 in
theorem c_PW_close_bad (h ht hl hs ho hn : Nat) (p0 w0 r0 : Int) (op : List Int) (hol : op.length = 0) : zCT zy_PW_cutCloseBrace zm_PW_cutCloseBrace (0) (0) [.ref h] [zObj h 0 [.ref ht, .ref hl, .ref hs, .ref ho, .ref hn, .int (zI (p0)), .int (zI (w0)), .int (zI (r0))], zIRow ho (op.map zI) (64) (64)] (none) [zObj h 0 [.ref ht, .ref hl, .ref hs, .ref ho, .ref hn, .int (zI (p0)), .int (zI (4)), .int (zI (p0))], zIRow ho (op.map zI) (64) (64)] := by
  refine zCT.of [(0, .ref h)] rfl (by decide) rfl (fun h => by first | rfl | cases h) (Nat.le_of_ble_eq_true rfl) (fun X hR => ?_)
  refine zw_aload_n 0 rfl zd_PW_cutCloseBrace_0 ?_
  refine zw_get zc_PW 0 3 rfl (by decide) zf_PW_35 rfl zd_PW_cutCloseBrace_1 ?_
  refine zw_callV (As := []) (rest := []) (L2 := [zObj h 0 [.ref ht, .ref hl, .ref hs, .ref ho, .ref hn, .int (zI (p0)), .int (zI (w0)), .int (zI (r0))]]) (L' := [zIRow ho (op.map zI) (64) (64), zObj h 0 [.ref ht, .ref hl, .ref hs, .ref ho, .ref hn, .int (zI (p0)), .int (zI (w0)), .int (zI (r0))]]) (stk' := [.int (zI (((op.length : Nat) : Int)))]) (c_IR_count ho (op.map zI) (64) (64) (op.length) (List.length_map ..)) [1] [0] rfl rfl rfl zcal_IR_count zl_PW_74 zin_IR_count zse_IR_count 0 rfl zRv_IRow rfl (Nat.le_of_ble_eq_true rfl) (Nat.le_of_ble_eq_true rfl) (by omega) (by omega) rfl (Nat.le_of_ble_eq_true rfl) rfl rfl zd_PW_cutCloseBrace_4 ?_
  refine zw_if_ne 20 (by omega) zd_PW_cutCloseBrace_7 (by decide) (fun c7 => ?_) (fun c7 => ?_)
  · -- 7 -> 20
    exact absurd c7 (by omega)
  · -- 7 -> 10
    refine zw_aload_n 0 rfl zd_PW_cutCloseBrace_10 ?_
    refine zw_iconst zd_PW_cutCloseBrace_11 ?_
    refine zw_aload_n 0 rfl zd_PW_cutCloseBrace_12 ?_
    refine zw_get zc_PW 1 5 rfl (by decide) zf_PW_46 rfl zd_PW_cutCloseBrace_13 ?_
    refine zw_callV (As := [.int (zI (4)), .int (zI (p0))]) (rest := []) (L2 := [zIRow ho (op.map zI) (64) (64)]) (L' := [zObj h 0 [.ref ht, .ref hl, .ref hs, .ref ho, .ref hn, .int (zI (p0)), .int (zI (4)), .int (zI (p0))], zIRow ho (op.map zI) (64) (64)]) (stk' := []) (c_PW_goWrong h ht hl hs ho hn p0 w0 r0 4 p0) [1] [0] rfl rfl rfl zcal_PW_goWrong zl_PW_75 zin_PW_goWrong zse_PW_goWrong 0 rfl zRv_obj rfl (Nat.le_of_ble_eq_true rfl) (Nat.le_of_ble_eq_true rfl) (by omega) (by omega) rfl (Nat.le_of_ble_eq_true rfl) rfl rfl zd_PW_cutCloseBrace_16 ?_
    exact zw_vret hR rfl rfl rfl (by omega) (by omega) zd_PW_cutCloseBrace_19
set_option maxHeartbeats 4000000 in
set_option maxRecDepth 100000 in
theorem c_PW_angle_name (h ht hl hs ho hn : Nat) (t : List Int) (nt : Nat) (p0 w0 r0 : Int) (ws : List (Int32 × Int32 × Int32)) (nw : Nat) (ts : List (List Int)) (nb n : Nat) (hp : 0 ≤ p0 ∧ p0 < t.length) (hF : ts.flatten.length + t.length < 60000) (hb2 : bget t (p0 + 1) = bget t p0) (hw : ws.length < 16384) (hs1 : ts.length < 16384) : zCT zy_PW_cutAngle zm_PW_cutAngle ((capN nb (ts.flatten.length + (p0 + 2 - p0).toNat) - nb) + 4 * (capN n (addT ts (slc t p0 (p0 + 2))).length - n) + 3 * (capN nw (ws.length + 1) - nw)) (2 * (capN nb (ts.flatten.length + (p0 + 2 - p0).toNat) - nb) + 8 * (capN n (addT ts (slc t p0 (p0 + 2))).length - n) + 6 * (capN nw (ws.length + 1) - nw)) [.ref h] [zObj h 0 [.ref ht, .ref hl, .ref hs, .ref ho, .ref hn, .int (zI (p0)), .int (zI (w0)), .int (zI (r0))], zBRow ht (t) (nt), zWL hl (ws) (nw), zTS hs (ts) ([]) (nb) (n)] (none) [zObj h 0 [.ref ht, .ref hl, .ref hs, .ref ho, .ref hn, .int (zI (p0 + 2)), .int (zI (w0)), .int (zI (r0))], zBRow ht (t) (nt), zWL hl (ws ++ [(zI (3), zI ((ixOf ts (slc t p0 (p0 + 2)) : Nat) : Int), zI (p0))]) (capN nw (ws.length + 1)), zTS hs (addT ts (slc t p0 (p0 + 2))) ([]) (capN nb (ts.flatten.length + (p0 + 2 - p0).toNat)) (capN n (addT ts (slc t p0 (p0 + 2))).length)] := by
  refine zCT.of [(0, .ref h)] rfl (by decide) rfl (fun h => by first | rfl | cases h) (Nat.le_of_ble_eq_true rfl) (fun X hR => ?_)
  refine zw_fact 1 rfl (fun G w h => zBR_fact h) (fun hbr => ?_)
  obtain ⟨⟨ht1, ht2, ht3⟩, hby⟩ := hbr
  refine zw_fact 2 rfl (fun G w h => zWL_fact h) (fun hwl => ?_)
  refine zw_fact 3 rfl (fun G w h => zTS_fact h) (fun hts => ?_)
  obtain ⟨hts1, hts2, hts3, hts4⟩ := hts
  have b9 := bget_in (l := t) (z := p0 + 1) (by have := bget_byte hby hp; omega)
  refine zw_aload_n 0 rfl zd_PW_cutAngle_0 ?_
  refine zw_get zc_PW 0 0 rfl (by decide) zf_PW_10 rfl zd_PW_cutAngle_1 ?_
  refine zw_aload_n 0 rfl zd_PW_cutAngle_4 ?_
  refine zw_get zc_PW 0 5 rfl (by decide) zf_PW_46 rfl zd_PW_cutAngle_5 ?_
  refine zw_callV (As := [.int (zI (p0))]) (rest := []) (L2 := [zObj h 0 [.ref ht, .ref hl, .ref hs, .ref ho, .ref hn, .int (zI (p0)), .int (zI (w0)), .int (zI (r0))], zWL hl (ws) (nw), zTS hs (ts) ([]) (nb) (n)]) (L' := [zBRow ht (t) (nt), zObj h 0 [.ref ht, .ref hl, .ref hs, .ref ho, .ref hn, .int (zI (p0)), .int (zI (w0)), .int (zI (r0))], zWL hl (ws) (nw), zTS hs (ts) ([]) (nb) (n)]) (stk' := [.int (zI (bget t p0))]) (c_BR_get ht (t) (nt) (p0) (by omega)) [1] [0, 2, 3] rfl rfl rfl zcal_BR_get zl_PW_106 zin_BR_get zse_BR_get 0 rfl zRv_BRow rfl (Nat.le_of_ble_eq_true rfl) (Nat.le_of_ble_eq_true rfl) (by omega) (by omega) rfl (Nat.le_of_ble_eq_true rfl) rfl rfl zd_PW_cutAngle_8 ?_
  have rg8 := bget_rg hby (p0)
  refine zw_istore_n (lv' := [(1, .int (zI (bget t p0))), (0, .ref h)]) (Nat.le_of_ble_eq_true rfl) rfl zd_PW_cutAngle_11 ?_
  refine zw_aload_n 1 rfl zd_PW_cutAngle_12 ?_
  refine zw_get zc_PW 1 0 rfl (by decide) zf_PW_10 rfl zd_PW_cutAngle_13 ?_
  refine zw_aload_n 1 rfl zd_PW_cutAngle_16 ?_
  refine zw_get zc_PW 1 5 rfl (by decide) zf_PW_46 rfl zd_PW_cutAngle_17 ?_
  refine zw_iconst zd_PW_cutAngle_20 ?_
  refine zw_iadd zd_PW_cutAngle_21 ?_
  refine zw_callV (As := [.int (zI (p0 + 1))]) (rest := []) (L2 := [zObj h 0 [.ref ht, .ref hl, .ref hs, .ref ho, .ref hn, .int (zI (p0)), .int (zI (w0)), .int (zI (r0))], zWL hl (ws) (nw), zTS hs (ts) ([]) (nb) (n)]) (L' := [zBRow ht (t) (nt), zObj h 0 [.ref ht, .ref hl, .ref hs, .ref ho, .ref hn, .int (zI (p0)), .int (zI (w0)), .int (zI (r0))], zWL hl (ws) (nw), zTS hs (ts) ([]) (nb) (n)]) (stk' := [.int (zI (bget t (p0 + 1)))]) (c_BR_get ht (t) (nt) (p0 + 1) (by omega)) [0] [1, 2, 3] rfl rfl rfl zcal_BR_get zl_PW_106 zin_BR_get zse_BR_get 0 rfl zRv_BRow rfl (Nat.le_of_ble_eq_true rfl) (Nat.le_of_ble_eq_true rfl) (by omega) (by omega) rfl (Nat.le_of_ble_eq_true rfl) rfl rfl zd_PW_cutAngle_22 ?_
  have rg22 := bget_rg hby (p0 + 1)
  refine zw_iload_n 0 rfl zd_PW_cutAngle_25 ?_
  refine zw_icmp_ne 51 (by omega) (by omega) zd_PW_cutAngle_26 (by decide) (fun c26 => ?_) (fun c26 => ?_)
  · -- 26 -> 51
    exact absurd c26 (by omega)
  · -- 26 -> 29
    refine zw_aload_n 1 rfl zd_PW_cutAngle_29 ?_
    refine zw_iconst zd_PW_cutAngle_30 ?_
    refine zw_aload_n 1 rfl zd_PW_cutAngle_31 ?_
    refine zw_get zc_PW 1 5 rfl (by decide) zf_PW_46 rfl zd_PW_cutAngle_32 ?_
    refine zw_aload_n 1 rfl zd_PW_cutAngle_35 ?_
    refine zw_get zc_PW 1 5 rfl (by decide) zf_PW_46 rfl zd_PW_cutAngle_36 ?_
    refine zw_aload_n 1 rfl zd_PW_cutAngle_39 ?_
    refine zw_get zc_PW 1 5 rfl (by decide) zf_PW_46 rfl zd_PW_cutAngle_40 ?_
    refine zw_iconst zd_PW_cutAngle_43 ?_
    refine zw_iadd zd_PW_cutAngle_44 ?_
    refine zw_callV (As := [.int (zI (3)), .int (zI (p0)), .int (zI (p0)), .int (zI (p0 + 2))]) (rest := []) (L2 := []) (L' := [zObj h 0 [.ref ht, .ref hl, .ref hs, .ref ho, .ref hn, .int (zI (p0 + 2)), .int (zI (w0)), .int (zI (r0))], zBRow ht (t) (nt), zWL hl (ws ++ [(zI (3), zI ((ixOf ts (slc t p0 (p0 + 2)) : Nat) : Int), zI (p0))]) (capN nw (ws.length + 1)), zTS hs (addT ts (slc t p0 (p0 + 2))) ([]) (capN nb (ts.flatten.length + (p0 + 2 - p0).toNat)) (capN n (addT ts (slc t p0 (p0 + 2))).length)]) (stk' := []) (c_PW_addName h ht hl hs ho hn t nt p0 w0 r0 ws nw ts nb n 3 p0 p0 (p0 + 2) (by omega) (by omega) (by omega) (by omega)) [1, 0, 2, 3] [] rfl rfl rfl zcal_PW_addName zl_PW_122 zin_PW_addName zse_PW_addName 0 rfl zRv_obj rfl (Nat.le_of_ble_eq_true rfl) (Nat.le_of_ble_eq_true rfl) (by omega) (by omega) rfl (Nat.le_of_ble_eq_true rfl) rfl rfl zd_PW_cutAngle_45 ?_
    refine zw_goto 73 zd_PW_cutAngle_48 (by decide) ?_
    exact zw_vret hR rfl rfl rfl (by omega) (by omega) zd_PW_cutAngle_73
set_option maxHeartbeats 4000000 in
set_option maxRecDepth 100000 in
theorem c_PW_angle_ok (h ht hl hs ho hn : Nat) (t : List Int) (nt : Nat) (p0 w0 r0 : Int) (ws : List (Int32 × Int32 × Int32)) (nw : Nat) (ts : List (List Int)) (nb n : Nat) (hp : 0 ≤ p0 ∧ p0 < t.length) (hF : ts.flatten.length + t.length < 60000) (hb1 : bget t p0 = 60) (hb2 : bget t (p0 + 1) ≠ bget t p0) (xs : List Int) (h1 wy E : Int) (hpr : prS t t.length (p0 + 1) (-1) [] = (xs, h1, wy, E)) (hy : wy = 0) (hw : ws.length < 16384) (hs1 : ts.length < 16384) : zCT zy_PW_cutAngle zm_PW_cutAngle ((capN nb (ts.flatten.length + (prX xs h1).length) - nb) + 4 * (capN n (addT ts (prX xs h1)).length - n) + 3 * (capN nw (ws.length + 1) - nw)) (2 * (capN nb (ts.flatten.length + (prX xs h1).length) - nb) + 8 * (capN n (addT ts (prX xs h1)).length - n) + 6 * (capN nw (ws.length + 1) - nw)) [.ref h] [zObj h 0 [.ref ht, .ref hl, .ref hs, .ref ho, .ref hn, .int (zI (p0)), .int (zI (w0)), .int (zI (r0))], zBRow ht (t) (nt), zWL hl (ws) (nw), zTS hs (ts) ([]) (nb) (n)] (none) [zObj h 0 [.ref ht, .ref hl, .ref hs, .ref ho, .ref hn, .int (zI (E + 1)), .int (zI (w0)), .int (zI (r0))], zBRow ht (t) (nt), zWL hl (ws ++ [(zI 5, zI ((ixOf ts (prX xs h1) : Nat) : Int), zI p0)]) (capN nw (ws.length + 1)), zTS hs (addT ts (prX xs h1)) ([]) (capN nb (ts.flatten.length + (prX xs h1).length)) (capN n (addT ts (prX xs h1)).length)] := by
  refine zCT.of [(0, .ref h)] rfl (by decide) rfl (fun h => by first | rfl | cases h) (Nat.le_of_ble_eq_true rfl) (fun X hR => ?_)
  refine zw_fact 1 rfl (fun G w h => zBR_fact h) (fun hbr => ?_)
  obtain ⟨⟨ht1, ht2, ht3⟩, hby⟩ := hbr
  refine zw_fact 2 rfl (fun G w h => zWL_fact h) (fun hwl => ?_)
  refine zw_fact 3 rfl (fun G w h => zTS_fact h) (fun hts => ?_)
  obtain ⟨hts1, hts2, hts3, hts4⟩ := hts
  refine zw_aload_n 0 rfl zd_PW_cutAngle_0 ?_
  refine zw_get zc_PW 0 0 rfl (by decide) zf_PW_10 rfl zd_PW_cutAngle_1 ?_
  refine zw_aload_n 0 rfl zd_PW_cutAngle_4 ?_
  refine zw_get zc_PW 0 5 rfl (by decide) zf_PW_46 rfl zd_PW_cutAngle_5 ?_
  refine zw_callV (As := [.int (zI (p0))]) (rest := []) (L2 := [zObj h 0 [.ref ht, .ref hl, .ref hs, .ref ho, .ref hn, .int (zI (p0)), .int (zI (w0)), .int (zI (r0))], zWL hl (ws) (nw), zTS hs (ts) ([]) (nb) (n)]) (L' := [zBRow ht (t) (nt), zObj h 0 [.ref ht, .ref hl, .ref hs, .ref ho, .ref hn, .int (zI (p0)), .int (zI (w0)), .int (zI (r0))], zWL hl (ws) (nw), zTS hs (ts) ([]) (nb) (n)]) (stk' := [.int (zI (bget t p0))]) (c_BR_get ht (t) (nt) (p0) (by omega)) [1] [0, 2, 3] rfl rfl rfl zcal_BR_get zl_PW_106 zin_BR_get zse_BR_get 0 rfl zRv_BRow rfl (Nat.le_of_ble_eq_true rfl) (Nat.le_of_ble_eq_true rfl) (by omega) (by omega) rfl (Nat.le_of_ble_eq_true rfl) rfl rfl zd_PW_cutAngle_8 ?_
  have rg8 := bget_rg hby (p0)
  refine zw_istore_n (lv' := [(1, .int (zI (bget t p0))), (0, .ref h)]) (Nat.le_of_ble_eq_true rfl) rfl zd_PW_cutAngle_11 ?_
  refine zw_aload_n 1 rfl zd_PW_cutAngle_12 ?_
  refine zw_get zc_PW 1 0 rfl (by decide) zf_PW_10 rfl zd_PW_cutAngle_13 ?_
  refine zw_aload_n 1 rfl zd_PW_cutAngle_16 ?_
  refine zw_get zc_PW 1 5 rfl (by decide) zf_PW_46 rfl zd_PW_cutAngle_17 ?_
  refine zw_iconst zd_PW_cutAngle_20 ?_
  refine zw_iadd zd_PW_cutAngle_21 ?_
  refine zw_callV (As := [.int (zI (p0 + 1))]) (rest := []) (L2 := [zObj h 0 [.ref ht, .ref hl, .ref hs, .ref ho, .ref hn, .int (zI (p0)), .int (zI (w0)), .int (zI (r0))], zWL hl (ws) (nw), zTS hs (ts) ([]) (nb) (n)]) (L' := [zBRow ht (t) (nt), zObj h 0 [.ref ht, .ref hl, .ref hs, .ref ho, .ref hn, .int (zI (p0)), .int (zI (w0)), .int (zI (r0))], zWL hl (ws) (nw), zTS hs (ts) ([]) (nb) (n)]) (stk' := [.int (zI (bget t (p0 + 1)))]) (c_BR_get ht (t) (nt) (p0 + 1) (by omega)) [0] [1, 2, 3] rfl rfl rfl zcal_BR_get zl_PW_106 zin_BR_get zse_BR_get 0 rfl zRv_BRow rfl (Nat.le_of_ble_eq_true rfl) (Nat.le_of_ble_eq_true rfl) (by omega) (by omega) rfl (Nat.le_of_ble_eq_true rfl) rfl rfl zd_PW_cutAngle_22 ?_
  have rg22 := bget_rg hby (p0 + 1)
  refine zw_iload_n 0 rfl zd_PW_cutAngle_25 ?_
  refine zw_icmp_ne 51 (by omega) (by omega) zd_PW_cutAngle_26 (by decide) (fun c26 => ?_) (fun c26 => ?_)
  · -- 26 -> 51
    refine zw_iload_n 0 rfl zd_PW_cutAngle_51 ?_
    refine zw_bipush rfl zd_PW_cutAngle_52 ?_
    refine zw_icmp_ne 64 (by omega) (by omega) zd_PW_cutAngle_54 (by decide) (fun c54 => ?_) (fun c54 => ?_)
    · -- 54 -> 64
      exact absurd c54 (by omega)
    · -- 54 -> 57
      refine zw_aload_n 1 rfl zd_PW_cutAngle_57 ?_
      refine zw_callV (As := []) (rest := []) (L2 := []) (L' := [zObj h 0 [.ref ht, .ref hl, .ref hs, .ref ho, .ref hn, .int (zI (E + 1)), .int (zI (w0)), .int (zI (r0))], zBRow ht (t) (nt), zWL hl (ws ++ [(zI 5, zI ((ixOf ts (prX xs h1) : Nat) : Int), zI p0)]) (capN nw (ws.length + 1)), zTS hs (addT ts (prX xs h1)) ([]) (capN nb (ts.flatten.length + (prX xs h1).length)) (capN n (addT ts (prX xs h1)).length)]) (stk' := []) (c_PW_pairs_ok h ht hl hs ho hn t nt p0 w0 r0 ws nw ts nb n hp hF xs h1 wy E hpr hy hw hs1) [1, 0, 2, 3] [] rfl rfl rfl zcal_PW_cutDigitText zl_PW_171 zin_PW_cutDigitText zse_PW_cutDigitText 0 rfl zRv_obj rfl (Nat.le_of_ble_eq_true rfl) (Nat.le_of_ble_eq_true rfl) (by omega) (by omega) rfl (Nat.le_of_ble_eq_true rfl) rfl rfl zd_PW_cutAngle_58 ?_
      refine zw_goto 73 zd_PW_cutAngle_61 (by decide) ?_
      exact zw_vret hR rfl rfl rfl (by omega) (by omega) zd_PW_cutAngle_73
  · -- 26 -> 29
    exact absurd c26 (by omega)
set_option maxHeartbeats 4000000 in
set_option maxRecDepth 100000 in
theorem c_PW_angle_bad2 (h ht hl hs ho hn : Nat) (t : List Int) (nt : Nat) (p0 w0 r0 : Int) (ws : List (Int32 × Int32 × Int32)) (nw : Nat) (ts : List (List Int)) (nb n : Nat) (hp : 0 ≤ p0 ∧ p0 < t.length) (hF : ts.flatten.length + t.length < 60000) (hb1 : bget t p0 = 60) (hb2 : bget t (p0 + 1) ≠ bget t p0) (xs : List Int) (h1 wy E : Int) (hpr : prS t t.length (p0 + 1) (-1) [] = (xs, h1, wy, E)) (hy : wy = 2) : zCT zy_PW_cutAngle zm_PW_cutAngle ((capN nb (ts.flatten.length + (prX xs h1).length) - nb)) (2 * (capN nb (ts.flatten.length + (prX xs h1).length) - nb)) [.ref h] [zObj h 0 [.ref ht, .ref hl, .ref hs, .ref ho, .ref hn, .int (zI (p0)), .int (zI (w0)), .int (zI (r0))], zBRow ht (t) (nt), zWL hl (ws) (nw), zTS hs (ts) ([]) (nb) (n)] (none) [zObj h 0 [.ref ht, .ref hl, .ref hs, .ref ho, .ref hn, .int (zI (((t.length : Nat) : Int))), .int (zI (2)), .int (zI (((t.length : Nat) : Int)))], zBRow ht (t) (nt), zWL hl (ws) (nw), zTS hs (ts) (prX xs h1) (capN nb (ts.flatten.length + (prX xs h1).length)) (n)] := by
  refine zCT.of [(0, .ref h)] rfl (by decide) rfl (fun h => by first | rfl | cases h) (Nat.le_of_ble_eq_true rfl) (fun X hR => ?_)
  refine zw_fact 1 rfl (fun G w h => zBR_fact h) (fun hbr => ?_)
  obtain ⟨⟨ht1, ht2, ht3⟩, hby⟩ := hbr
  refine zw_fact 2 rfl (fun G w h => zWL_fact h) (fun hwl => ?_)
  refine zw_fact 3 rfl (fun G w h => zTS_fact h) (fun hts => ?_)
  obtain ⟨hts1, hts2, hts3, hts4⟩ := hts
  refine zw_aload_n 0 rfl zd_PW_cutAngle_0 ?_
  refine zw_get zc_PW 0 0 rfl (by decide) zf_PW_10 rfl zd_PW_cutAngle_1 ?_
  refine zw_aload_n 0 rfl zd_PW_cutAngle_4 ?_
  refine zw_get zc_PW 0 5 rfl (by decide) zf_PW_46 rfl zd_PW_cutAngle_5 ?_
  refine zw_callV (As := [.int (zI (p0))]) (rest := []) (L2 := [zObj h 0 [.ref ht, .ref hl, .ref hs, .ref ho, .ref hn, .int (zI (p0)), .int (zI (w0)), .int (zI (r0))], zWL hl (ws) (nw), zTS hs (ts) ([]) (nb) (n)]) (L' := [zBRow ht (t) (nt), zObj h 0 [.ref ht, .ref hl, .ref hs, .ref ho, .ref hn, .int (zI (p0)), .int (zI (w0)), .int (zI (r0))], zWL hl (ws) (nw), zTS hs (ts) ([]) (nb) (n)]) (stk' := [.int (zI (bget t p0))]) (c_BR_get ht (t) (nt) (p0) (by omega)) [1] [0, 2, 3] rfl rfl rfl zcal_BR_get zl_PW_106 zin_BR_get zse_BR_get 0 rfl zRv_BRow rfl (Nat.le_of_ble_eq_true rfl) (Nat.le_of_ble_eq_true rfl) (by omega) (by omega) rfl (Nat.le_of_ble_eq_true rfl) rfl rfl zd_PW_cutAngle_8 ?_
  have rg8 := bget_rg hby (p0)
  refine zw_istore_n (lv' := [(1, .int (zI (bget t p0))), (0, .ref h)]) (Nat.le_of_ble_eq_true rfl) rfl zd_PW_cutAngle_11 ?_
  refine zw_aload_n 1 rfl zd_PW_cutAngle_12 ?_
  refine zw_get zc_PW 1 0 rfl (by decide) zf_PW_10 rfl zd_PW_cutAngle_13 ?_
  refine zw_aload_n 1 rfl zd_PW_cutAngle_16 ?_
  refine zw_get zc_PW 1 5 rfl (by decide) zf_PW_46 rfl zd_PW_cutAngle_17 ?_
  refine zw_iconst zd_PW_cutAngle_20 ?_
  refine zw_iadd zd_PW_cutAngle_21 ?_
  refine zw_callV (As := [.int (zI (p0 + 1))]) (rest := []) (L2 := [zObj h 0 [.ref ht, .ref hl, .ref hs, .ref ho, .ref hn, .int (zI (p0)), .int (zI (w0)), .int (zI (r0))], zWL hl (ws) (nw), zTS hs (ts) ([]) (nb) (n)]) (L' := [zBRow ht (t) (nt), zObj h 0 [.ref ht, .ref hl, .ref hs, .ref ho, .ref hn, .int (zI (p0)), .int (zI (w0)), .int (zI (r0))], zWL hl (ws) (nw), zTS hs (ts) ([]) (nb) (n)]) (stk' := [.int (zI (bget t (p0 + 1)))]) (c_BR_get ht (t) (nt) (p0 + 1) (by omega)) [0] [1, 2, 3] rfl rfl rfl zcal_BR_get zl_PW_106 zin_BR_get zse_BR_get 0 rfl zRv_BRow rfl (Nat.le_of_ble_eq_true rfl) (Nat.le_of_ble_eq_true rfl) (by omega) (by omega) rfl (Nat.le_of_ble_eq_true rfl) rfl rfl zd_PW_cutAngle_22 ?_
  have rg22 := bget_rg hby (p0 + 1)
  refine zw_iload_n 0 rfl zd_PW_cutAngle_25 ?_
  refine zw_icmp_ne 51 (by omega) (by omega) zd_PW_cutAngle_26 (by decide) (fun c26 => ?_) (fun c26 => ?_)
  · -- 26 -> 51
    refine zw_iload_n 0 rfl zd_PW_cutAngle_51 ?_
    refine zw_bipush rfl zd_PW_cutAngle_52 ?_
    refine zw_icmp_ne 64 (by omega) (by omega) zd_PW_cutAngle_54 (by decide) (fun c54 => ?_) (fun c54 => ?_)
    · -- 54 -> 64
      exact absurd c54 (by omega)
    · -- 54 -> 57
      refine zw_aload_n 1 rfl zd_PW_cutAngle_57 ?_
      refine zw_callV (As := []) (rest := []) (L2 := []) (L' := [zObj h 0 [.ref ht, .ref hl, .ref hs, .ref ho, .ref hn, .int (zI (((t.length : Nat) : Int))), .int (zI (2)), .int (zI (((t.length : Nat) : Int)))], zBRow ht (t) (nt), zWL hl (ws) (nw), zTS hs (ts) (prX xs h1) (capN nb (ts.flatten.length + (prX xs h1).length)) (n)]) (stk' := []) (c_PW_pairs_bad2 h ht hl hs ho hn t nt p0 w0 r0 ws nw ts nb n hp hF xs h1 wy E hpr hy) [1, 0, 2, 3] [] rfl rfl rfl zcal_PW_cutDigitText zl_PW_171 zin_PW_cutDigitText zse_PW_cutDigitText 0 rfl zRv_obj rfl (Nat.le_of_ble_eq_true rfl) (Nat.le_of_ble_eq_true rfl) (by omega) (by omega) rfl (Nat.le_of_ble_eq_true rfl) rfl rfl zd_PW_cutAngle_58 ?_
      refine zw_goto 73 zd_PW_cutAngle_61 (by decide) ?_
      exact zw_vret hR rfl rfl rfl (by omega) (by omega) zd_PW_cutAngle_73
  · -- 26 -> 29
    exact absurd c26 (by omega)
set_option maxHeartbeats 4000000 in
set_option maxRecDepth 100000 in
theorem c_PW_angle_bad3 (h ht hl hs ho hn : Nat) (t : List Int) (nt : Nat) (p0 w0 r0 : Int) (ws : List (Int32 × Int32 × Int32)) (nw : Nat) (ts : List (List Int)) (nb n : Nat) (hp : 0 ≤ p0 ∧ p0 < t.length) (hF : ts.flatten.length + t.length < 60000) (hb1 : bget t p0 = 60) (hb2 : bget t (p0 + 1) ≠ bget t p0) (xs : List Int) (h1 wy E : Int) (hpr : prS t t.length (p0 + 1) (-1) [] = (xs, h1, wy, E)) (hy : wy = 3) : zCT zy_PW_cutAngle zm_PW_cutAngle ((capN nb (ts.flatten.length + (xs).length) - nb)) (2 * (capN nb (ts.flatten.length + (xs).length) - nb)) [.ref h] [zObj h 0 [.ref ht, .ref hl, .ref hs, .ref ho, .ref hn, .int (zI (p0)), .int (zI (w0)), .int (zI (r0))], zBRow ht (t) (nt), zWL hl (ws) (nw), zTS hs (ts) ([]) (nb) (n)] (none) [zObj h 0 [.ref ht, .ref hl, .ref hs, .ref ho, .ref hn, .int (zI (E)), .int (zI (3)), .int (zI (E))], zBRow ht (t) (nt), zWL hl (ws) (nw), zTS hs (ts) (xs) (capN nb (ts.flatten.length + xs.length)) (n)] := by
  refine zCT.of [(0, .ref h)] rfl (by decide) rfl (fun h => by first | rfl | cases h) (Nat.le_of_ble_eq_true rfl) (fun X hR => ?_)
  refine zw_fact 1 rfl (fun G w h => zBR_fact h) (fun hbr => ?_)
  obtain ⟨⟨ht1, ht2, ht3⟩, hby⟩ := hbr
  refine zw_fact 2 rfl (fun G w h => zWL_fact h) (fun hwl => ?_)
  refine zw_fact 3 rfl (fun G w h => zTS_fact h) (fun hts => ?_)
  obtain ⟨hts1, hts2, hts3, hts4⟩ := hts
  refine zw_aload_n 0 rfl zd_PW_cutAngle_0 ?_
  refine zw_get zc_PW 0 0 rfl (by decide) zf_PW_10 rfl zd_PW_cutAngle_1 ?_
  refine zw_aload_n 0 rfl zd_PW_cutAngle_4 ?_
  refine zw_get zc_PW 0 5 rfl (by decide) zf_PW_46 rfl zd_PW_cutAngle_5 ?_
  refine zw_callV (As := [.int (zI (p0))]) (rest := []) (L2 := [zObj h 0 [.ref ht, .ref hl, .ref hs, .ref ho, .ref hn, .int (zI (p0)), .int (zI (w0)), .int (zI (r0))], zWL hl (ws) (nw), zTS hs (ts) ([]) (nb) (n)]) (L' := [zBRow ht (t) (nt), zObj h 0 [.ref ht, .ref hl, .ref hs, .ref ho, .ref hn, .int (zI (p0)), .int (zI (w0)), .int (zI (r0))], zWL hl (ws) (nw), zTS hs (ts) ([]) (nb) (n)]) (stk' := [.int (zI (bget t p0))]) (c_BR_get ht (t) (nt) (p0) (by omega)) [1] [0, 2, 3] rfl rfl rfl zcal_BR_get zl_PW_106 zin_BR_get zse_BR_get 0 rfl zRv_BRow rfl (Nat.le_of_ble_eq_true rfl) (Nat.le_of_ble_eq_true rfl) (by omega) (by omega) rfl (Nat.le_of_ble_eq_true rfl) rfl rfl zd_PW_cutAngle_8 ?_
  have rg8 := bget_rg hby (p0)
  refine zw_istore_n (lv' := [(1, .int (zI (bget t p0))), (0, .ref h)]) (Nat.le_of_ble_eq_true rfl) rfl zd_PW_cutAngle_11 ?_
  refine zw_aload_n 1 rfl zd_PW_cutAngle_12 ?_
  refine zw_get zc_PW 1 0 rfl (by decide) zf_PW_10 rfl zd_PW_cutAngle_13 ?_
  refine zw_aload_n 1 rfl zd_PW_cutAngle_16 ?_
  refine zw_get zc_PW 1 5 rfl (by decide) zf_PW_46 rfl zd_PW_cutAngle_17 ?_
  refine zw_iconst zd_PW_cutAngle_20 ?_
  refine zw_iadd zd_PW_cutAngle_21 ?_
  refine zw_callV (As := [.int (zI (p0 + 1))]) (rest := []) (L2 := [zObj h 0 [.ref ht, .ref hl, .ref hs, .ref ho, .ref hn, .int (zI (p0)), .int (zI (w0)), .int (zI (r0))], zWL hl (ws) (nw), zTS hs (ts) ([]) (nb) (n)]) (L' := [zBRow ht (t) (nt), zObj h 0 [.ref ht, .ref hl, .ref hs, .ref ho, .ref hn, .int (zI (p0)), .int (zI (w0)), .int (zI (r0))], zWL hl (ws) (nw), zTS hs (ts) ([]) (nb) (n)]) (stk' := [.int (zI (bget t (p0 + 1)))]) (c_BR_get ht (t) (nt) (p0 + 1) (by omega)) [0] [1, 2, 3] rfl rfl rfl zcal_BR_get zl_PW_106 zin_BR_get zse_BR_get 0 rfl zRv_BRow rfl (Nat.le_of_ble_eq_true rfl) (Nat.le_of_ble_eq_true rfl) (by omega) (by omega) rfl (Nat.le_of_ble_eq_true rfl) rfl rfl zd_PW_cutAngle_22 ?_
  have rg22 := bget_rg hby (p0 + 1)
  refine zw_iload_n 0 rfl zd_PW_cutAngle_25 ?_
  refine zw_icmp_ne 51 (by omega) (by omega) zd_PW_cutAngle_26 (by decide) (fun c26 => ?_) (fun c26 => ?_)
  · -- 26 -> 51
    refine zw_iload_n 0 rfl zd_PW_cutAngle_51 ?_
    refine zw_bipush rfl zd_PW_cutAngle_52 ?_
    refine zw_icmp_ne 64 (by omega) (by omega) zd_PW_cutAngle_54 (by decide) (fun c54 => ?_) (fun c54 => ?_)
    · -- 54 -> 64
      exact absurd c54 (by omega)
    · -- 54 -> 57
      refine zw_aload_n 1 rfl zd_PW_cutAngle_57 ?_
      refine zw_callV (As := []) (rest := []) (L2 := []) (L' := [zObj h 0 [.ref ht, .ref hl, .ref hs, .ref ho, .ref hn, .int (zI (E)), .int (zI (3)), .int (zI (E))], zBRow ht (t) (nt), zWL hl (ws) (nw), zTS hs (ts) (xs) (capN nb (ts.flatten.length + xs.length)) (n)]) (stk' := []) (c_PW_pairs_bad3 h ht hl hs ho hn t nt p0 w0 r0 ws nw ts nb n hp hF xs h1 wy E hpr hy) [1, 0, 2, 3] [] rfl rfl rfl zcal_PW_cutDigitText zl_PW_171 zin_PW_cutDigitText zse_PW_cutDigitText 0 rfl zRv_obj rfl (Nat.le_of_ble_eq_true rfl) (Nat.le_of_ble_eq_true rfl) (by omega) (by omega) rfl (Nat.le_of_ble_eq_true rfl) rfl rfl zd_PW_cutAngle_58 ?_
      refine zw_goto 73 zd_PW_cutAngle_61 (by decide) ?_
      exact zw_vret hR rfl rfl rfl (by omega) (by omega) zd_PW_cutAngle_73
  · -- 26 -> 29
    exact absurd c26 (by omega)
set_option maxHeartbeats 4000000 in
set_option maxRecDepth 100000 in
theorem c_PW_angle_bad1 (h ht hl hs ho hn : Nat) (t : List Int) (nt : Nat) (p0 w0 r0 : Int) (hp : 0 ≤ p0 ∧ p0 < t.length) (hb1 : bget t p0 ≠ 60) (hb2 : bget t (p0 + 1) ≠ bget t p0) : zCT zy_PW_cutAngle zm_PW_cutAngle (0) (0) [.ref h] [zObj h 0 [.ref ht, .ref hl, .ref hs, .ref ho, .ref hn, .int (zI (p0)), .int (zI (w0)), .int (zI (r0))], zBRow ht (t) (nt)] (none) [zObj h 0 [.ref ht, .ref hl, .ref hs, .ref ho, .ref hn, .int (zI (p0)), .int (zI (1)), .int (zI (p0))], zBRow ht (t) (nt)] := by
  refine zCT.of [(0, .ref h)] rfl (by decide) rfl (fun h => by first | rfl | cases h) (Nat.le_of_ble_eq_true rfl) (fun X hR => ?_)
  refine zw_fact 1 rfl (fun G w h => zBR_fact h) (fun hbr => ?_)
  obtain ⟨⟨ht1, ht2, ht3⟩, hby⟩ := hbr
  refine zw_aload_n 0 rfl zd_PW_cutAngle_0 ?_
  refine zw_get zc_PW 0 0 rfl (by decide) zf_PW_10 rfl zd_PW_cutAngle_1 ?_
  refine zw_aload_n 0 rfl zd_PW_cutAngle_4 ?_
  refine zw_get zc_PW 0 5 rfl (by decide) zf_PW_46 rfl zd_PW_cutAngle_5 ?_
  refine zw_callV (As := [.int (zI (p0))]) (rest := []) (L2 := [zObj h 0 [.ref ht, .ref hl, .ref hs, .ref ho, .ref hn, .int (zI (p0)), .int (zI (w0)), .int (zI (r0))]]) (L' := [zBRow ht (t) (nt), zObj h 0 [.ref ht, .ref hl, .ref hs, .ref ho, .ref hn, .int (zI (p0)), .int (zI (w0)), .int (zI (r0))]]) (stk' := [.int (zI (bget t p0))]) (c_BR_get ht (t) (nt) (p0) (by omega)) [1] [0] rfl rfl rfl zcal_BR_get zl_PW_106 zin_BR_get zse_BR_get 0 rfl zRv_BRow rfl (Nat.le_of_ble_eq_true rfl) (Nat.le_of_ble_eq_true rfl) (by omega) (by omega) rfl (Nat.le_of_ble_eq_true rfl) rfl rfl zd_PW_cutAngle_8 ?_
  have rg8 := bget_rg hby (p0)
  refine zw_istore_n (lv' := [(1, .int (zI (bget t p0))), (0, .ref h)]) (Nat.le_of_ble_eq_true rfl) rfl zd_PW_cutAngle_11 ?_
  refine zw_aload_n 1 rfl zd_PW_cutAngle_12 ?_
  refine zw_get zc_PW 1 0 rfl (by decide) zf_PW_10 rfl zd_PW_cutAngle_13 ?_
  refine zw_aload_n 1 rfl zd_PW_cutAngle_16 ?_
  refine zw_get zc_PW 1 5 rfl (by decide) zf_PW_46 rfl zd_PW_cutAngle_17 ?_
  refine zw_iconst zd_PW_cutAngle_20 ?_
  refine zw_iadd zd_PW_cutAngle_21 ?_
  refine zw_callV (As := [.int (zI (p0 + 1))]) (rest := []) (L2 := [zObj h 0 [.ref ht, .ref hl, .ref hs, .ref ho, .ref hn, .int (zI (p0)), .int (zI (w0)), .int (zI (r0))]]) (L' := [zBRow ht (t) (nt), zObj h 0 [.ref ht, .ref hl, .ref hs, .ref ho, .ref hn, .int (zI (p0)), .int (zI (w0)), .int (zI (r0))]]) (stk' := [.int (zI (bget t (p0 + 1)))]) (c_BR_get ht (t) (nt) (p0 + 1) (by omega)) [0] [1] rfl rfl rfl zcal_BR_get zl_PW_106 zin_BR_get zse_BR_get 0 rfl zRv_BRow rfl (Nat.le_of_ble_eq_true rfl) (Nat.le_of_ble_eq_true rfl) (by omega) (by omega) rfl (Nat.le_of_ble_eq_true rfl) rfl rfl zd_PW_cutAngle_22 ?_
  have rg22 := bget_rg hby (p0 + 1)
  refine zw_iload_n 0 rfl zd_PW_cutAngle_25 ?_
  refine zw_icmp_ne 51 (by omega) (by omega) zd_PW_cutAngle_26 (by decide) (fun c26 => ?_) (fun c26 => ?_)
  · -- 26 -> 51
    refine zw_iload_n 0 rfl zd_PW_cutAngle_51 ?_
    refine zw_bipush rfl zd_PW_cutAngle_52 ?_
    refine zw_icmp_ne 64 (by omega) (by omega) zd_PW_cutAngle_54 (by decide) (fun c54 => ?_) (fun c54 => ?_)
    · -- 54 -> 64
      refine zw_aload_n 1 rfl zd_PW_cutAngle_64 ?_
      refine zw_iconst zd_PW_cutAngle_65 ?_
      refine zw_aload_n 1 rfl zd_PW_cutAngle_66 ?_
      refine zw_get zc_PW 1 5 rfl (by decide) zf_PW_46 rfl zd_PW_cutAngle_67 ?_
      refine zw_callV (As := [.int (zI (1)), .int (zI (p0))]) (rest := []) (L2 := [zBRow ht (t) (nt)]) (L' := [zObj h 0 [.ref ht, .ref hl, .ref hs, .ref ho, .ref hn, .int (zI (p0)), .int (zI (1)), .int (zI (p0))], zBRow ht (t) (nt)]) (stk' := []) (c_PW_goWrong h ht hl hs ho hn p0 w0 r0 1 p0) [1] [0] rfl rfl rfl zcal_PW_goWrong zl_PW_75 zin_PW_goWrong zse_PW_goWrong 0 rfl zRv_obj rfl (Nat.le_of_ble_eq_true rfl) (Nat.le_of_ble_eq_true rfl) (by omega) (by omega) rfl (Nat.le_of_ble_eq_true rfl) rfl rfl zd_PW_cutAngle_70 ?_
      exact zw_vret hR rfl rfl rfl (by omega) (by omega) zd_PW_cutAngle_73
    · -- 54 -> 57
      exact absurd c54 (by omega)
  · -- 26 -> 29
    exact absurd c26 (by omega)
