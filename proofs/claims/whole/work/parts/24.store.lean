set_option maxHeartbeats 4000000 in
set_option maxRecDepth 100000 in
theorem c_TS_count (h : Nat) (ts : List (List Int)) (pend : List Int) (nb n : Nat) : zCT zy_TS_count zm_TS_count (0) (0) [.ref h] [zTS h (ts) (pend) (nb) (n)] (some (.int (zI ((ts.length : Nat) : Int)))) [zTS h (ts) (pend) (nb) (n)] := by
  refine zCT.of [(0, .ref h)] rfl (by decide) rfl (fun h => by first | rfl | cases h) (Nat.le_of_ble_eq_true rfl) (fun X hR => ?_)
  refine zw_unp (fun G ws h => h) (fun x0 hx0 => ?_)
  obtain ⟨⟨hb, hs, hz_, hh, ho, an⟩, f⟩ := x0
  obtain ⟨g1, g2, g3⟩ := hx0
  dsimp only at g3
  simp only [List.cons_append, List.nil_append]
  refine zw_fact 1 rfl (fun G ws h => (⟨h.choose_spec.1.1, h.choose_spec.1.2.2.1⟩ : (ts.flatten ++ pend).length ≤ nb ∧ nb ≤ 131072)) (fun hnb => ?_)
  have hlen : (ts.flatten ++ pend).length = ts.flatten.length + pend.length := List.length_append
  refine zw_aload_n 0 rfl zd_TS_count_0 ?_
  refine zw_get zc_TS 0 1 rfl (by decide) zf_TS_23 rfl zd_TS_count_1 ?_
  refine zw_callV (As := []) (rest := []) (L2 := [zObj h 4 [.ref hb, .ref hs, .ref hz_, .ref hh, .ref ho, .ref an, .int (zI (((ts.flatten.length : Nat) : Int)))], zBRow hb (ts.flatten ++ pend) (nb), zIRow hz_ (tsSizes ts) (n) (16384), zIRow hh (tsHashes ts) (n) (16384), zIRow ho (tsOlder ts) (n) (16384), zArI an (1024) (f)]) (L' := [zIRow hs (tsStarts ts) (n) (16384), zObj h 4 [.ref hb, .ref hs, .ref hz_, .ref hh, .ref ho, .ref an, .int (zI (((ts.flatten.length : Nat) : Int)))], zBRow hb (ts.flatten ++ pend) (nb), zIRow hz_ (tsSizes ts) (n) (16384), zIRow hh (tsHashes ts) (n) (16384), zIRow ho (tsOlder ts) (n) (16384), zArI an (1024) (f)]) (stk' := [.int (zI (((ts.length : Nat) : Int)))]) (c_IR_count hs (tsStarts ts) (n) (16384) (ts.length) (tsStarts_len ts)) [2] [0, 1, 3, 4, 5, 6] rfl rfl rfl zcal_IR_count zl_TS_50 zin_IR_count zse_IR_count 0 rfl zRv_IRow rfl (Nat.le_of_ble_eq_true rfl) (Nat.le_of_ble_eq_true rfl) (by omega) (by omega) rfl (Nat.le_of_ble_eq_true rfl) rfl rfl zd_TS_count_4 ?_
  refine zw_sub (L' := [zObj h 4 [.ref hb, .ref hs, .ref hz_, .ref hh, .ref ho, .ref an, .int (zI (((ts.flatten.length : Nat) : Int)))], zBRow hb (ts.flatten ++ pend) (nb), zIRow hs (tsStarts ts) (n) (16384), zIRow hz_ (tsSizes ts) (n) (16384), zIRow hh (tsHashes ts) (n) (16384), zIRow ho (tsOlder ts) (n) (16384), zArI an (1024) (f)]) [1, 2, 0, 3, 4, 5, 6] rfl rfl ?_
  refine zw_pack (at0 := zTS h (ts) (pend) (nb) (n)) (Ls := [zObj h 4 [.ref hb, .ref hs, .ref hz_, .ref hh, .ref ho, .ref an, .int (zI (((ts.flatten.length : Nat) : Int)))], zBRow hb (ts.flatten ++ pend) (nb), zIRow hs (tsStarts ts) (n) (16384), zIRow hz_ (tsSizes ts) (n) (16384), zIRow hh (tsHashes ts) (n) (16384), zIRow ho (tsOlder ts) (n) (16384), zArI an (1024) (f)]) (L2 := []) rfl (fun G w h => ⟨((hb, hs, hz_, hh, ho, an), f), ⟨g1, g2, g3⟩, h⟩) ?_
  exact zw_iret hR rfl rfl rfl (by omega) (by omega) zd_TS_count_7
set_option maxHeartbeats 4000000 in
set_option maxRecDepth 100000 in
theorem c_TS_sizeOf (h : Nat) (ts : List (List Int)) (pend : List Int) (nb n : Nat) (z : Int) (hz : -2147483648 ≤ z ∧ z ≤ 2147483647) : zCT zy_TS_sizeOf zm_TS_sizeOf (0) (0) [.ref h, .int (zI z)] [zTS h (ts) (pend) (nb) (n)] (some (.int (iget (tsSizes ts) z))) [zTS h (ts) (pend) (nb) (n)] := by
  refine zCT.of [(0, .ref h), (1, .int (zI (z)))] rfl (by decide) rfl (fun h => by first | rfl | cases h) (Nat.le_of_ble_eq_true rfl) (fun X hR => ?_)
  refine zw_unp (fun G ws h => h) (fun x0 hx0 => ?_)
  obtain ⟨⟨hb, hs, hz_, hh, ho, an⟩, f⟩ := x0
  obtain ⟨g1, g2, g3⟩ := hx0
  dsimp only at g3
  simp only [List.cons_append, List.nil_append]
  refine zw_fact 1 rfl (fun G ws h => (⟨h.choose_spec.1.1, h.choose_spec.1.2.2.1⟩ : (ts.flatten ++ pend).length ≤ nb ∧ nb ≤ 131072)) (fun hnb => ?_)
  have hlen : (ts.flatten ++ pend).length = ts.flatten.length + pend.length := List.length_append
  refine zw_aload_n 0 rfl zd_TS_sizeOf_0 ?_
  refine zw_get zc_TS 0 2 rfl (by decide) zf_TS_27 rfl zd_TS_sizeOf_1 ?_
  refine zw_iload_n 1 rfl zd_TS_sizeOf_4 ?_
  refine zw_callV (As := [.int (zI (z))]) (rest := []) (L2 := [zObj h 4 [.ref hb, .ref hs, .ref hz_, .ref hh, .ref ho, .ref an, .int (zI (((ts.flatten.length : Nat) : Int)))], zBRow hb (ts.flatten ++ pend) (nb), zIRow hs (tsStarts ts) (n) (16384), zIRow hh (tsHashes ts) (n) (16384), zIRow ho (tsOlder ts) (n) (16384), zArI an (1024) (f)]) (L' := [zIRow hz_ (tsSizes ts) (n) (16384), zObj h 4 [.ref hb, .ref hs, .ref hz_, .ref hh, .ref ho, .ref an, .int (zI (((ts.flatten.length : Nat) : Int)))], zBRow hb (ts.flatten ++ pend) (nb), zIRow hs (tsStarts ts) (n) (16384), zIRow hh (tsHashes ts) (n) (16384), zIRow ho (tsOlder ts) (n) (16384), zArI an (1024) (f)]) (stk' := [.int (iget (tsSizes ts) (z))]) (c_IR_get hz_ (tsSizes ts) (n) (16384) (z) (by omega)) [3] [0, 1, 2, 4, 5, 6] rfl rfl rfl zcal_IR_get zl_TS_54 zin_IR_get zse_IR_get 0 rfl zRv_IRow rfl (Nat.le_of_ble_eq_true rfl) (Nat.le_of_ble_eq_true rfl) (by omega) (by omega) rfl (Nat.le_of_ble_eq_true rfl) rfl rfl zd_TS_sizeOf_5 ?_
  refine zw_sub (L' := [zObj h 4 [.ref hb, .ref hs, .ref hz_, .ref hh, .ref ho, .ref an, .int (zI (((ts.flatten.length : Nat) : Int)))], zBRow hb (ts.flatten ++ pend) (nb), zIRow hs (tsStarts ts) (n) (16384), zIRow hz_ (tsSizes ts) (n) (16384), zIRow hh (tsHashes ts) (n) (16384), zIRow ho (tsOlder ts) (n) (16384), zArI an (1024) (f)]) [1, 2, 3, 0, 4, 5, 6] rfl rfl ?_
  refine zw_pack (at0 := zTS h (ts) (pend) (nb) (n)) (Ls := [zObj h 4 [.ref hb, .ref hs, .ref hz_, .ref hh, .ref ho, .ref an, .int (zI (((ts.flatten.length : Nat) : Int)))], zBRow hb (ts.flatten ++ pend) (nb), zIRow hs (tsStarts ts) (n) (16384), zIRow hz_ (tsSizes ts) (n) (16384), zIRow hh (tsHashes ts) (n) (16384), zIRow ho (tsOlder ts) (n) (16384), zArI an (1024) (f)]) (L2 := []) rfl (fun G w h => ⟨((hb, hs, hz_, hh, ho, an), f), ⟨g1, g2, g3⟩, h⟩) ?_
  exact zw_iret hR rfl rfl rfl (by omega) (by omega) zd_TS_sizeOf_8
set_option maxHeartbeats 4000000 in
set_option maxRecDepth 100000 in
theorem c_TS_byteOf (h : Nat) (ts : List (List Int)) (pend : List Int) (nb n : Nat) (z : Int) (hz : -2147483648 ≤ z ∧ z ≤ 2147483647) (w : Int) (hw : -2147483648 ≤ w ∧ w ≤ 2147483647) : zCT zy_TS_byteOf zm_TS_byteOf (0) (0) [.ref h, .int (zI z), .int (zI w)] [zTS h (ts) (pend) (nb) (n)] (some (.int (zI (tsAt ts z w)))) [zTS h (ts) (pend) (nb) (n)] := by
  refine zCT.of [(0, .ref h), (1, .int (zI (z))), (2, .int (zI (w)))] rfl (by decide) rfl (fun h => by first | rfl | cases h) (Nat.le_of_ble_eq_true rfl) (fun X hR => ?_)
  refine zw_unp (fun G ws h => h) (fun x0 hx0 => ?_)
  obtain ⟨⟨hb, hs, hz_, hh, ho, an⟩, f⟩ := x0
  obtain ⟨g1, g2, g3⟩ := hx0
  dsimp only at g3
  simp only [List.cons_append, List.nil_append]
  refine zw_fact 1 rfl (fun G ws h => (⟨h.choose_spec.1.1, h.choose_spec.1.2.2.1⟩ : (ts.flatten ++ pend).length ≤ nb ∧ nb ≤ 131072)) (fun hnb => ?_)
  have hlen : (ts.flatten ++ pend).length = ts.flatten.length + pend.length := List.length_append
  have hin : (0 ≤ z ∧ z < ts.length) → (iget (tsSizes ts) z).toInt = ((ts.getD z.toNat []).length : Nat) ∧ (iget (tsStarts ts) z).toInt = ((ts.take z.toNat).flatten.length : Nat) ∧ (ts.take z.toNat).flatten.length + (ts.getD z.toNat []).length ≤ ts.flatten.length := by
    intro hzz
    have hb2 := ts_bound (ts := ts) (i := z.toNat) (by omega)
    rw [ig_sizes hzz, ig_starts hzz]
    exact ⟨zI_to (by omega), zI_to (by omega), hb2⟩
  have hout : ¬ (0 ≤ z ∧ z < ts.length) → (iget (tsSizes ts) z).toInt = -1 := by
    intro hzz
    rw [iget, tsSizes_len, if_neg hzz]
    rfl
  refine zw_iload_n 2 rfl zd_TS_byteOf_0 ?_
  refine zw_if_lt 16 (by omega) zd_TS_byteOf_1 (by decide) (fun c1 => ?_) (fun c1 => ?_)
  · -- 1 -> 16
    refine zw_iconst zd_TS_byteOf_16 ?_
    refine zw_pack (at0 := zTS h (ts) (pend) (nb) (n)) (Ls := [zObj h 4 [.ref hb, .ref hs, .ref hz_, .ref hh, .ref ho, .ref an, .int (zI (((ts.flatten.length : Nat) : Int)))], zBRow hb (ts.flatten ++ pend) (nb), zIRow hs (tsStarts ts) (n) (16384), zIRow hz_ (tsSizes ts) (n) (16384), zIRow hh (tsHashes ts) (n) (16384), zIRow ho (tsOlder ts) (n) (16384), zArI an (1024) (f)]) (L2 := []) rfl (fun G w h => ⟨((hb, hs, hz_, hh, ho, an), f), ⟨g1, g2, g3⟩, h⟩) ?_
    exact zw_iret hR (by rw [tsAt, if_neg]; rintro ⟨q1, q2, q3⟩; have := hin q1; omega) rfl rfl (by omega) (by omega) zd_TS_byteOf_17
  · -- 1 -> 4
    refine zw_iload_n 2 rfl zd_TS_byteOf_4 ?_
    refine zw_aload_n 0 rfl zd_TS_byteOf_5 ?_
    refine zw_get zc_TS 0 2 rfl (by decide) zf_TS_27 rfl zd_TS_byteOf_6 ?_
    refine zw_iload_n 1 rfl zd_TS_byteOf_9 ?_
    refine zw_callV (As := [.int (zI (z))]) (rest := [.int (zI (w))]) (L2 := [zObj h 4 [.ref hb, .ref hs, .ref hz_, .ref hh, .ref ho, .ref an, .int (zI (((ts.flatten.length : Nat) : Int)))], zBRow hb (ts.flatten ++ pend) (nb), zIRow hs (tsStarts ts) (n) (16384), zIRow hh (tsHashes ts) (n) (16384), zIRow ho (tsOlder ts) (n) (16384), zArI an (1024) (f)]) (L' := [zIRow hz_ (tsSizes ts) (n) (16384), zObj h 4 [.ref hb, .ref hs, .ref hz_, .ref hh, .ref ho, .ref an, .int (zI (((ts.flatten.length : Nat) : Int)))], zBRow hb (ts.flatten ++ pend) (nb), zIRow hs (tsStarts ts) (n) (16384), zIRow hh (tsHashes ts) (n) (16384), zIRow ho (tsOlder ts) (n) (16384), zArI an (1024) (f)]) (stk' := [.int (iget (tsSizes ts) (z)), .int (zI (w))]) (c_IR_get hz_ (tsSizes ts) (n) (16384) (z) (by omega)) [3] [0, 1, 2, 4, 5, 6] rfl rfl rfl zcal_IR_get zl_TS_54 zin_IR_get zse_IR_get 0 rfl zRv_IRow rfl (Nat.le_of_ble_eq_true rfl) (Nat.le_of_ble_eq_true rfl) (by omega) (by omega) rfl (Nat.le_of_ble_eq_true rfl) rfl rfl zd_TS_byteOf_10 ?_
    refine zw_topE (zI_of (iget (tsSizes ts) (z))).symm ?_
    have r10 := zI_rg (iget (tsSizes ts) (z))
    refine zw_icmp_lt 18 (by omega) (by omega) zd_TS_byteOf_13 (by decide) (fun c13 => ?_) (fun c13 => ?_)
    · -- 13 -> 18
      have hzz : 0 ≤ z ∧ z < ts.length := by
        rcases Decidable.em (0 ≤ z ∧ z < ts.length) with q | q
        · exact q
        · have := hout q; omega
      obtain ⟨i1, i2, i3⟩ := hin hzz
      refine zw_aload_n 0 rfl zd_TS_byteOf_18 ?_
      refine zw_get zc_TS 1 0 rfl (by decide) zf_TS_12 rfl zd_TS_byteOf_19 ?_
      refine zw_aload_n 0 rfl zd_TS_byteOf_22 ?_
      refine zw_get zc_TS 1 1 rfl (by decide) zf_TS_23 rfl zd_TS_byteOf_23 ?_
      refine zw_iload_n 1 rfl zd_TS_byteOf_26 ?_
      refine zw_callV (As := [.int (zI (z))]) (rest := [.ref hb]) (L2 := [zIRow hz_ (tsSizes ts) (n) (16384), zObj h 4 [.ref hb, .ref hs, .ref hz_, .ref hh, .ref ho, .ref an, .int (zI (((ts.flatten.length : Nat) : Int)))], zBRow hb (ts.flatten ++ pend) (nb), zIRow hh (tsHashes ts) (n) (16384), zIRow ho (tsOlder ts) (n) (16384), zArI an (1024) (f)]) (L' := [zIRow hs (tsStarts ts) (n) (16384), zIRow hz_ (tsSizes ts) (n) (16384), zObj h 4 [.ref hb, .ref hs, .ref hz_, .ref hh, .ref ho, .ref an, .int (zI (((ts.flatten.length : Nat) : Int)))], zBRow hb (ts.flatten ++ pend) (nb), zIRow hh (tsHashes ts) (n) (16384), zIRow ho (tsOlder ts) (n) (16384), zArI an (1024) (f)]) (stk' := [.int (iget (tsStarts ts) (z)), .ref hb]) (c_IR_get hs (tsStarts ts) (n) (16384) (z) (by omega)) [3] [0, 1, 2, 4, 5, 6] rfl rfl rfl zcal_IR_get zl_TS_54 zin_IR_get zse_IR_get 0 rfl zRv_IRow rfl (Nat.le_of_ble_eq_true rfl) (Nat.le_of_ble_eq_true rfl) (by omega) (by omega) rfl (Nat.le_of_ble_eq_true rfl) rfl rfl zd_TS_byteOf_27 ?_
      refine zw_topE (zI_of (iget (tsStarts ts) (z))).symm ?_
      have r27 := zI_rg (iget (tsStarts ts) (z))
      refine zw_iload_n 2 rfl zd_TS_byteOf_30 ?_
      refine zw_iadd zd_TS_byteOf_31 ?_
      refine zw_callV (As := [.int (zI (((iget (tsStarts ts) (z)).toInt) + w))]) (rest := []) (L2 := [zIRow hs (tsStarts ts) (n) (16384), zIRow hz_ (tsSizes ts) (n) (16384), zObj h 4 [.ref hb, .ref hs, .ref hz_, .ref hh, .ref ho, .ref an, .int (zI (((ts.flatten.length : Nat) : Int)))], zIRow hh (tsHashes ts) (n) (16384), zIRow ho (tsOlder ts) (n) (16384), zArI an (1024) (f)]) (L' := [zBRow hb (ts.flatten ++ pend) (nb), zIRow hs (tsStarts ts) (n) (16384), zIRow hz_ (tsSizes ts) (n) (16384), zObj h 4 [.ref hb, .ref hs, .ref hz_, .ref hh, .ref ho, .ref an, .int (zI (((ts.flatten.length : Nat) : Int)))], zIRow hh (tsHashes ts) (n) (16384), zIRow ho (tsOlder ts) (n) (16384), zArI an (1024) (f)]) (stk' := [.int (zI (bget (ts.flatten ++ pend) (((iget (tsStarts ts) (z)).toInt) + w)))]) (c_BR_get hb (ts.flatten ++ pend) (nb) (((iget (tsStarts ts) (z)).toInt) + w) (by omega)) [3] [0, 1, 2, 4, 5, 6] rfl rfl rfl zcal_BR_get zl_TS_58 zin_BR_get zse_BR_get 0 rfl zRv_BRow rfl (Nat.le_of_ble_eq_true rfl) (Nat.le_of_ble_eq_true rfl) (by omega) (by omega) rfl (Nat.le_of_ble_eq_true rfl) rfl rfl zd_TS_byteOf_32 ?_
      refine zw_sub (L' := [zObj h 4 [.ref hb, .ref hs, .ref hz_, .ref hh, .ref ho, .ref an, .int (zI (((ts.flatten.length : Nat) : Int)))], zBRow hb (ts.flatten ++ pend) (nb), zIRow hs (tsStarts ts) (n) (16384), zIRow hz_ (tsSizes ts) (n) (16384), zIRow hh (tsHashes ts) (n) (16384), zIRow ho (tsOlder ts) (n) (16384), zArI an (1024) (f)]) [3, 0, 1, 2, 4, 5, 6] rfl rfl ?_
      refine zw_pack (at0 := zTS h (ts) (pend) (nb) (n)) (Ls := [zObj h 4 [.ref hb, .ref hs, .ref hz_, .ref hh, .ref ho, .ref an, .int (zI (((ts.flatten.length : Nat) : Int)))], zBRow hb (ts.flatten ++ pend) (nb), zIRow hs (tsStarts ts) (n) (16384), zIRow hz_ (tsSizes ts) (n) (16384), zIRow hh (tsHashes ts) (n) (16384), zIRow ho (tsOlder ts) (n) (16384), zArI an (1024) (f)]) (L2 := []) rfl (fun G w h => ⟨((hb, hs, hz_, hh, ho, an), f), ⟨g1, g2, g3⟩, h⟩) ?_
      exact zw_iret hR (by rw [tsAt, if_pos ⟨hzz, by omega⟩, bget, if_pos (by omega), ← ts_at (p := pend) (show z.toNat < ts.length by omega) (show w.toNat < _ by omega)]; congr 4; omega) rfl rfl (by omega) (by omega) zd_TS_byteOf_35
    · -- 13 -> 16
      refine zw_iconst zd_TS_byteOf_16 ?_
      refine zw_sub (L' := [zObj h 4 [.ref hb, .ref hs, .ref hz_, .ref hh, .ref ho, .ref an, .int (zI (((ts.flatten.length : Nat) : Int)))], zBRow hb (ts.flatten ++ pend) (nb), zIRow hs (tsStarts ts) (n) (16384), zIRow hz_ (tsSizes ts) (n) (16384), zIRow hh (tsHashes ts) (n) (16384), zIRow ho (tsOlder ts) (n) (16384), zArI an (1024) (f)]) [1, 2, 3, 0, 4, 5, 6] rfl rfl ?_
      refine zw_pack (at0 := zTS h (ts) (pend) (nb) (n)) (Ls := [zObj h 4 [.ref hb, .ref hs, .ref hz_, .ref hh, .ref ho, .ref an, .int (zI (((ts.flatten.length : Nat) : Int)))], zBRow hb (ts.flatten ++ pend) (nb), zIRow hs (tsStarts ts) (n) (16384), zIRow hz_ (tsSizes ts) (n) (16384), zIRow hh (tsHashes ts) (n) (16384), zIRow ho (tsOlder ts) (n) (16384), zArI an (1024) (f)]) (L2 := []) rfl (fun G w h => ⟨((hb, hs, hz_, hh, ho, an), f), ⟨g1, g2, g3⟩, h⟩) ?_
      exact zw_iret hR (by rw [tsAt, if_neg]; rintro ⟨q1, q2, q3⟩; have := hin q1; omega) rfl rfl (by omega) (by omega) zd_TS_byteOf_17
set_option maxHeartbeats 4000000 in
set_option maxRecDepth 100000 in
theorem c_TS_put (h : Nat) (ts : List (List Int)) (pend : List Int) (nb n : Nat) (z : Int) (hp : (ts.flatten ++ pend).length < 65536) : zCT zy_TS_put zm_TS_put (gcap (ts.flatten ++ pend).length nb - nb) (2 * (gcap (ts.flatten ++ pend).length nb - nb)) [.ref h, .int (zI z)] [zTS h (ts) (pend) (nb) (n)] (none) [zTS h (ts) (pend ++ [z % 256]) (gcap (ts.flatten ++ pend).length nb) (n)] := by
  refine zCT.of [(0, .ref h), (1, .int (zI (z)))] rfl (by decide) rfl (fun h => by first | rfl | cases h) (Nat.le_of_ble_eq_true rfl) (fun X hR => ?_)
  refine zw_unp (fun G ws h => h) (fun x0 hx0 => ?_)
  obtain ⟨⟨hb, hs, hz_, hh, ho, an⟩, f⟩ := x0
  obtain ⟨g1, g2, g3⟩ := hx0
  dsimp only at g3
  simp only [List.cons_append, List.nil_append]
  refine zw_fact 1 rfl (fun G ws h => (⟨h.choose_spec.1.1, h.choose_spec.1.2.2.1⟩ : (ts.flatten ++ pend).length ≤ nb ∧ nb ≤ 131072)) (fun hnb => ?_)
  have hlen : (ts.flatten ++ pend).length = ts.flatten.length + pend.length := List.length_append
  refine zw_aload_n 0 rfl zd_TS_put_0 ?_
  refine zw_get zc_TS 0 0 rfl (by decide) zf_TS_12 rfl zd_TS_put_1 ?_
  refine zw_iload_n 1 rfl zd_TS_put_4 ?_
  refine zw_callV (As := [.int (zI (z))]) (rest := []) (L2 := [zObj h 4 [.ref hb, .ref hs, .ref hz_, .ref hh, .ref ho, .ref an, .int (zI (((ts.flatten.length : Nat) : Int)))], zIRow hs (tsStarts ts) (n) (16384), zIRow hz_ (tsSizes ts) (n) (16384), zIRow hh (tsHashes ts) (n) (16384), zIRow ho (tsOlder ts) (n) (16384), zArI an (1024) (f)]) (L' := [zBRow hb ((ts.flatten ++ pend) ++ [(z) % 256]) (gcap ((ts.flatten ++ pend).length) (nb)), zObj h 4 [.ref hb, .ref hs, .ref hz_, .ref hh, .ref ho, .ref an, .int (zI (((ts.flatten.length : Nat) : Int)))], zIRow hs (tsStarts ts) (n) (16384), zIRow hz_ (tsSizes ts) (n) (16384), zIRow hh (tsHashes ts) (n) (16384), zIRow ho (tsOlder ts) (n) (16384), zArI an (1024) (f)]) (stk' := []) (c_BR_add hb (ts.flatten ++ pend) (nb) (z) ((ts.flatten ++ pend).length) (rfl) (by omega)) [1] [0, 2, 3, 4, 5, 6] rfl rfl rfl zcal_BR_add zl_TS_67 zin_BR_add zse_BR_add 0 rfl zRv_BRow rfl (Nat.le_of_ble_eq_true rfl) (Nat.le_of_ble_eq_true rfl) (by omega) (by omega) rfl (Nat.le_of_ble_eq_true rfl) rfl rfl zd_TS_put_5 ?_
  refine zw_sub (L' := [zObj h 4 [.ref hb, .ref hs, .ref hz_, .ref hh, .ref ho, .ref an, .int (zI (((ts.flatten.length : Nat) : Int)))], zBRow hb ((ts.flatten ++ pend) ++ [(z) % 256]) (gcap ((ts.flatten ++ pend).length) (nb)), zIRow hs (tsStarts ts) (n) (16384), zIRow hz_ (tsSizes ts) (n) (16384), zIRow hh (tsHashes ts) (n) (16384), zIRow ho (tsOlder ts) (n) (16384), zArI an (1024) (f)]) [1, 0, 2, 3, 4, 5, 6] rfl rfl ?_
  refine zw_eqL (L' := [zObj h 4 [.ref hb, .ref hs, .ref hz_, .ref hh, .ref ho, .ref an, .int (zI (((ts.flatten.length : Nat) : Int)))], zBRow hb (ts.flatten ++ (pend ++ [z % 256])) (gcap (ts.flatten ++ pend).length nb), zIRow hs (tsStarts ts) (n) (16384), zIRow hz_ (tsSizes ts) (n) (16384), zIRow hh (tsHashes ts) (n) (16384), zIRow ho (tsOlder ts) (n) (16384), zArI an (1024) (f)]) (by rw [List.append_assoc]) ?_
  refine zw_pack (at0 := zTS h (ts) (pend ++ [z % 256]) (gcap (ts.flatten ++ pend).length nb) (n)) (Ls := [zObj h 4 [.ref hb, .ref hs, .ref hz_, .ref hh, .ref ho, .ref an, .int (zI (((ts.flatten.length : Nat) : Int)))], zBRow hb (ts.flatten ++ (pend ++ [z % 256])) (gcap (ts.flatten ++ pend).length nb), zIRow hs (tsStarts ts) (n) (16384), zIRow hz_ (tsSizes ts) (n) (16384), zIRow hh (tsHashes ts) (n) (16384), zIRow ho (tsOlder ts) (n) (16384), zArI an (1024) (f)]) (L2 := []) rfl (fun G w h => ⟨((hb, hs, hz_, hh, ho, an), f), ⟨g1, g2, g3⟩, h⟩) ?_
  exact zw_vret hR rfl rfl rfl (by omega) (by omega) zd_TS_put_8
set_option maxHeartbeats 4000000 in
set_option maxRecDepth 100000 in
theorem c_TS_bucketOf (x : Int32) : zCT zy_TS_bucketOf zm_TS_bucketOf (0) (0) [.int x] [] (some (.int (bucketX x))) [] := by
  refine zCT.of [(0, .int (x))] rfl (by decide) rfl (fun h => by first | rfl | cases h) (Nat.le_of_ble_eq_true rfl) (fun X hR => ?_)
  refine zw_iload_n 0 rfl zd_TS_bucketOf_0 ?_
  refine zw_iload_n 0 rfl zd_TS_bucketOf_1 ?_
  refine zw_bipush rfl zd_TS_bucketOf_2 ?_
  refine zw_iushrR zd_TS_bucketOf_4 ?_
  refine zw_ixorR zd_TS_bucketOf_5 ?_
  refine zw_sipush rfl zd_TS_bucketOf_6 ?_
  refine zw_iandR zd_TS_bucketOf_9 ?_
  exact zw_iret hR rfl rfl rfl (by omega) (by omega) zd_TS_bucketOf_10
set_option maxHeartbeats 4000000 in
set_option maxRecDepth 100000 in
theorem c_TS_hashOfNew (h : Nat) (ts : List (List Int)) (pend : List Int) (nb n : Nat) : zCT zy_TS_hashOfNew zm_TS_hashOfNew (0) (0) [.ref h] [zTS h (ts) (pend) (nb) (n)] (some (.int (hashL pend))) [zTS h (ts) (pend) (nb) (n)] := by
  refine zCT.of [(0, .ref h)] rfl (by decide) rfl (fun h => by first | rfl | cases h) (Nat.le_of_ble_eq_true rfl) (fun X hR => ?_)
  refine zw_unp (fun G ws h => h) (fun x0 hx0 => ?_)
  obtain ⟨⟨hb, hs, hz_, hh, ho, an⟩, f⟩ := x0
  obtain ⟨g1, g2, g3⟩ := hx0
  dsimp only at g3
  simp only [List.cons_append, List.nil_append]
  refine zw_fact 1 rfl (fun G ws h => (⟨h.choose_spec.1.1, h.choose_spec.1.2.2.1⟩ : (ts.flatten ++ pend).length ≤ nb ∧ nb ≤ 131072)) (fun hnb => ?_)
  have hlen : (ts.flatten ++ pend).length = ts.flatten.length + pend.length := List.length_append
  have lp : ∀ (fuel : Nat) (p : Int), (((ts.flatten.length : Nat) : Int) ≤ p ∧ p ≤ (((ts.flatten ++ pend).length : Nat) : Int)) → ((((ts.flatten ++ pend).length : Nat) : Int) - p).toNat < fuel → zZ X zm_TS_hashOfNew (0) (0) (0) (0) [zObj h 4 [.ref hb, .ref hs, .ref hz_, .ref hh, .ref ho, .ref an, .int (zI (((ts.flatten.length : Nat) : Int)))], zBRow hb (ts.flatten ++ pend) (nb), zIRow hs (tsStarts ts) (n) (16384), zIRow hz_ (tsSizes ts) (n) (16384), zIRow hh (tsHashes ts) (n) (16384), zIRow ho (tsOlder ts) (n) (16384), zArI an (1024) (f)] 7 [(0, .ref h), (1, .int (hashL (pend.take (p - ((ts.flatten.length : Nat) : Int)).toNat))), (2, .int (zI (p)))] [] := by
    intro fuel
    induction fuel with
    | zero => intro p g0 hm; exact absurd hm (Nat.not_lt_zero _)
    | succ fuel ih =>
      intro p g0 hm
      refine zw_iload_n 2 rfl zd_TS_hashOfNew_7 ?_
      refine zw_aload_n 0 rfl zd_TS_hashOfNew_8 ?_
      refine zw_get zc_TS 0 0 rfl (by decide) zf_TS_12 rfl zd_TS_hashOfNew_9 ?_
      refine zw_callV (As := []) (rest := [.int (zI (p))]) (L2 := [zObj h 4 [.ref hb, .ref hs, .ref hz_, .ref hh, .ref ho, .ref an, .int (zI (((ts.flatten.length : Nat) : Int)))], zIRow hs (tsStarts ts) (n) (16384), zIRow hz_ (tsSizes ts) (n) (16384), zIRow hh (tsHashes ts) (n) (16384), zIRow ho (tsOlder ts) (n) (16384), zArI an (1024) (f)]) (L' := [zBRow hb (ts.flatten ++ pend) (nb), zObj h 4 [.ref hb, .ref hs, .ref hz_, .ref hh, .ref ho, .ref an, .int (zI (((ts.flatten.length : Nat) : Int)))], zIRow hs (tsStarts ts) (n) (16384), zIRow hz_ (tsSizes ts) (n) (16384), zIRow hh (tsHashes ts) (n) (16384), zIRow ho (tsOlder ts) (n) (16384), zArI an (1024) (f)]) (stk' := [.int (zI ((((ts.flatten ++ pend).length : Nat) : Int))), .int (zI (p))]) (c_BR_count hb (ts.flatten ++ pend) (nb) ((ts.flatten ++ pend).length) (rfl)) [1] [0, 2, 3, 4, 5, 6] rfl rfl rfl zcal_BR_count zl_TS_78 zin_BR_count zse_BR_count 0 rfl zRv_BRow rfl (Nat.le_of_ble_eq_true rfl) (Nat.le_of_ble_eq_true rfl) (by omega) (by omega) rfl (Nat.le_of_ble_eq_true rfl) rfl rfl zd_TS_hashOfNew_12 ?_
      refine zw_icmp_ge 40 (by omega) (by omega) zd_TS_hashOfNew_15 (by decide) (fun c15 => ?_) (fun c15 => ?_)
      · -- 15 -> 40
        refine zw_iload_n 1 rfl zd_TS_hashOfNew_40 ?_
        refine zw_sub (L' := [zObj h 4 [.ref hb, .ref hs, .ref hz_, .ref hh, .ref ho, .ref an, .int (zI (((ts.flatten.length : Nat) : Int)))], zBRow hb (ts.flatten ++ pend) (nb), zIRow hs (tsStarts ts) (n) (16384), zIRow hz_ (tsSizes ts) (n) (16384), zIRow hh (tsHashes ts) (n) (16384), zIRow ho (tsOlder ts) (n) (16384), zArI an (1024) (f)]) [1, 0, 2, 3, 4, 5, 6] rfl rfl ?_
        refine zw_pack (at0 := zTS h (ts) (pend) (nb) (n)) (Ls := [zObj h 4 [.ref hb, .ref hs, .ref hz_, .ref hh, .ref ho, .ref an, .int (zI (((ts.flatten.length : Nat) : Int)))], zBRow hb (ts.flatten ++ pend) (nb), zIRow hs (tsStarts ts) (n) (16384), zIRow hz_ (tsSizes ts) (n) (16384), zIRow hh (tsHashes ts) (n) (16384), zIRow ho (tsOlder ts) (n) (16384), zArI an (1024) (f)]) (L2 := []) rfl (fun G w h => ⟨((hb, hs, hz_, hh, ho, an), f), ⟨g1, g2, g3⟩, h⟩) ?_
        have e4 : pend.take (p - ((ts.flatten.length : Nat) : Int)).toNat = pend := List.take_of_length_le (by omega)
        exact zw_iret hR (by rw [e4]) rfl rfl (by omega) (by omega) zd_TS_hashOfNew_41
      · -- 15 -> 18
        refine zw_bipush rfl zd_TS_hashOfNew_18 ?_
        refine zw_iload_n 1 rfl zd_TS_hashOfNew_20 ?_
        refine zw_imulR zd_TS_hashOfNew_21 ?_
        refine zw_aload_n 0 rfl zd_TS_hashOfNew_22 ?_
        refine zw_get zc_TS 1 0 rfl (by decide) zf_TS_12 rfl zd_TS_hashOfNew_23 ?_
        refine zw_iload_n 2 rfl zd_TS_hashOfNew_26 ?_
        refine zw_callV (As := [.int (zI (p))]) (rest := [.int ((zI (31)) * (hashL (pend.take (p - ((ts.flatten.length : Nat) : Int)).toNat)))]) (L2 := [zObj h 4 [.ref hb, .ref hs, .ref hz_, .ref hh, .ref ho, .ref an, .int (zI (((ts.flatten.length : Nat) : Int)))], zIRow hs (tsStarts ts) (n) (16384), zIRow hz_ (tsSizes ts) (n) (16384), zIRow hh (tsHashes ts) (n) (16384), zIRow ho (tsOlder ts) (n) (16384), zArI an (1024) (f)]) (L' := [zBRow hb (ts.flatten ++ pend) (nb), zObj h 4 [.ref hb, .ref hs, .ref hz_, .ref hh, .ref ho, .ref an, .int (zI (((ts.flatten.length : Nat) : Int)))], zIRow hs (tsStarts ts) (n) (16384), zIRow hz_ (tsSizes ts) (n) (16384), zIRow hh (tsHashes ts) (n) (16384), zIRow ho (tsOlder ts) (n) (16384), zArI an (1024) (f)]) (stk' := [.int (zI (bget (ts.flatten ++ pend) (p))), .int ((zI (31)) * (hashL (pend.take (p - ((ts.flatten.length : Nat) : Int)).toNat)))]) (c_BR_get hb (ts.flatten ++ pend) (nb) (p) (by omega)) [0] [1, 2, 3, 4, 5, 6] rfl rfl rfl zcal_BR_get zl_TS_58 zin_BR_get zse_BR_get 0 rfl zRv_BRow rfl (Nat.le_of_ble_eq_true rfl) (Nat.le_of_ble_eq_true rfl) (by omega) (by omega) rfl (Nat.le_of_ble_eq_true rfl) rfl rfl zd_TS_hashOfNew_27 ?_
        refine zw_iaddR zd_TS_hashOfNew_30 ?_
        refine zw_iconst zd_TS_hashOfNew_31 ?_
        refine zw_iaddR zd_TS_hashOfNew_32 ?_
        refine zw_istore_n (lv' := [(1, .int ((((zI (31)) * (hashL (pend.take (p - ((ts.flatten.length : Nat) : Int)).toNat))) + (zI (bget (ts.flatten ++ pend) (p)))) + (zI (1)))), (0, .ref h), (2, .int (zI (p)))]) (Nat.le_of_ble_eq_true rfl) rfl zd_TS_hashOfNew_33 ?_
        refine zw_iinc (lv' := [(2, .int (zI (p + 1))), (1, .int ((((zI (31)) * (hashL (pend.take (p - ((ts.flatten.length : Nat) : Int)).toNat))) + (zI (bget (ts.flatten ++ pend) (p)))) + (zI (1)))), (0, .ref h)]) 2 rfl (Nat.le_of_ble_eq_true rfl) rfl zd_TS_hashOfNew_34 ?_
        refine zw_goto 7 zd_TS_hashOfNew_37 (by decide) ?_
        have e1 : (p + 1 - ((ts.flatten.length : Nat) : Int)).toNat = (p - ((ts.flatten.length : Nat) : Int)).toNat + 1 := by omega
        have e2 : bget (ts.flatten ++ pend) p = pend.getD (p - ((ts.flatten.length : Nat) : Int)).toNat 0 := by
          rw [bget, if_pos (by omega), zgD_r _ _ _ (by omega)]
          congr 1
          omega
        have e3 := hash_step (pend := pend) (i := (p - ((ts.flatten.length : Nat) : Int)).toNat) (by omega)
        refine zw_sub (L' := [zObj h 4 [.ref hb, .ref hs, .ref hz_, .ref hh, .ref ho, .ref an, .int (zI (((ts.flatten.length : Nat) : Int)))], zBRow hb (ts.flatten ++ pend) (nb), zIRow hs (tsStarts ts) (n) (16384), zIRow hz_ (tsSizes ts) (n) (16384), zIRow hh (tsHashes ts) (n) (16384), zIRow ho (tsOlder ts) (n) (16384), zArI an (1024) (f)]) [1, 0, 2, 3, 4, 5, 6] rfl rfl ?_
        refine zw_lpick (lv' := [(0, .ref h), (1, .int ((((zI (31)) * (hashL (pend.take (p - ((ts.flatten.length : Nat) : Int)).toNat))) + (zI (bget (ts.flatten ++ pend) (p)))) + (zI (1)))), (2, .int (zI (p + 1)))]) [2, 1, 0] rfl ?_
        refine zw_widen (k' := 0) (n' := 0) (by omega) (by omega) ?_
        refine zw_eqv (lv' := [(0, .ref h), (1, .int (hashL (pend.take (p + 1 - ((ts.flatten.length : Nat) : Int)).toNat))), (2, .int (zI (p + 1)))]) (by rw [e1, e2, e3]) ?_
        exact ih (p + 1) (by omega) (by omega)
  refine zw_iconst zd_TS_hashOfNew_0 ?_
  refine zw_istore_n (lv' := [(1, .int (zI (0))), (0, .ref h)]) (Nat.le_of_ble_eq_true rfl) rfl zd_TS_hashOfNew_1 ?_
  refine zw_aload_n 1 rfl zd_TS_hashOfNew_2 ?_
  refine zw_get zc_TS 0 6 rfl (by decide) zf_TS_46 rfl zd_TS_hashOfNew_3 ?_
  refine zw_istore_n (lv' := [(2, .int (zI (((ts.flatten.length : Nat) : Int)))), (1, .int (zI (0))), (0, .ref h)]) (Nat.le_of_ble_eq_true rfl) rfl zd_TS_hashOfNew_6 ?_
  refine zw_lpick (lv' := [(0, .ref h), (1, .int (zI (0))), (2, .int (zI (((ts.flatten.length : Nat) : Int))))]) [2, 1, 0] rfl ?_
  refine zw_widen (k' := 0) (n' := 0) (by omega) (by omega) ?_
  refine zw_eqv (lv' := [(0, .ref h), (1, .int (hashL (pend.take (((ts.flatten.length : Nat) : Int) - ((ts.flatten.length : Nat) : Int)).toNat))), (2, .int (zI (((ts.flatten.length : Nat) : Int))))]) (by rw [Int.sub_self]; rfl) ?_
  exact lp _ _ (by omega) (Nat.lt_succ_self _)
set_option maxHeartbeats 4000000 in
set_option maxRecDepth 100000 in
theorem c_TS_equalsNew (h : Nat) (ts : List (List Int)) (pend : List Int) (nb n : Nat) (z : Int) (hz : 0 ≤ z ∧ z < ts.length) : zCT zy_TS_equalsNew zm_TS_equalsNew (0) (0) [.ref h, .int (zI z)] [zTS h (ts) (pend) (nb) (n)] (some (.int (zI (bI (decide (ts.getD z.toNat [] = pend)))))) [zTS h (ts) (pend) (nb) (n)] := by
  refine zCT.of [(0, .ref h), (1, .int (zI (z)))] rfl (by decide) rfl (fun h => by first | rfl | cases h) (Nat.le_of_ble_eq_true rfl) (fun X hR => ?_)
  refine zw_unp (fun G ws h => h) (fun x0 hx0 => ?_)
  obtain ⟨⟨hb, hs, hz_, hh, ho, an⟩, f⟩ := x0
  obtain ⟨g1, g2, g3⟩ := hx0
  dsimp only at g3
  simp only [List.cons_append, List.nil_append]
  refine zw_fact 1 rfl (fun G ws h => (⟨h.choose_spec.1.1, h.choose_spec.1.2.2.1⟩ : (ts.flatten ++ pend).length ≤ nb ∧ nb ≤ 131072)) (fun hnb => ?_)
  have hlen : (ts.flatten ++ pend).length = ts.flatten.length + pend.length := List.length_append
  have hb2 := ts_bound (ts := ts) (i := z.toNat) (by omega)
  refine zw_fact 1 rfl (fun G ws h => (h.choose_spec.1.2.2.2.1 : ∀ b ∈ ts.flatten ++ pend, 0 ≤ b ∧ b ≤ 255)) (fun hby => ?_)
  refine zw_aload_n 0 rfl zd_TS_equalsNew_0 ?_
  refine zw_get zc_TS 0 2 rfl (by decide) zf_TS_27 rfl zd_TS_equalsNew_1 ?_
  refine zw_iload_n 1 rfl zd_TS_equalsNew_4 ?_
  refine zw_callV (As := [.int (zI (z))]) (rest := []) (L2 := [zObj h 4 [.ref hb, .ref hs, .ref hz_, .ref hh, .ref ho, .ref an, .int (zI (((ts.flatten.length : Nat) : Int)))], zBRow hb (ts.flatten ++ pend) (nb), zIRow hs (tsStarts ts) (n) (16384), zIRow hh (tsHashes ts) (n) (16384), zIRow ho (tsOlder ts) (n) (16384), zArI an (1024) (f)]) (L' := [zIRow hz_ (tsSizes ts) (n) (16384), zObj h 4 [.ref hb, .ref hs, .ref hz_, .ref hh, .ref ho, .ref an, .int (zI (((ts.flatten.length : Nat) : Int)))], zBRow hb (ts.flatten ++ pend) (nb), zIRow hs (tsStarts ts) (n) (16384), zIRow hh (tsHashes ts) (n) (16384), zIRow ho (tsOlder ts) (n) (16384), zArI an (1024) (f)]) (stk' := [.int (iget (tsSizes ts) (z))]) (c_IR_get hz_ (tsSizes ts) (n) (16384) (z) (by omega)) [3] [0, 1, 2, 4, 5, 6] rfl rfl rfl zcal_IR_get zl_TS_54 zin_IR_get zse_IR_get 0 rfl zRv_IRow rfl (Nat.le_of_ble_eq_true rfl) (Nat.le_of_ble_eq_true rfl) (by omega) (by omega) rfl (Nat.le_of_ble_eq_true rfl) rfl rfl zd_TS_equalsNew_5 ?_
  refine zw_topE (ig_sizes hz) ?_
  refine zw_istore_n (lv' := [(2, .int (zI ((((ts.getD z.toNat []).length : Nat) : Int)))), (0, .ref h), (1, .int (zI (z)))]) (Nat.le_of_ble_eq_true rfl) rfl zd_TS_equalsNew_8 ?_
  refine zw_iload_n 0 rfl zd_TS_equalsNew_9 ?_
  refine zw_aload_n 1 rfl zd_TS_equalsNew_10 ?_
  refine zw_get zc_TS 1 0 rfl (by decide) zf_TS_12 rfl zd_TS_equalsNew_11 ?_
  refine zw_callV (As := []) (rest := [.int (zI ((((ts.getD z.toNat []).length : Nat) : Int)))]) (L2 := [zIRow hz_ (tsSizes ts) (n) (16384), zObj h 4 [.ref hb, .ref hs, .ref hz_, .ref hh, .ref ho, .ref an, .int (zI (((ts.flatten.length : Nat) : Int)))], zIRow hs (tsStarts ts) (n) (16384), zIRow hh (tsHashes ts) (n) (16384), zIRow ho (tsOlder ts) (n) (16384), zArI an (1024) (f)]) (L' := [zBRow hb (ts.flatten ++ pend) (nb), zIRow hz_ (tsSizes ts) (n) (16384), zObj h 4 [.ref hb, .ref hs, .ref hz_, .ref hh, .ref ho, .ref an, .int (zI (((ts.flatten.length : Nat) : Int)))], zIRow hs (tsStarts ts) (n) (16384), zIRow hh (tsHashes ts) (n) (16384), zIRow ho (tsOlder ts) (n) (16384), zArI an (1024) (f)]) (stk' := [.int (zI ((((ts.flatten ++ pend).length : Nat) : Int))), .int (zI ((((ts.getD z.toNat []).length : Nat) : Int)))]) (c_BR_count hb (ts.flatten ++ pend) (nb) ((ts.flatten ++ pend).length) (rfl)) [2] [0, 1, 3, 4, 5, 6] rfl rfl rfl zcal_BR_count zl_TS_78 zin_BR_count zse_BR_count 0 rfl zRv_BRow rfl (Nat.le_of_ble_eq_true rfl) (Nat.le_of_ble_eq_true rfl) (by omega) (by omega) rfl (Nat.le_of_ble_eq_true rfl) rfl rfl zd_TS_equalsNew_14 ?_
  refine zw_aload_n 1 rfl zd_TS_equalsNew_17 ?_
  refine zw_get zc_TS 2 6 rfl (by decide) zf_TS_46 rfl zd_TS_equalsNew_18 ?_
  refine zw_isub zd_TS_equalsNew_21 ?_
  refine zw_icmp_eq 27 (by omega) (by omega) zd_TS_equalsNew_22 (by decide) (fun c22 => ?_) (fun c22 => ?_)
  · -- 22 -> 27
    -- bytes
    have lp : ∀ (fuel : Nat) (k : Int), ((0 ≤ k ∧ k ≤ (((ts.getD z.toNat []).length : Nat) : Int)) ∧ (ts.getD z.toNat []).take k.toNat = pend.take k.toNat) → ((((ts.getD z.toNat []).length : Nat) : Int) - k).toNat < fuel → zZ X zm_TS_equalsNew (0) (0) (0) (0) [zObj h 4 [.ref hb, .ref hs, .ref hz_, .ref hh, .ref ho, .ref an, .int (zI (((ts.flatten.length : Nat) : Int)))], zBRow hb (ts.flatten ++ pend) (nb), zIRow hs (tsStarts ts) (n) (16384), zIRow hz_ (tsSizes ts) (n) (16384), zIRow hh (tsHashes ts) (n) (16384), zIRow ho (tsOlder ts) (n) (16384), zArI an (1024) (f)] 39 [(0, .ref h), (1, .int (zI (z))), (2, .int (zI ((((ts.getD z.toNat []).length : Nat) : Int)))), (3, .int (zI ((((ts.take z.toNat).flatten.length : Nat) : Int)))), (4, .int (zI (k)))] [] := by
      intro fuel
      induction fuel with
      | zero => intro k g0 hm; exact absurd hm (Nat.not_lt_zero _)
      | succ fuel ih =>
        intro k g0 hm
        refine zw_iload 4 rfl zd_TS_equalsNew_39 ?_
        refine zw_iload_n 2 rfl zd_TS_equalsNew_41 ?_
        refine zw_icmp_ge 81 (by omega) (by omega) zd_TS_equalsNew_42 (by decide) (fun c42 => ?_) (fun c42 => ?_)
        · -- 42 -> 81
          refine zw_iconst zd_TS_equalsNew_81 ?_
          refine zw_pack (at0 := zTS h (ts) (pend) (nb) (n)) (Ls := [zObj h 4 [.ref hb, .ref hs, .ref hz_, .ref hh, .ref ho, .ref an, .int (zI (((ts.flatten.length : Nat) : Int)))], zBRow hb (ts.flatten ++ pend) (nb), zIRow hs (tsStarts ts) (n) (16384), zIRow hz_ (tsSizes ts) (n) (16384), zIRow hh (tsHashes ts) (n) (16384), zIRow ho (tsOlder ts) (n) (16384), zArI an (1024) (f)]) (L2 := []) rfl (fun G w h => ⟨((hb, hs, hz_, hh, ho, an), f), ⟨g1, g2, g3⟩, h⟩) ?_
          exact zw_zret hR (by rw [bI, if_pos]; apply decide_eq_true; have q := g0.2; rw [List.take_of_length_le (by omega), List.take_of_length_le (by omega)] at q; exact q) rfl rfl rfl (by omega) (by omega) zd_TS_equalsNew_82
        · -- 42 -> 45
          have b1 : bget (ts.flatten ++ pend) ((((ts.take z.toNat).flatten.length : Nat) : Int) + k) = (ts.getD z.toNat []).getD k.toNat 0 := by
            rw [bget, if_pos (by omega), ← ts_at (p := pend) (show z.toNat < ts.length by omega) (show k.toNat < _ by omega)]
            congr 1
            omega
          have b2 : bget (ts.flatten ++ pend) (((ts.flatten.length : Nat) : Int) + k) = pend.getD k.toNat 0 := by
            rw [bget, if_pos (by omega), zgD_r _ _ _ (by omega)]
            congr 1
            omega
          have b3 := bget_rg hby (((ts.take z.toNat).flatten.length : Int) + k)
          have b4 := bget_rg hby ((ts.flatten.length : Int) + k)
          refine zw_aload_n 0 rfl zd_TS_equalsNew_45 ?_
          refine zw_get zc_TS 0 0 rfl (by decide) zf_TS_12 rfl zd_TS_equalsNew_46 ?_
          refine zw_iload_n 3 rfl zd_TS_equalsNew_49 ?_
          refine zw_iload 4 rfl zd_TS_equalsNew_50 ?_
          refine zw_iadd zd_TS_equalsNew_52 ?_
          refine zw_callV (As := [.int (zI (((((ts.take z.toNat).flatten.length : Nat) : Int)) + k))]) (rest := []) (L2 := [zObj h 4 [.ref hb, .ref hs, .ref hz_, .ref hh, .ref ho, .ref an, .int (zI (((ts.flatten.length : Nat) : Int)))], zIRow hs (tsStarts ts) (n) (16384), zIRow hz_ (tsSizes ts) (n) (16384), zIRow hh (tsHashes ts) (n) (16384), zIRow ho (tsOlder ts) (n) (16384), zArI an (1024) (f)]) (L' := [zBRow hb (ts.flatten ++ pend) (nb), zObj h 4 [.ref hb, .ref hs, .ref hz_, .ref hh, .ref ho, .ref an, .int (zI (((ts.flatten.length : Nat) : Int)))], zIRow hs (tsStarts ts) (n) (16384), zIRow hz_ (tsSizes ts) (n) (16384), zIRow hh (tsHashes ts) (n) (16384), zIRow ho (tsOlder ts) (n) (16384), zArI an (1024) (f)]) (stk' := [.int (zI (bget (ts.flatten ++ pend) (((((ts.take z.toNat).flatten.length : Nat) : Int)) + k)))]) (c_BR_get hb (ts.flatten ++ pend) (nb) (((((ts.take z.toNat).flatten.length : Nat) : Int)) + k) (by omega)) [1] [0, 2, 3, 4, 5, 6] rfl rfl rfl zcal_BR_get zl_TS_58 zin_BR_get zse_BR_get 0 rfl zRv_BRow rfl (Nat.le_of_ble_eq_true rfl) (Nat.le_of_ble_eq_true rfl) (by omega) (by omega) rfl (Nat.le_of_ble_eq_true rfl) rfl rfl zd_TS_equalsNew_53 ?_
          refine zw_aload_n 0 rfl zd_TS_equalsNew_56 ?_
          refine zw_get zc_TS 1 0 rfl (by decide) zf_TS_12 rfl zd_TS_equalsNew_57 ?_
          refine zw_aload_n 0 rfl zd_TS_equalsNew_60 ?_
          refine zw_get zc_TS 1 6 rfl (by decide) zf_TS_46 rfl zd_TS_equalsNew_61 ?_
          refine zw_iload 4 rfl zd_TS_equalsNew_64 ?_
          refine zw_iadd zd_TS_equalsNew_66 ?_
          refine zw_callV (As := [.int (zI ((((ts.flatten.length : Nat) : Int)) + k))]) (rest := [.int (zI (bget (ts.flatten ++ pend) (((((ts.take z.toNat).flatten.length : Nat) : Int)) + k)))]) (L2 := [zObj h 4 [.ref hb, .ref hs, .ref hz_, .ref hh, .ref ho, .ref an, .int (zI (((ts.flatten.length : Nat) : Int)))], zIRow hs (tsStarts ts) (n) (16384), zIRow hz_ (tsSizes ts) (n) (16384), zIRow hh (tsHashes ts) (n) (16384), zIRow ho (tsOlder ts) (n) (16384), zArI an (1024) (f)]) (L' := [zBRow hb (ts.flatten ++ pend) (nb), zObj h 4 [.ref hb, .ref hs, .ref hz_, .ref hh, .ref ho, .ref an, .int (zI (((ts.flatten.length : Nat) : Int)))], zIRow hs (tsStarts ts) (n) (16384), zIRow hz_ (tsSizes ts) (n) (16384), zIRow hh (tsHashes ts) (n) (16384), zIRow ho (tsOlder ts) (n) (16384), zArI an (1024) (f)]) (stk' := [.int (zI (bget (ts.flatten ++ pend) ((((ts.flatten.length : Nat) : Int)) + k))), .int (zI (bget (ts.flatten ++ pend) (((((ts.take z.toNat).flatten.length : Nat) : Int)) + k)))]) (c_BR_get hb (ts.flatten ++ pend) (nb) ((((ts.flatten.length : Nat) : Int)) + k) (by omega)) [0] [1, 2, 3, 4, 5, 6] rfl rfl rfl zcal_BR_get zl_TS_58 zin_BR_get zse_BR_get 0 rfl zRv_BRow rfl (Nat.le_of_ble_eq_true rfl) (Nat.le_of_ble_eq_true rfl) (by omega) (by omega) rfl (Nat.le_of_ble_eq_true rfl) rfl rfl zd_TS_equalsNew_67 ?_
          refine zw_icmp_eq 75 (by omega) (by omega) zd_TS_equalsNew_70 (by decide) (fun c70 => ?_) (fun c70 => ?_)
          · -- 70 -> 75
            refine zw_iinc (lv' := [(4, .int (zI (k + 1))), (0, .ref h), (1, .int (zI (z))), (2, .int (zI ((((ts.getD z.toNat []).length : Nat) : Int)))), (3, .int (zI ((((ts.take z.toNat).flatten.length : Nat) : Int))))]) 4 rfl (Nat.le_of_ble_eq_true rfl) rfl zd_TS_equalsNew_75 ?_
            refine zw_goto 39 zd_TS_equalsNew_78 (by decide) ?_
            refine zw_sub (L' := [zObj h 4 [.ref hb, .ref hs, .ref hz_, .ref hh, .ref ho, .ref an, .int (zI (((ts.flatten.length : Nat) : Int)))], zBRow hb (ts.flatten ++ pend) (nb), zIRow hs (tsStarts ts) (n) (16384), zIRow hz_ (tsSizes ts) (n) (16384), zIRow hh (tsHashes ts) (n) (16384), zIRow ho (tsOlder ts) (n) (16384), zArI an (1024) (f)]) [1, 0, 2, 3, 4, 5, 6] rfl rfl ?_
            refine zw_lpick (lv' := [(0, .ref h), (1, .int (zI (z))), (2, .int (zI ((((ts.getD z.toNat []).length : Nat) : Int)))), (3, .int (zI ((((ts.take z.toNat).flatten.length : Nat) : Int)))), (4, .int (zI (k + 1)))]) [1, 2, 3, 4, 0] rfl ?_
            refine zw_widen (k' := 0) (n' := 0) (by omega) (by omega) ?_
            exact ih (k + 1) ⟨by omega, take_step g0.2 (by omega) (by omega) (by omega) (by omega)⟩ (by omega)
          · -- 70 -> 73
            refine zw_iconst zd_TS_equalsNew_73 ?_
            refine zw_sub (L' := [zObj h 4 [.ref hb, .ref hs, .ref hz_, .ref hh, .ref ho, .ref an, .int (zI (((ts.flatten.length : Nat) : Int)))], zBRow hb (ts.flatten ++ pend) (nb), zIRow hs (tsStarts ts) (n) (16384), zIRow hz_ (tsSizes ts) (n) (16384), zIRow hh (tsHashes ts) (n) (16384), zIRow ho (tsOlder ts) (n) (16384), zArI an (1024) (f)]) [1, 0, 2, 3, 4, 5, 6] rfl rfl ?_
            refine zw_pack (at0 := zTS h (ts) (pend) (nb) (n)) (Ls := [zObj h 4 [.ref hb, .ref hs, .ref hz_, .ref hh, .ref ho, .ref an, .int (zI (((ts.flatten.length : Nat) : Int)))], zBRow hb (ts.flatten ++ pend) (nb), zIRow hs (tsStarts ts) (n) (16384), zIRow hz_ (tsSizes ts) (n) (16384), zIRow hh (tsHashes ts) (n) (16384), zIRow ho (tsOlder ts) (n) (16384), zArI an (1024) (f)]) (L2 := []) rfl (fun G w h => ⟨((hb, hs, hz_, hh, ho, an), f), ⟨g1, g2, g3⟩, h⟩) ?_
            exact zw_zret hR (by rw [bI, if_neg]; intro q; have q := of_decide_eq_true q; rw [q] at b1; omega) rfl rfl rfl (by omega) (by omega) zd_TS_equalsNew_74
    refine zw_aload_n 1 rfl zd_TS_equalsNew_27 ?_
    refine zw_get zc_TS 2 1 rfl (by decide) zf_TS_23 rfl zd_TS_equalsNew_28 ?_
    refine zw_iload_n 2 rfl zd_TS_equalsNew_31 ?_
    refine zw_callV (As := [.int (zI (z))]) (rest := []) (L2 := [zBRow hb (ts.flatten ++ pend) (nb), zIRow hz_ (tsSizes ts) (n) (16384), zObj h 4 [.ref hb, .ref hs, .ref hz_, .ref hh, .ref ho, .ref an, .int (zI (((ts.flatten.length : Nat) : Int)))], zIRow hh (tsHashes ts) (n) (16384), zIRow ho (tsOlder ts) (n) (16384), zArI an (1024) (f)]) (L' := [zIRow hs (tsStarts ts) (n) (16384), zBRow hb (ts.flatten ++ pend) (nb), zIRow hz_ (tsSizes ts) (n) (16384), zObj h 4 [.ref hb, .ref hs, .ref hz_, .ref hh, .ref ho, .ref an, .int (zI (((ts.flatten.length : Nat) : Int)))], zIRow hh (tsHashes ts) (n) (16384), zIRow ho (tsOlder ts) (n) (16384), zArI an (1024) (f)]) (stk' := [.int (iget (tsStarts ts) (z))]) (c_IR_get hs (tsStarts ts) (n) (16384) (z) (by omega)) [3] [0, 1, 2, 4, 5, 6] rfl rfl rfl zcal_IR_get zl_TS_54 zin_IR_get zse_IR_get 0 rfl zRv_IRow rfl (Nat.le_of_ble_eq_true rfl) (Nat.le_of_ble_eq_true rfl) (by omega) (by omega) rfl (Nat.le_of_ble_eq_true rfl) rfl rfl zd_TS_equalsNew_32 ?_
    refine zw_topE (ig_starts hz) ?_
    refine zw_istore_n (lv' := [(3, .int (zI ((((ts.take z.toNat).flatten.length : Nat) : Int)))), (2, .int (zI ((((ts.getD z.toNat []).length : Nat) : Int)))), (0, .ref h), (1, .int (zI (z)))]) (Nat.le_of_ble_eq_true rfl) rfl zd_TS_equalsNew_35 ?_
    refine zw_iconst zd_TS_equalsNew_36 ?_
    refine zw_istore (lv' := [(4, .int (zI (0))), (3, .int (zI ((((ts.take z.toNat).flatten.length : Nat) : Int)))), (2, .int (zI ((((ts.getD z.toNat []).length : Nat) : Int)))), (0, .ref h), (1, .int (zI (z)))]) (Nat.le_of_ble_eq_true rfl) rfl zd_TS_equalsNew_37 ?_
    refine zw_sub (L' := [zObj h 4 [.ref hb, .ref hs, .ref hz_, .ref hh, .ref ho, .ref an, .int (zI (((ts.flatten.length : Nat) : Int)))], zBRow hb (ts.flatten ++ pend) (nb), zIRow hs (tsStarts ts) (n) (16384), zIRow hz_ (tsSizes ts) (n) (16384), zIRow hh (tsHashes ts) (n) (16384), zIRow ho (tsOlder ts) (n) (16384), zArI an (1024) (f)]) [3, 1, 0, 2, 4, 5, 6] rfl rfl ?_
    refine zw_lpick (lv' := [(0, .ref h), (1, .int (zI (z))), (2, .int (zI ((((ts.getD z.toNat []).length : Nat) : Int)))), (3, .int (zI ((((ts.take z.toNat).flatten.length : Nat) : Int)))), (4, .int (zI (0)))]) [3, 4, 2, 1, 0] rfl ?_
    refine zw_widen (k' := 0) (n' := 0) (by omega) (by omega) ?_
    exact lp _ 0 ⟨by omega, rfl⟩ (Nat.lt_succ_self _)
  · -- 22 -> 25
    refine zw_iconst zd_TS_equalsNew_25 ?_
    refine zw_sub (L' := [zObj h 4 [.ref hb, .ref hs, .ref hz_, .ref hh, .ref ho, .ref an, .int (zI (((ts.flatten.length : Nat) : Int)))], zBRow hb (ts.flatten ++ pend) (nb), zIRow hs (tsStarts ts) (n) (16384), zIRow hz_ (tsSizes ts) (n) (16384), zIRow hh (tsHashes ts) (n) (16384), zIRow ho (tsOlder ts) (n) (16384), zArI an (1024) (f)]) [2, 0, 3, 1, 4, 5, 6] rfl rfl ?_
    refine zw_pack (at0 := zTS h (ts) (pend) (nb) (n)) (Ls := [zObj h 4 [.ref hb, .ref hs, .ref hz_, .ref hh, .ref ho, .ref an, .int (zI (((ts.flatten.length : Nat) : Int)))], zBRow hb (ts.flatten ++ pend) (nb), zIRow hs (tsStarts ts) (n) (16384), zIRow hz_ (tsSizes ts) (n) (16384), zIRow hh (tsHashes ts) (n) (16384), zIRow ho (tsOlder ts) (n) (16384), zArI an (1024) (f)]) (L2 := []) rfl (fun G w h => ⟨((hb, hs, hz_, hh, ho, an), f), ⟨g1, g2, g3⟩, h⟩) ?_
    exact zw_zret hR (by rw [bI, if_neg]; intro q; have q := of_decide_eq_true q; have q := congrArg List.length q; omega) rfl rfl rfl (by omega) (by omega) zd_TS_equalsNew_26
set_option maxHeartbeats 4000000 in
set_option maxRecDepth 100000 in
theorem c_TS_keep (h : Nat) (ts : List (List Int)) (pend : List Int) (nb n : Nat) (hl : ts.length < 16384) : zCT zy_TS_keep zm_TS_keep (4 * (knew ts n pend - n)) (8 * (knew ts n pend - n)) [.ref h] [zTS h (ts) (pend) (nb) (n)] (some (.int (zI ((ixOf ts pend : Nat) : Int)))) [zTS h (addT ts pend) ([]) (nb) (knew ts n pend)] := by
  refine zCT.of [(0, .ref h)] rfl (by decide) rfl (fun h => by first | rfl | cases h) (Nat.le_of_ble_eq_true rfl) (fun X hR => ?_)
  have hfac := bkt_spec pend
  have new : ∀ (kn s : Int), ixOf ts pend = ts.length → zZ X zm_TS_keep (4 * (knew ts n pend - n)) (8 * (knew ts n pend - n)) (0) (0) [zTS h (ts) (pend) (nb) (n)] 82 [(0, .ref h), (1, .int (hashL pend)), (2, .int (zI (((bkt pend : Nat) : Int)))), (3, .int (zI (kn))), (4, .int (zI (s)))] [] := by
    intro kn s hix
    have hg := gcap_ge ts.length n
    have e0 : knew ts n pend = gcap ts.length n := by rw [knew, if_neg (by omega)]
    refine zw_aload_n 0 rfl zd_TS_keep_82 ?_
    refine zw_callV (As := []) (rest := []) (L2 := []) (L' := [zTS h (ts) (pend) (nb) (n)]) (stk' := [.int (zI ((((ts).length : Nat) : Int)))]) (c_TS_count h (ts) (pend) (nb) (n)  ) [0] [] rfl rfl rfl zcal_TS_count zl_TS_59 zin_TS_count zse_TS_count 0 rfl zRv_TS rfl (Nat.le_of_ble_eq_true rfl) (Nat.le_of_ble_eq_true rfl) (by omega) (by omega) rfl (Nat.le_of_ble_eq_true rfl) rfl rfl zd_TS_keep_83 ?_
    refine zw_istore (lv' := [(4, .int (zI ((((ts).length : Nat) : Int)))), (0, .ref h), (1, .int (hashL pend)), (2, .int (zI (((bkt pend : Nat) : Int)))), (3, .int (zI (kn)))]) (Nat.le_of_ble_eq_true rfl) rfl zd_TS_keep_86 ?_
    refine zw_unp (fun G ws h => h) (fun x0 hx0 => ?_)
    obtain ⟨⟨hb, hs, hz_, hh, ho, an⟩, f⟩ := x0
    obtain ⟨g1, g2, g3⟩ := hx0
    dsimp only at g3
    simp only [List.cons_append, List.nil_append]
    refine zw_fact 1 rfl (fun G ws h => (⟨h.choose_spec.1.1, h.choose_spec.1.2.2.1⟩ : (ts.flatten ++ pend).length ≤ nb ∧ nb ≤ 131072)) (fun hnb => ?_)
    have hlen : (ts.flatten ++ pend).length = ts.flatten.length + pend.length := List.length_append
    refine zw_aload_n 1 rfl zd_TS_keep_88 ?_
    refine zw_get zc_TS 0 1 rfl (by decide) zf_TS_23 rfl zd_TS_keep_89 ?_
    refine zw_aload_n 1 rfl zd_TS_keep_92 ?_
    refine zw_get zc_TS 0 6 rfl (by decide) zf_TS_46 rfl zd_TS_keep_93 ?_
    refine zw_callV (As := [.int (zI (((ts.flatten.length : Nat) : Int)))]) (rest := []) (L2 := [zObj h 4 [.ref hb, .ref hs, .ref hz_, .ref hh, .ref ho, .ref an, .int (zI (((ts.flatten.length : Nat) : Int)))], zBRow hb (ts.flatten ++ pend) (nb), zIRow hz_ (tsSizes ts) (n) (16384), zIRow hh (tsHashes ts) (n) (16384), zIRow ho (tsOlder ts) (n) (16384), zArI an (1024) (f)]) (L' := [zIRow hs ((tsStarts ts) ++ [(zI (((ts.flatten.length : Nat) : Int)))]) (gcap (ts.length) (n)) (16384), zObj h 4 [.ref hb, .ref hs, .ref hz_, .ref hh, .ref ho, .ref an, .int (zI (((ts.flatten.length : Nat) : Int)))], zBRow hb (ts.flatten ++ pend) (nb), zIRow hz_ (tsSizes ts) (n) (16384), zIRow hh (tsHashes ts) (n) (16384), zIRow ho (tsOlder ts) (n) (16384), zArI an (1024) (f)]) (stk' := []) (c_IR_add hs (tsStarts ts) (n) (16384) (zI (((ts.flatten.length : Nat) : Int))) (ts.length) (tsStarts_len ts) (by omega) (by omega)) [2] [0, 1, 3, 4, 5, 6] rfl rfl rfl zcal_IR_add zl_TS_77 zin_IR_add zse_IR_add 0 rfl zRv_IRow rfl (Nat.le_of_ble_eq_true rfl) (Nat.le_of_ble_eq_true rfl) (by omega) (by omega) rfl (Nat.le_of_ble_eq_true rfl) rfl rfl zd_TS_keep_96 ?_
    refine zw_aload_n 1 rfl zd_TS_keep_99 ?_
    refine zw_get zc_TS 1 2 rfl (by decide) zf_TS_27 rfl zd_TS_keep_100 ?_
    refine zw_aload_n 1 rfl zd_TS_keep_103 ?_
    refine zw_get zc_TS 1 0 rfl (by decide) zf_TS_12 rfl zd_TS_keep_104 ?_
    refine zw_callV (As := []) (rest := [.ref hz_]) (L2 := [zIRow hs ((tsStarts ts) ++ [(zI (((ts.flatten.length : Nat) : Int)))]) (gcap (ts.length) (n)) (16384), zObj h 4 [.ref hb, .ref hs, .ref hz_, .ref hh, .ref ho, .ref an, .int (zI (((ts.flatten.length : Nat) : Int)))], zIRow hz_ (tsSizes ts) (n) (16384), zIRow hh (tsHashes ts) (n) (16384), zIRow ho (tsOlder ts) (n) (16384), zArI an (1024) (f)]) (L' := [zBRow hb (ts.flatten ++ pend) (nb), zIRow hs ((tsStarts ts) ++ [(zI (((ts.flatten.length : Nat) : Int)))]) (gcap (ts.length) (n)) (16384), zObj h 4 [.ref hb, .ref hs, .ref hz_, .ref hh, .ref ho, .ref an, .int (zI (((ts.flatten.length : Nat) : Int)))], zIRow hz_ (tsSizes ts) (n) (16384), zIRow hh (tsHashes ts) (n) (16384), zIRow ho (tsOlder ts) (n) (16384), zArI an (1024) (f)]) (stk' := [.int (zI ((((ts.flatten ++ pend).length : Nat) : Int))), .ref hz_]) (c_BR_count hb (ts.flatten ++ pend) (nb) ((ts.flatten ++ pend).length) (rfl)) [2] [0, 1, 3, 4, 5, 6] rfl rfl rfl zcal_BR_count zl_TS_78 zin_BR_count zse_BR_count 0 rfl zRv_BRow rfl (Nat.le_of_ble_eq_true rfl) (Nat.le_of_ble_eq_true rfl) (by omega) (by omega) rfl (Nat.le_of_ble_eq_true rfl) rfl rfl zd_TS_keep_107 ?_
    refine zw_aload_n 1 rfl zd_TS_keep_110 ?_
    refine zw_get zc_TS 2 6 rfl (by decide) zf_TS_46 rfl zd_TS_keep_111 ?_
    refine zw_isub zd_TS_keep_114 ?_
    refine zw_callV (As := [.int (zI (((((ts.flatten ++ pend).length : Nat) : Int)) - (((ts.flatten.length : Nat) : Int))))]) (rest := []) (L2 := [zBRow hb (ts.flatten ++ pend) (nb), zIRow hs ((tsStarts ts) ++ [(zI (((ts.flatten.length : Nat) : Int)))]) (gcap (ts.length) (n)) (16384), zObj h 4 [.ref hb, .ref hs, .ref hz_, .ref hh, .ref ho, .ref an, .int (zI (((ts.flatten.length : Nat) : Int)))], zIRow hh (tsHashes ts) (n) (16384), zIRow ho (tsOlder ts) (n) (16384), zArI an (1024) (f)]) (L' := [zIRow hz_ ((tsSizes ts) ++ [(zI (((((ts.flatten ++ pend).length : Nat) : Int)) - (((ts.flatten.length : Nat) : Int))))]) (gcap (ts.length) (n)) (16384), zBRow hb (ts.flatten ++ pend) (nb), zIRow hs ((tsStarts ts) ++ [(zI (((ts.flatten.length : Nat) : Int)))]) (gcap (ts.length) (n)) (16384), zObj h 4 [.ref hb, .ref hs, .ref hz_, .ref hh, .ref ho, .ref an, .int (zI (((ts.flatten.length : Nat) : Int)))], zIRow hh (tsHashes ts) (n) (16384), zIRow ho (tsOlder ts) (n) (16384), zArI an (1024) (f)]) (stk' := []) (c_IR_add hz_ (tsSizes ts) (n) (16384) (zI (((((ts.flatten ++ pend).length : Nat) : Int)) - (((ts.flatten.length : Nat) : Int)))) (ts.length) (tsSizes_len ts) (by omega) (by omega)) [3] [0, 1, 2, 4, 5, 6] rfl rfl rfl zcal_IR_add zl_TS_77 zin_IR_add zse_IR_add 0 rfl zRv_IRow rfl (Nat.le_of_ble_eq_true rfl) (Nat.le_of_ble_eq_true rfl) (by omega) (by omega) rfl (Nat.le_of_ble_eq_true rfl) rfl rfl zd_TS_keep_115 ?_
    refine zw_aload_n 1 rfl zd_TS_keep_118 ?_
    refine zw_get zc_TS 3 3 rfl (by decide) zf_TS_30 rfl zd_TS_keep_119 ?_
    refine zw_iload_n 2 rfl zd_TS_keep_122 ?_
    refine zw_callV (As := [.int (hashL pend)]) (rest := []) (L2 := [zIRow hz_ ((tsSizes ts) ++ [(zI (((((ts.flatten ++ pend).length : Nat) : Int)) - (((ts.flatten.length : Nat) : Int))))]) (gcap (ts.length) (n)) (16384), zBRow hb (ts.flatten ++ pend) (nb), zIRow hs ((tsStarts ts) ++ [(zI (((ts.flatten.length : Nat) : Int)))]) (gcap (ts.length) (n)) (16384), zObj h 4 [.ref hb, .ref hs, .ref hz_, .ref hh, .ref ho, .ref an, .int (zI (((ts.flatten.length : Nat) : Int)))], zIRow ho (tsOlder ts) (n) (16384), zArI an (1024) (f)]) (L' := [zIRow hh ((tsHashes ts) ++ [(hashL pend)]) (gcap (ts.length) (n)) (16384), zIRow hz_ ((tsSizes ts) ++ [(zI (((((ts.flatten ++ pend).length : Nat) : Int)) - (((ts.flatten.length : Nat) : Int))))]) (gcap (ts.length) (n)) (16384), zBRow hb (ts.flatten ++ pend) (nb), zIRow hs ((tsStarts ts) ++ [(zI (((ts.flatten.length : Nat) : Int)))]) (gcap (ts.length) (n)) (16384), zObj h 4 [.ref hb, .ref hs, .ref hz_, .ref hh, .ref ho, .ref an, .int (zI (((ts.flatten.length : Nat) : Int)))], zIRow ho (tsOlder ts) (n) (16384), zArI an (1024) (f)]) (stk' := []) (c_IR_add hh (tsHashes ts) (n) (16384) (hashL pend) (ts.length) (tsHashes_len ts) (by omega) (by omega)) [4] [0, 1, 2, 3, 5, 6] rfl rfl rfl zcal_IR_add zl_TS_77 zin_IR_add zse_IR_add 0 rfl zRv_IRow rfl (Nat.le_of_ble_eq_true rfl) (Nat.le_of_ble_eq_true rfl) (by omega) (by omega) rfl (Nat.le_of_ble_eq_true rfl) rfl rfl zd_TS_keep_123 ?_
    refine zw_aload_n 1 rfl zd_TS_keep_126 ?_
    refine zw_get zc_TS 4 4 rfl (by decide) zf_TS_33 rfl zd_TS_keep_127 ?_
    refine zw_aload_n 1 rfl zd_TS_keep_130 ?_
    refine zw_get zc_TS 4 5 rfl (by decide) zf_TS_36 rfl zd_TS_keep_131 ?_
    refine zw_iload_n 3 rfl zd_TS_keep_134 ?_
    refine zw_aldI 6 rfl (by omega) (by omega) zd_TS_keep_135 ?_
    refine zw_topE (show f ((bkt pend : Nat) : Int).toNat = zI (lastB ts (bkt pend) ts.length) by rw [show ((bkt pend : Nat) : Int).toNat = bkt pend by omega]; exact g3 _ hfac.1) ?_
    refine zw_callV (As := [.int (zI (lastB ts (bkt pend) ts.length))]) (rest := []) (L2 := [zIRow hh ((tsHashes ts) ++ [(hashL pend)]) (gcap (ts.length) (n)) (16384), zIRow hz_ ((tsSizes ts) ++ [(zI (((((ts.flatten ++ pend).length : Nat) : Int)) - (((ts.flatten.length : Nat) : Int))))]) (gcap (ts.length) (n)) (16384), zBRow hb (ts.flatten ++ pend) (nb), zIRow hs ((tsStarts ts) ++ [(zI (((ts.flatten.length : Nat) : Int)))]) (gcap (ts.length) (n)) (16384), zObj h 4 [.ref hb, .ref hs, .ref hz_, .ref hh, .ref ho, .ref an, .int (zI (((ts.flatten.length : Nat) : Int)))], zArI an (1024) (f)]) (L' := [zIRow ho ((tsOlder ts) ++ [(zI (lastB ts (bkt pend) ts.length))]) (gcap (ts.length) (n)) (16384), zIRow hh ((tsHashes ts) ++ [(hashL pend)]) (gcap (ts.length) (n)) (16384), zIRow hz_ ((tsSizes ts) ++ [(zI (((((ts.flatten ++ pend).length : Nat) : Int)) - (((ts.flatten.length : Nat) : Int))))]) (gcap (ts.length) (n)) (16384), zBRow hb (ts.flatten ++ pend) (nb), zIRow hs ((tsStarts ts) ++ [(zI (((ts.flatten.length : Nat) : Int)))]) (gcap (ts.length) (n)) (16384), zObj h 4 [.ref hb, .ref hs, .ref hz_, .ref hh, .ref ho, .ref an, .int (zI (((ts.flatten.length : Nat) : Int)))], zArI an (1024) (f)]) (stk' := []) (c_IR_add ho (tsOlder ts) (n) (16384) (zI (lastB ts (bkt pend) ts.length)) (ts.length) (tsOlder_len ts) (by omega) (by omega)) [5] [0, 1, 2, 3, 4, 6] rfl rfl rfl zcal_IR_add zl_TS_77 zin_IR_add zse_IR_add 0 rfl zRv_IRow rfl (Nat.le_of_ble_eq_true rfl) (Nat.le_of_ble_eq_true rfl) (by omega) (by omega) rfl (Nat.le_of_ble_eq_true rfl) rfl rfl zd_TS_keep_136 ?_
    refine zw_aload_n 1 rfl zd_TS_keep_139 ?_
    refine zw_get zc_TS 5 5 rfl (by decide) zf_TS_36 rfl zd_TS_keep_140 ?_
    refine zw_iload_n 3 rfl zd_TS_keep_143 ?_
    refine zw_iload 0 rfl zd_TS_keep_144 ?_
    refine zw_astI (L' := [zIRow ho ((tsOlder ts) ++ [(zI (lastB ts (bkt pend) ts.length))]) (gcap (ts.length) (n)) (16384), zIRow hh ((tsHashes ts) ++ [(hashL pend)]) (gcap (ts.length) (n)) (16384), zIRow hz_ ((tsSizes ts) ++ [(zI (((((ts.flatten ++ pend).length : Nat) : Int)) - (((ts.flatten.length : Nat) : Int))))]) (gcap (ts.length) (n)) (16384), zBRow hb (ts.flatten ++ pend) (nb), zIRow hs ((tsStarts ts) ++ [(zI (((ts.flatten.length : Nat) : Int)))]) (gcap (ts.length) (n)) (16384), zObj h 4 [.ref hb, .ref hs, .ref hz_, .ref hh, .ref ho, .ref an, .int (zI (((ts.flatten.length : Nat) : Int)))], zArI an (1024) (upd f (((bkt pend : Nat) : Int)).toNat (zI ((((ts).length : Nat) : Int))))]) 6 rfl (by omega) (by omega) rfl zd_TS_keep_146 ?_
    refine zw_aload_n 1 rfl zd_TS_keep_147 ?_
    refine zw_aload_n 1 rfl zd_TS_keep_148 ?_
    refine zw_get zc_TS 5 0 rfl (by decide) zf_TS_12 rfl zd_TS_keep_149 ?_
    refine zw_callV (As := []) (rest := [.ref h]) (L2 := [zIRow ho ((tsOlder ts) ++ [(zI (lastB ts (bkt pend) ts.length))]) (gcap (ts.length) (n)) (16384), zIRow hh ((tsHashes ts) ++ [(hashL pend)]) (gcap (ts.length) (n)) (16384), zIRow hz_ ((tsSizes ts) ++ [(zI (((((ts.flatten ++ pend).length : Nat) : Int)) - (((ts.flatten.length : Nat) : Int))))]) (gcap (ts.length) (n)) (16384), zIRow hs ((tsStarts ts) ++ [(zI (((ts.flatten.length : Nat) : Int)))]) (gcap (ts.length) (n)) (16384), zObj h 4 [.ref hb, .ref hs, .ref hz_, .ref hh, .ref ho, .ref an, .int (zI (((ts.flatten.length : Nat) : Int)))], zArI an (1024) (upd f (((bkt pend : Nat) : Int)).toNat (zI ((((ts).length : Nat) : Int))))]) (L' := [zBRow hb (ts.flatten ++ pend) (nb), zIRow ho ((tsOlder ts) ++ [(zI (lastB ts (bkt pend) ts.length))]) (gcap (ts.length) (n)) (16384), zIRow hh ((tsHashes ts) ++ [(hashL pend)]) (gcap (ts.length) (n)) (16384), zIRow hz_ ((tsSizes ts) ++ [(zI (((((ts.flatten ++ pend).length : Nat) : Int)) - (((ts.flatten.length : Nat) : Int))))]) (gcap (ts.length) (n)) (16384), zIRow hs ((tsStarts ts) ++ [(zI (((ts.flatten.length : Nat) : Int)))]) (gcap (ts.length) (n)) (16384), zObj h 4 [.ref hb, .ref hs, .ref hz_, .ref hh, .ref ho, .ref an, .int (zI (((ts.flatten.length : Nat) : Int)))], zArI an (1024) (upd f (((bkt pend : Nat) : Int)).toNat (zI ((((ts).length : Nat) : Int))))]) (stk' := [.int (zI ((((ts.flatten ++ pend).length : Nat) : Int))), .ref h]) (c_BR_count hb (ts.flatten ++ pend) (nb) ((ts.flatten ++ pend).length) (rfl)) [3] [0, 1, 2, 4, 5, 6] rfl rfl rfl zcal_BR_count zl_TS_78 zin_BR_count zse_BR_count 0 rfl zRv_BRow rfl (Nat.le_of_ble_eq_true rfl) (Nat.le_of_ble_eq_true rfl) (by omega) (by omega) rfl (Nat.le_of_ble_eq_true rfl) rfl rfl zd_TS_keep_152 ?_
    refine zw_put (L' := [zBRow hb (ts.flatten ++ pend) (nb), zIRow ho ((tsOlder ts) ++ [(zI (lastB ts (bkt pend) ts.length))]) (gcap (ts.length) (n)) (16384), zIRow hh ((tsHashes ts) ++ [(hashL pend)]) (gcap (ts.length) (n)) (16384), zIRow hz_ ((tsSizes ts) ++ [(zI (((((ts.flatten ++ pend).length : Nat) : Int)) - (((ts.flatten.length : Nat) : Int))))]) (gcap (ts.length) (n)) (16384), zIRow hs ((tsStarts ts) ++ [(zI (((ts.flatten.length : Nat) : Int)))]) (gcap (ts.length) (n)) (16384), zObj h 4 [.ref hb, .ref hs, .ref hz_, .ref hh, .ref ho, .ref an, .int (zI ((((ts.flatten ++ pend).length : Nat) : Int)))], zArI an (1024) (upd f (((bkt pend : Nat) : Int)).toNat (zI ((((ts).length : Nat) : Int))))]) zc_TS 5 6 rfl (by decide) zf_TS_46 rfl rfl rfl (Nat.le_of_ble_eq_true rfl) rfl zd_TS_keep_155 ?_
    refine zw_iload 0 rfl zd_TS_keep_158 ?_
    refine zw_sub (L' := [zObj h 4 [.ref hb, .ref hs, .ref hz_, .ref hh, .ref ho, .ref an, .int (zI ((((ts.flatten ++ pend).length : Nat) : Int)))], zBRow hb (ts.flatten ++ pend) (nb), zIRow hs ((tsStarts ts) ++ [(zI (((ts.flatten.length : Nat) : Int)))]) (gcap (ts.length) (n)) (16384), zIRow hz_ ((tsSizes ts) ++ [(zI (((((ts.flatten ++ pend).length : Nat) : Int)) - (((ts.flatten.length : Nat) : Int))))]) (gcap (ts.length) (n)) (16384), zIRow hh ((tsHashes ts) ++ [(hashL pend)]) (gcap (ts.length) (n)) (16384), zIRow ho ((tsOlder ts) ++ [(zI (lastB ts (bkt pend) ts.length))]) (gcap (ts.length) (n)) (16384), zArI an (1024) (upd f (((bkt pend : Nat) : Int)).toNat (zI ((((ts).length : Nat) : Int))))]) [5, 0, 4, 3, 2, 1, 6] rfl rfl ?_
    have q1 : (ts ++ [pend]).flatten = ts.flatten ++ pend := by rw [List.flatten_append, List.flatten_cons, List.flatten_nil, List.append_nil]
    refine zw_eqL (L' := [zObj h 4 [.ref hb, .ref hs, .ref hz_, .ref hh, .ref ho, .ref an, .int (zI ((((ts ++ [pend]).flatten.length : Nat) : Int)))], zBRow hb ((ts ++ [pend]).flatten ++ []) (nb), zIRow hs (tsStarts (ts ++ [pend])) (gcap ts.length n) (16384), zIRow hz_ (tsSizes (ts ++ [pend])) (gcap ts.length n) (16384), zIRow hh (tsHashes (ts ++ [pend])) (gcap ts.length n) (16384), zIRow ho (tsOlder (ts ++ [pend])) (gcap ts.length n) (16384), zArI an (1024) (upd f (((bkt pend : Nat) : Int)).toNat (zI ((((ts).length : Nat) : Int))))]) (by rw [q1, tsStarts_add, tsSizes_add, tsHashes_add, tsOlder_add, List.append_nil, show (((ts.flatten ++ pend).length : Nat) : Int) - ((ts.flatten.length : Nat) : Int) = ((pend.length : Nat) : Int) by omega]) ?_
    refine zw_pack (at0 := zTS h (ts ++ [pend]) [] nb (gcap ts.length n)) (Ls := [zObj h 4 [.ref hb, .ref hs, .ref hz_, .ref hh, .ref ho, .ref an, .int (zI ((((ts ++ [pend]).flatten.length : Nat) : Int)))], zBRow hb ((ts ++ [pend]).flatten ++ []) (nb), zIRow hs (tsStarts (ts ++ [pend])) (gcap ts.length n) (16384), zIRow hz_ (tsSizes (ts ++ [pend])) (gcap ts.length n) (16384), zIRow hh (tsHashes (ts ++ [pend])) (gcap ts.length n) (16384), zIRow ho (tsOlder (ts ++ [pend])) (gcap ts.length n) (16384), zArI an (1024) (upd f (((bkt pend : Nat) : Int)).toNat (zI ((((ts).length : Nat) : Int))))]) (L2 := []) rfl (fun G w h => ⟨((hb, hs, hz_, hh, ho, an), upd f (((bkt pend : Nat) : Int)).toNat (zI ((((ts).length : Nat) : Int)))), ⟨by rw [List.length_append, List.length_singleton]; omega, difT_add g2 hix, ?_⟩, h⟩) ?_
    · intro b hb1
      rw [lastB_add]
      show upd f _ _ b = _
      by_cases hbb : b = bkt pend
      · subst hbb
        rw [if_pos rfl, show ((bkt pend : Nat) : Int).toNat = bkt pend by omega, pk_us]
      · rw [if_neg (Ne.symm hbb), show ((bkt pend : Nat) : Int).toNat = bkt pend by omega, pk_un hbb]
        exact g3 b hb1
    exact zw_iret hR (by rw [hix]) (by rw [e0, addT, if_neg (by omega)]) rfl (by rw [e0]; omega) (by rw [e0]; omega) zd_TS_keep_160
  refine zw_fact 0 rfl (fun G ws h => (h.choose_spec.1.2.1 : difT ts)) (fun hdif => ?_)
  have lp : ∀ (fuel : Nat) (m : Nat) (kn : Int) (s : Int), ((0 ≤ s ∧ s + (m : Int) ≤ ts.length) ∧ kn = lastB ts (bkt pend) m ∧ ∀ j : Nat, m ≤ j → j < ts.length → ts.getD j [] ≠ pend) → m < fuel → zZ X zm_TS_keep (4 * (knew ts n pend - n)) (8 * (knew ts n pend - n)) (0) (0) [zTS h (ts) (pend) (nb) (n)] 20 [(0, .ref h), (1, .int (hashL pend)), (2, .int (zI (((bkt pend : Nat) : Int)))), (3, .int (zI (kn))), (4, .int (zI (s)))] [] := by
    intro fuel
    induction fuel with
    | zero => intro m kn s g0 hm; exact absurd hm (Nat.not_lt_zero _)
    | succ fuel ih =>
      intro m kn s g0 hm
      obtain ⟨i1, i2, i3⟩ := g0
      have r1 := lastB_rg ts (bkt pend) m
      refine zw_iload 4 rfl zd_TS_keep_20 ?_
      refine zw_aload_n 0 rfl zd_TS_keep_22 ?_
      refine zw_callV (As := []) (rest := [.int (zI (s))]) (L2 := []) (L' := [zTS h (ts) (pend) (nb) (n)]) (stk' := [.int (zI ((((ts).length : Nat) : Int))), .int (zI (s))]) (c_TS_count h (ts) (pend) (nb) (n)  ) [0] [] rfl rfl rfl zcal_TS_count zl_TS_59 zin_TS_count zse_TS_count 0 rfl zRv_TS rfl (Nat.le_of_ble_eq_true rfl) (Nat.le_of_ble_eq_true rfl) (by omega) (by omega) rfl (Nat.le_of_ble_eq_true rfl) rfl rfl zd_TS_keep_23 ?_
      refine zw_icmp_ge 82 (by omega) (by omega) zd_TS_keep_26 (by decide) (fun c26 => ?_) (fun c26 => ?_)
      · -- 26 -> 82
        refine zw_widen (k' := 0) (n' := 0) (by omega) (by omega) ?_
        refine new kn s (ixOf_none (fun j hj e => ?_))
        rcases Nat.lt_or_ge j m with q | q
        · refine lastB_out ts (bkt pend) m j (by omega) q (by rw [e])
        · exact i3 j q hj e
      · -- 26 -> 29
        refine zw_iload_n 3 rfl zd_TS_keep_29 ?_
        refine zw_iconst zd_TS_keep_30 ?_
        refine zw_icmp_eq 82 (by omega) (by omega) zd_TS_keep_31 (by decide) (fun c31 => ?_) (fun c31 => ?_)
        · -- 31 -> 82
          refine zw_widen (k' := 0) (n' := 0) (by omega) (by omega) ?_
          refine new kn s (ixOf_none (fun j hj e => ?_))
          rcases Nat.lt_or_ge j m with q | q
          · refine lastB_out ts (bkt pend) m j (by omega) q (by rw [e])
          · exact i3 j q hj e
        · -- 31 -> 34
          refine zw_unp (fun G ws h => h) (fun x0 hx0 => ?_)
          obtain ⟨⟨hb, hs, hz_, hh, ho, an⟩, f⟩ := x0
          obtain ⟨g1, g2, g3⟩ := hx0
          dsimp only at g3
          simp only [List.cons_append, List.nil_append]
          refine zw_fact 1 rfl (fun G ws h => (⟨h.choose_spec.1.1, h.choose_spec.1.2.2.1⟩ : (ts.flatten ++ pend).length ≤ nb ∧ nb ≤ 131072)) (fun hnb => ?_)
          have hlen : (ts.flatten ++ pend).length = ts.flatten.length + pend.length := List.length_append
          refine zw_aload_n 0 rfl zd_TS_keep_34 ?_
          refine zw_get zc_TS 0 3 rfl (by decide) zf_TS_30 rfl zd_TS_keep_35 ?_
          refine zw_iload_n 3 rfl zd_TS_keep_38 ?_
          refine zw_callV (As := [.int (zI (kn))]) (rest := []) (L2 := [zObj h 4 [.ref hb, .ref hs, .ref hz_, .ref hh, .ref ho, .ref an, .int (zI (((ts.flatten.length : Nat) : Int)))], zBRow hb (ts.flatten ++ pend) (nb), zIRow hs (tsStarts ts) (n) (16384), zIRow hz_ (tsSizes ts) (n) (16384), zIRow ho (tsOlder ts) (n) (16384), zArI an (1024) (f)]) (L' := [zIRow hh (tsHashes ts) (n) (16384), zObj h 4 [.ref hb, .ref hs, .ref hz_, .ref hh, .ref ho, .ref an, .int (zI (((ts.flatten.length : Nat) : Int)))], zBRow hb (ts.flatten ++ pend) (nb), zIRow hs (tsStarts ts) (n) (16384), zIRow hz_ (tsSizes ts) (n) (16384), zIRow ho (tsOlder ts) (n) (16384), zArI an (1024) (f)]) (stk' := [.int (iget (tsHashes ts) (kn))]) (c_IR_get hh (tsHashes ts) (n) (16384) (kn) (by omega)) [4] [0, 1, 2, 3, 5, 6] rfl rfl rfl zcal_IR_get zl_TS_54 zin_IR_get zse_IR_get 0 rfl zRv_IRow rfl (Nat.le_of_ble_eq_true rfl) (Nat.le_of_ble_eq_true rfl) (by omega) (by omega) rfl (Nat.le_of_ble_eq_true rfl) rfl rfl zd_TS_keep_39 ?_
          refine zw_topE (ig_hashes (by omega)) ?_
          refine zw_iload_n 1 rfl zd_TS_keep_42 ?_
          refine zw_icmp_neR 67 zd_TS_keep_43 (by decide) (fun c43 => ?_) (fun c43 => ?_)
          · -- 43 -> 67
            have k1 : ts.getD kn.toNat [] ≠ pend := by
              first | (intro q; rw [q] at c43; exact c43 rfl) | (intro q; rw [bI, if_pos (decide_eq_true q)] at c51; omega)
            refine zw_aload_n 0 rfl zd_TS_keep_67 ?_
            refine zw_get zc_TS 1 4 rfl (by decide) zf_TS_33 rfl zd_TS_keep_68 ?_
            refine zw_iload_n 3 rfl zd_TS_keep_71 ?_
            refine zw_callV (As := [.int (zI (kn))]) (rest := []) (L2 := [zIRow hh (tsHashes ts) (n) (16384), zObj h 4 [.ref hb, .ref hs, .ref hz_, .ref hh, .ref ho, .ref an, .int (zI (((ts.flatten.length : Nat) : Int)))], zBRow hb (ts.flatten ++ pend) (nb), zIRow hs (tsStarts ts) (n) (16384), zIRow hz_ (tsSizes ts) (n) (16384), zArI an (1024) (f)]) (L' := [zIRow ho (tsOlder ts) (n) (16384), zIRow hh (tsHashes ts) (n) (16384), zObj h 4 [.ref hb, .ref hs, .ref hz_, .ref hh, .ref ho, .ref an, .int (zI (((ts.flatten.length : Nat) : Int)))], zBRow hb (ts.flatten ++ pend) (nb), zIRow hs (tsStarts ts) (n) (16384), zIRow hz_ (tsSizes ts) (n) (16384), zArI an (1024) (f)]) (stk' := [.int (iget (tsOlder ts) (kn))]) (c_IR_get ho (tsOlder ts) (n) (16384) (kn) (by omega)) [5] [0, 1, 2, 3, 4, 6] rfl rfl rfl zcal_IR_get zl_TS_54 zin_IR_get zse_IR_get 0 rfl zRv_IRow rfl (Nat.le_of_ble_eq_true rfl) (Nat.le_of_ble_eq_true rfl) (by omega) (by omega) rfl (Nat.le_of_ble_eq_true rfl) rfl rfl zd_TS_keep_72 ?_
            refine zw_topE (ig_older (by omega)) ?_
            refine zw_istore_n (lv' := [(3, .int (zI (lastB ts (bkt (ts.getD kn.toNat [])) kn.toNat))), (0, .ref h), (1, .int (hashL pend)), (2, .int (zI (((bkt pend : Nat) : Int)))), (4, .int (zI (s)))]) (Nat.le_of_ble_eq_true rfl) rfl zd_TS_keep_75 ?_
            refine zw_iinc (lv' := [(4, .int (zI (s + 1))), (3, .int (zI (lastB ts (bkt (ts.getD kn.toNat [])) kn.toNat))), (0, .ref h), (1, .int (hashL pend)), (2, .int (zI (((bkt pend : Nat) : Int))))]) 4 rfl (Nat.le_of_ble_eq_true rfl) rfl zd_TS_keep_76 ?_
            refine zw_goto 20 zd_TS_keep_79 (by decide) ?_
            refine zw_sub (L' := [zObj h 4 [.ref hb, .ref hs, .ref hz_, .ref hh, .ref ho, .ref an, .int (zI (((ts.flatten.length : Nat) : Int)))], zBRow hb (ts.flatten ++ pend) (nb), zIRow hs (tsStarts ts) (n) (16384), zIRow hz_ (tsSizes ts) (n) (16384), zIRow hh (tsHashes ts) (n) (16384), zIRow ho (tsOlder ts) (n) (16384), zArI an (1024) (f)]) [2, 3, 4, 5, 1, 0, 6] rfl rfl ?_
            refine zw_pack (at0 := zTS h (ts) (pend) (nb) (n)) (Ls := [zObj h 4 [.ref hb, .ref hs, .ref hz_, .ref hh, .ref ho, .ref an, .int (zI (((ts.flatten.length : Nat) : Int)))], zBRow hb (ts.flatten ++ pend) (nb), zIRow hs (tsStarts ts) (n) (16384), zIRow hz_ (tsSizes ts) (n) (16384), zIRow hh (tsHashes ts) (n) (16384), zIRow ho (tsOlder ts) (n) (16384), zArI an (1024) (f)]) (L2 := []) rfl (fun G w h => ⟨((hb, hs, hz_, hh, ho, an), f), ⟨g1, g2, g3⟩, h⟩) ?_
            refine zw_lpick (lv' := [(0, .ref h), (1, .int (hashL pend)), (2, .int (zI (((bkt pend : Nat) : Int)))), (3, .int (zI (lastB ts (bkt (ts.getD kn.toNat [])) kn.toNat))), (4, .int (zI (s + 1)))]) [2, 3, 4, 1, 0] rfl ?_
            refine zw_widen (k' := 0) (n' := 0) (by omega) (by omega) ?_
            have k2 : bkt (ts.getD kn.toNat []) = bkt pend := by rw [i2]; exact lastB_in ts (bkt pend) m (by omega)
            refine ih kn.toNat _ (s + 1) ⟨by omega, by rw [k2], fun j h1 h2 e => ?_⟩ (by omega)
            rcases Nat.lt_trichotomy j kn.toNat with q | q | q
            · omega
            · rw [q] at e; exact k1 e
            · rcases Nat.lt_or_ge j m with q2 | q2
              · exact lastB_out ts (bkt pend) m j (by omega) q2 (by rw [e])
              · exact i3 j q2 h2 e
          · -- 43 -> 46
            refine zw_sub (L' := [zObj h 4 [.ref hb, .ref hs, .ref hz_, .ref hh, .ref ho, .ref an, .int (zI (((ts.flatten.length : Nat) : Int)))], zBRow hb (ts.flatten ++ pend) (nb), zIRow hs (tsStarts ts) (n) (16384), zIRow hz_ (tsSizes ts) (n) (16384), zIRow hh (tsHashes ts) (n) (16384), zIRow ho (tsOlder ts) (n) (16384), zArI an (1024) (f)]) [1, 2, 3, 4, 0, 5, 6] rfl rfl ?_
            refine zw_pack (at0 := zTS h (ts) (pend) (nb) (n)) (Ls := [zObj h 4 [.ref hb, .ref hs, .ref hz_, .ref hh, .ref ho, .ref an, .int (zI (((ts.flatten.length : Nat) : Int)))], zBRow hb (ts.flatten ++ pend) (nb), zIRow hs (tsStarts ts) (n) (16384), zIRow hz_ (tsSizes ts) (n) (16384), zIRow hh (tsHashes ts) (n) (16384), zIRow ho (tsOlder ts) (n) (16384), zArI an (1024) (f)]) (L2 := []) rfl (fun G w h => ⟨((hb, hs, hz_, hh, ho, an), f), ⟨g1, g2, g3⟩, h⟩) ?_
            refine zw_aload_n 0 rfl zd_TS_keep_46 ?_
            refine zw_iload_n 3 rfl zd_TS_keep_47 ?_
            refine zw_callV (As := [.int (zI (kn))]) (rest := []) (L2 := []) (L' := [zTS h (ts) (pend) (nb) (n)]) (stk' := [.int (zI (bI (decide ((ts).getD (kn).toNat [] = pend))))]) (c_TS_equalsNew h (ts) (pend) (nb) (n) (kn) (by omega)) [0] [] rfl rfl rfl zcal_TS_equalsNew zl_TS_73 zin_TS_equalsNew zse_TS_equalsNew 0 rfl zRv_TS rfl (Nat.le_of_ble_eq_true rfl) (Nat.le_of_ble_eq_true rfl) (by omega) (by omega) rfl (Nat.le_of_ble_eq_true rfl) rfl rfl zd_TS_keep_48 ?_
            have rb := bI_rg (decide ((ts).getD (kn).toNat [] = pend))
            refine zw_if_eq 67 (by omega) zd_TS_keep_51 (by decide) (fun c51 => ?_) (fun c51 => ?_)
            · -- 51 -> 67
              have k1 : ts.getD kn.toNat [] ≠ pend := by
                first | (intro q; rw [q] at c43; exact c43 rfl) | (intro q; rw [bI, if_pos (decide_eq_true q)] at c51; omega)
              refine zw_unp (fun G ws h => h) (fun x0 hx0 => ?_)
              obtain ⟨⟨hb, hs, hz_, hh, ho, an⟩, f⟩ := x0
              obtain ⟨g1, g2, g3⟩ := hx0
              dsimp only at g3
              simp only [List.cons_append, List.nil_append]
              refine zw_fact 1 rfl (fun G ws h => (⟨h.choose_spec.1.1, h.choose_spec.1.2.2.1⟩ : (ts.flatten ++ pend).length ≤ nb ∧ nb ≤ 131072)) (fun hnb => ?_)
              have hlen : (ts.flatten ++ pend).length = ts.flatten.length + pend.length := List.length_append
              refine zw_aload_n 0 rfl zd_TS_keep_67 ?_
              refine zw_get zc_TS 0 4 rfl (by decide) zf_TS_33 rfl zd_TS_keep_68 ?_
              refine zw_iload_n 3 rfl zd_TS_keep_71 ?_
              refine zw_callV (As := [.int (zI (kn))]) (rest := []) (L2 := [zObj h 4 [.ref hb, .ref hs, .ref hz_, .ref hh, .ref ho, .ref an, .int (zI (((ts.flatten.length : Nat) : Int)))], zBRow hb (ts.flatten ++ pend) (nb), zIRow hs (tsStarts ts) (n) (16384), zIRow hz_ (tsSizes ts) (n) (16384), zIRow hh (tsHashes ts) (n) (16384), zArI an (1024) (f)]) (L' := [zIRow ho (tsOlder ts) (n) (16384), zObj h 4 [.ref hb, .ref hs, .ref hz_, .ref hh, .ref ho, .ref an, .int (zI (((ts.flatten.length : Nat) : Int)))], zBRow hb (ts.flatten ++ pend) (nb), zIRow hs (tsStarts ts) (n) (16384), zIRow hz_ (tsSizes ts) (n) (16384), zIRow hh (tsHashes ts) (n) (16384), zArI an (1024) (f)]) (stk' := [.int (iget (tsOlder ts) (kn))]) (c_IR_get ho (tsOlder ts) (n) (16384) (kn) (by omega)) [5] [0, 1, 2, 3, 4, 6] rfl rfl rfl zcal_IR_get zl_TS_54 zin_IR_get zse_IR_get 0 rfl zRv_IRow rfl (Nat.le_of_ble_eq_true rfl) (Nat.le_of_ble_eq_true rfl) (by omega) (by omega) rfl (Nat.le_of_ble_eq_true rfl) rfl rfl zd_TS_keep_72 ?_
              refine zw_topE (ig_older (by omega)) ?_
              refine zw_istore_n (lv' := [(3, .int (zI (lastB ts (bkt (ts.getD kn.toNat [])) kn.toNat))), (0, .ref h), (1, .int (hashL pend)), (2, .int (zI (((bkt pend : Nat) : Int)))), (4, .int (zI (s)))]) (Nat.le_of_ble_eq_true rfl) rfl zd_TS_keep_75 ?_
              refine zw_iinc (lv' := [(4, .int (zI (s + 1))), (3, .int (zI (lastB ts (bkt (ts.getD kn.toNat [])) kn.toNat))), (0, .ref h), (1, .int (hashL pend)), (2, .int (zI (((bkt pend : Nat) : Int))))]) 4 rfl (Nat.le_of_ble_eq_true rfl) rfl zd_TS_keep_76 ?_
              refine zw_goto 20 zd_TS_keep_79 (by decide) ?_
              refine zw_sub (L' := [zObj h 4 [.ref hb, .ref hs, .ref hz_, .ref hh, .ref ho, .ref an, .int (zI (((ts.flatten.length : Nat) : Int)))], zBRow hb (ts.flatten ++ pend) (nb), zIRow hs (tsStarts ts) (n) (16384), zIRow hz_ (tsSizes ts) (n) (16384), zIRow hh (tsHashes ts) (n) (16384), zIRow ho (tsOlder ts) (n) (16384), zArI an (1024) (f)]) [1, 2, 3, 4, 5, 0, 6] rfl rfl ?_
              refine zw_pack (at0 := zTS h (ts) (pend) (nb) (n)) (Ls := [zObj h 4 [.ref hb, .ref hs, .ref hz_, .ref hh, .ref ho, .ref an, .int (zI (((ts.flatten.length : Nat) : Int)))], zBRow hb (ts.flatten ++ pend) (nb), zIRow hs (tsStarts ts) (n) (16384), zIRow hz_ (tsSizes ts) (n) (16384), zIRow hh (tsHashes ts) (n) (16384), zIRow ho (tsOlder ts) (n) (16384), zArI an (1024) (f)]) (L2 := []) rfl (fun G w h => ⟨((hb, hs, hz_, hh, ho, an), f), ⟨g1, g2, g3⟩, h⟩) ?_
              refine zw_lpick (lv' := [(0, .ref h), (1, .int (hashL pend)), (2, .int (zI (((bkt pend : Nat) : Int)))), (3, .int (zI (lastB ts (bkt (ts.getD kn.toNat [])) kn.toNat))), (4, .int (zI (s + 1)))]) [2, 3, 4, 1, 0] rfl ?_
              refine zw_widen (k' := 0) (n' := 0) (by omega) (by omega) ?_
              have k2 : bkt (ts.getD kn.toNat []) = bkt pend := by rw [i2]; exact lastB_in ts (bkt pend) m (by omega)
              refine ih kn.toNat _ (s + 1) ⟨by omega, by rw [k2], fun j h1 h2 e => ?_⟩ (by omega)
              rcases Nat.lt_trichotomy j kn.toNat with q | q | q
              · omega
              · rw [q] at e; exact k1 e
              · rcases Nat.lt_or_ge j m with q2 | q2
                · exact lastB_out ts (bkt pend) m j (by omega) q2 (by rw [e])
                · exact i3 j q2 h2 e
            · -- 51 -> 54
              have k3 : ts.getD kn.toNat [] = pend := by
                rcases Decidable.em (ts.getD kn.toNat [] = pend) with q | q
                · exact q
                · rw [bI, if_neg (by simpa using q)] at c51; omega
              have k4 : ixOf ts pend = kn.toNat := ixOf_uniq hdif (by omega) k3
              refine zw_unp (fun G ws h => h) (fun x0 hx0 => ?_)
              obtain ⟨⟨hb, hs, hz_, hh, ho, an⟩, f⟩ := x0
              obtain ⟨g1, g2, g3⟩ := hx0
              dsimp only at g3
              simp only [List.cons_append, List.nil_append]
              refine zw_fact 1 rfl (fun G ws h => (⟨h.choose_spec.1.1, h.choose_spec.1.2.2.1⟩ : (ts.flatten ++ pend).length ≤ nb ∧ nb ≤ 131072)) (fun hnb => ?_)
              have hlen : (ts.flatten ++ pend).length = ts.flatten.length + pend.length := List.length_append
              refine zw_aload_n 0 rfl zd_TS_keep_54 ?_
              refine zw_get zc_TS 0 0 rfl (by decide) zf_TS_12 rfl zd_TS_keep_55 ?_
              refine zw_aload_n 0 rfl zd_TS_keep_58 ?_
              refine zw_get zc_TS 0 6 rfl (by decide) zf_TS_46 rfl zd_TS_keep_59 ?_
              refine zw_callV (As := [.int (zI (((ts.flatten.length : Nat) : Int)))]) (rest := []) (L2 := [zObj h 4 [.ref hb, .ref hs, .ref hz_, .ref hh, .ref ho, .ref an, .int (zI (((ts.flatten.length : Nat) : Int)))], zIRow hs (tsStarts ts) (n) (16384), zIRow hz_ (tsSizes ts) (n) (16384), zIRow hh (tsHashes ts) (n) (16384), zIRow ho (tsOlder ts) (n) (16384), zArI an (1024) (f)]) (L' := [zBRow hb (rshort (ts.flatten ++ pend) (((ts.flatten.length : Nat) : Int))) (nb), zObj h 4 [.ref hb, .ref hs, .ref hz_, .ref hh, .ref ho, .ref an, .int (zI (((ts.flatten.length : Nat) : Int)))], zIRow hs (tsStarts ts) (n) (16384), zIRow hz_ (tsSizes ts) (n) (16384), zIRow hh (tsHashes ts) (n) (16384), zIRow ho (tsOlder ts) (n) (16384), zArI an (1024) (f)]) (stk' := []) (c_BR_shorten hb (ts.flatten ++ pend) (nb) (((ts.flatten.length : Nat) : Int)) (by omega)) [1] [0, 2, 3, 4, 5, 6] rfl rfl rfl zcal_BR_shorten zl_TS_63 zin_BR_shorten zse_BR_shorten 0 rfl zRv_BRow rfl (Nat.le_of_ble_eq_true rfl) (Nat.le_of_ble_eq_true rfl) (by omega) (by omega) rfl (Nat.le_of_ble_eq_true rfl) rfl rfl zd_TS_keep_62 ?_
              refine zw_iload_n 3 rfl zd_TS_keep_65 ?_
              have q2 : rshort (ts.flatten ++ pend) ((ts.flatten.length : Nat) : Int) = ts.flatten ++ [] := by
                rw [rshort_app]; rw [List.append_nil]
              refine zw_sub (L' := [zObj h 4 [.ref hb, .ref hs, .ref hz_, .ref hh, .ref ho, .ref an, .int (zI (((ts.flatten.length : Nat) : Int)))], zBRow hb (rshort (ts.flatten ++ pend) (((ts.flatten.length : Nat) : Int))) (nb), zIRow hs (tsStarts ts) (n) (16384), zIRow hz_ (tsSizes ts) (n) (16384), zIRow hh (tsHashes ts) (n) (16384), zIRow ho (tsOlder ts) (n) (16384), zArI an (1024) (f)]) [1, 0, 2, 3, 4, 5, 6] rfl rfl ?_
              refine zw_eqL (L' := [zObj h 4 [.ref hb, .ref hs, .ref hz_, .ref hh, .ref ho, .ref an, .int (zI (((ts.flatten.length : Nat) : Int)))], zBRow hb (ts.flatten ++ []) (nb), zIRow hs (tsStarts ts) (n) (16384), zIRow hz_ (tsSizes ts) (n) (16384), zIRow hh (tsHashes ts) (n) (16384), zIRow ho (tsOlder ts) (n) (16384), zArI an (1024) (f)]) (by rw [q2]) ?_
              refine zw_pack (at0 := zTS h (ts) ([]) (nb) (n)) (Ls := [zObj h 4 [.ref hb, .ref hs, .ref hz_, .ref hh, .ref ho, .ref an, .int (zI (((ts.flatten.length : Nat) : Int)))], zBRow hb (ts.flatten ++ []) (nb), zIRow hs (tsStarts ts) (n) (16384), zIRow hz_ (tsSizes ts) (n) (16384), zIRow hh (tsHashes ts) (n) (16384), zIRow ho (tsOlder ts) (n) (16384), zArI an (1024) (f)]) (L2 := []) rfl (fun G w h => ⟨((hb, hs, hz_, hh, ho, an), f), ⟨g1, g2, g3⟩, h⟩) ?_
              exact zw_iret hR (by rw [k4, show ((kn.toNat : Nat) : Int) = kn by omega]) (by rw [knew, addT, if_pos (by omega), if_pos (by omega)]) rfl (by omega) (by omega) zd_TS_keep_66
  refine zw_aload_n 0 rfl zd_TS_keep_0 ?_
  refine zw_callV (As := []) (rest := []) (L2 := []) (L' := [zTS h (ts) (pend) (nb) (n)]) (stk' := [.int (hashL (pend))]) (c_TS_hashOfNew h (ts) (pend) (nb) (n)  ) [0] [] rfl rfl rfl zcal_TS_hashOfNew zl_TS_70 zin_TS_hashOfNew zse_TS_hashOfNew 0 rfl zRv_TS rfl (Nat.le_of_ble_eq_true rfl) (Nat.le_of_ble_eq_true rfl) (by omega) (by omega) rfl (Nat.le_of_ble_eq_true rfl) rfl rfl zd_TS_keep_1 ?_
  refine zw_istore_n (lv' := [(1, .int (hashL (pend))), (0, .ref h)]) (Nat.le_of_ble_eq_true rfl) rfl zd_TS_keep_4 ?_
  refine zw_iload_n 0 rfl zd_TS_keep_5 ?_
  refine zw_callS (a := 0) (As := [.int (hashL (pend))]) (rest := []) (L2 := [zTS h (ts) (pend) (nb) (n)]) (L' := [zTS h (ts) (pend) (nb) (n)]) (stk' := [.int (bucketX (hashL (pend)))]) (c_TS_bucketOf (hashL (pend))) [] [0] rfl rfl rfl zcal_TS_bucketOf zl_TS_60 zst_TS_bucketOf (Nat.le_of_ble_eq_true rfl) (Nat.le_of_ble_eq_true rfl) (by omega) (by omega) rfl (Nat.le_of_ble_eq_true rfl) rfl rfl zd_TS_keep_6 ?_
  refine zw_topE hfac.2 ?_
  refine zw_istore_n (lv' := [(2, .int (zI (((bkt pend : Nat) : Int)))), (1, .int (hashL (pend))), (0, .ref h)]) (Nat.le_of_ble_eq_true rfl) rfl zd_TS_keep_9 ?_
  refine zw_unp (fun G ws h => h) (fun x0 hx0 => ?_)
  obtain ⟨⟨hb, hs, hz_, hh, ho, an⟩, f⟩ := x0
  obtain ⟨g1, g2, g3⟩ := hx0
  dsimp only at g3
  simp only [List.cons_append, List.nil_append]
  refine zw_fact 1 rfl (fun G ws h => (⟨h.choose_spec.1.1, h.choose_spec.1.2.2.1⟩ : (ts.flatten ++ pend).length ≤ nb ∧ nb ≤ 131072)) (fun hnb => ?_)
  have hlen : (ts.flatten ++ pend).length = ts.flatten.length + pend.length := List.length_append
  refine zw_aload_n 2 rfl zd_TS_keep_10 ?_
  refine zw_get zc_TS 0 5 rfl (by decide) zf_TS_36 rfl zd_TS_keep_11 ?_
  refine zw_iload_n 0 rfl zd_TS_keep_14 ?_
  refine zw_aldI 6 rfl (by omega) (by omega) zd_TS_keep_15 ?_
  refine zw_topE (show f ((bkt pend : Nat) : Int).toNat = zI (lastB ts (bkt pend) ts.length) by rw [show ((bkt pend : Nat) : Int).toNat = bkt pend by omega]; exact g3 _ hfac.1) ?_
  refine zw_istore_n (lv' := [(3, .int (zI (lastB ts (bkt pend) ts.length))), (2, .int (zI (((bkt pend : Nat) : Int)))), (1, .int (hashL (pend))), (0, .ref h)]) (Nat.le_of_ble_eq_true rfl) rfl zd_TS_keep_16 ?_
  refine zw_iconst zd_TS_keep_17 ?_
  refine zw_istore (lv' := [(4, .int (zI (0))), (3, .int (zI (lastB ts (bkt pend) ts.length))), (2, .int (zI (((bkt pend : Nat) : Int)))), (1, .int (hashL (pend))), (0, .ref h)]) (Nat.le_of_ble_eq_true rfl) rfl zd_TS_keep_18 ?_
  refine zw_pack (at0 := zTS h (ts) (pend) (nb) (n)) (Ls := [zObj h 4 [.ref hb, .ref hs, .ref hz_, .ref hh, .ref ho, .ref an, .int (zI (((ts.flatten.length : Nat) : Int)))], zBRow hb (ts.flatten ++ pend) (nb), zIRow hs (tsStarts ts) (n) (16384), zIRow hz_ (tsSizes ts) (n) (16384), zIRow hh (tsHashes ts) (n) (16384), zIRow ho (tsOlder ts) (n) (16384), zArI an (1024) (f)]) (L2 := []) rfl (fun G w h => ⟨((hb, hs, hz_, hh, ho, an), f), ⟨g1, g2, g3⟩, h⟩) ?_
  refine zw_lpick (lv' := [(0, .ref h), (1, .int (hashL (pend))), (2, .int (zI (((bkt pend : Nat) : Int)))), (3, .int (zI (lastB ts (bkt pend) ts.length))), (4, .int (zI (0)))]) [4, 3, 2, 1, 0] rfl ?_
  refine zw_widen (k' := 0) (n' := 0) (by omega) (by omega) ?_
  exact lp _ ts.length _ 0 ⟨by omega, rfl, fun j h1 h2 => absurd h2 (by omega)⟩ (Nat.lt_succ_self _)
