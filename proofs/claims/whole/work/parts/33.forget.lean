/-- the numeral: its value and whether it fits; all else is free -/
def zNum (h : Nat) (v : Int32) (ft : Int) : zAt := fun G w => ∃ x : (Nat × (Nat → Int32)) × Int × Int × Int × Int × Int, ((0 ≤ x.2.1 ∧ x.2.1 ≤ 1) ∧ (0 ≤ ft ∧ ft ≤ 1)) ∧
  zSt [zObj h 5 [.ref x.1.1, .int (zI x.2.1), .int (zI x.2.2.1), .int (zI x.2.2.2.1), .int (zI x.2.2.2.2.1), .int (zI x.2.2.2.2.2), .int v, .int (zI ft)], zArI x.1.1 160 x.1.2] G w
theorem zRv_Num {h : Nat} {v : Int32} {ft : Int} : zRv (zNum h v ft) h 5 := fun _ _ ⟨_, _, hs⟩ => zRv_st hs
set_option maxHeartbeats 4000000 in
set_option maxRecDepth 100000 in
theorem c_TS_countX (h : Nat) (ts : List (List Int)) (pend : List Int) (nb n : Nat) (g : Nat → Int32) (hb hs hz_ hh ho an : Nat) : zCT zy_TS_count zm_TS_count 0 0 [.ref h] [zObj h 4 [.ref hb, .ref hs, .ref hz_, .ref hh, .ref ho, .ref an, .int (zI (((ts.flatten.length : Nat) : Int)))], zBRow hb (ts.flatten ++ pend) (nb), zIRow hs (tsStarts ts) (n) (16384), zIRow hz_ (tsSizes ts) (n) (16384), zIRow hh (tsHashes ts) (n) (16384), zIRow ho (tsOlder ts) (n) (16384), zArI an (1024) (g)] (some (.int (zI ((ts.length : Nat) : Int)))) [zObj h 4 [.ref hb, .ref hs, .ref hz_, .ref hh, .ref ho, .ref an, .int (zI (((ts.flatten.length : Nat) : Int)))], zBRow hb (ts.flatten ++ pend) (nb), zIRow hs (tsStarts ts) (n) (16384), zIRow hz_ (tsSizes ts) (n) (16384), zIRow hh (tsHashes ts) (n) (16384), zIRow ho (tsOlder ts) (n) (16384), zArI an (1024) (g)] := by
  refine zCT.of [(0, .ref h)] rfl (by decide) rfl (fun h => by first | rfl | cases h) (Nat.le_of_ble_eq_true rfl) (fun X hR => ?_)
  refine zw_aload_n 0 rfl zd_TS_count_0 ?_
  refine zw_get zc_TS 0 1 rfl (by decide) zf_TS_23 rfl zd_TS_count_1 ?_
  refine zw_callV (As := []) (rest := []) (L2 := [zObj h 4 [.ref hb, .ref hs, .ref hz_, .ref hh, .ref ho, .ref an, .int (zI (((ts.flatten.length : Nat) : Int)))], zBRow hb (ts.flatten ++ pend) (nb), zIRow hz_ (tsSizes ts) (n) (16384), zIRow hh (tsHashes ts) (n) (16384), zIRow ho (tsOlder ts) (n) (16384), zArI an (1024) (g)]) (L' := [zIRow hs (tsStarts ts) (n) (16384), zObj h 4 [.ref hb, .ref hs, .ref hz_, .ref hh, .ref ho, .ref an, .int (zI (((ts.flatten.length : Nat) : Int)))], zBRow hb (ts.flatten ++ pend) (nb), zIRow hz_ (tsSizes ts) (n) (16384), zIRow hh (tsHashes ts) (n) (16384), zIRow ho (tsOlder ts) (n) (16384), zArI an (1024) (g)]) (stk' := [.int (zI (((ts.length : Nat) : Int)))]) (c_IR_count hs (tsStarts ts) (n) (16384) (ts.length) (tsStarts_len ts)) [2] [0, 1, 3, 4, 5, 6] rfl rfl rfl zcal_IR_count zl_TS_50 zin_IR_count zse_IR_count 0 rfl zRv_IRow rfl (Nat.le_of_ble_eq_true rfl) (Nat.le_of_ble_eq_true rfl) (by omega) (by omega) rfl (Nat.le_of_ble_eq_true rfl) rfl rfl zd_TS_count_4 ?_
  refine zw_sub (L' := [zObj h 4 [.ref hb, .ref hs, .ref hz_, .ref hh, .ref ho, .ref an, .int (zI (((ts.flatten.length : Nat) : Int)))], zBRow hb (ts.flatten ++ pend) (nb), zIRow hs (tsStarts ts) (n) (16384), zIRow hz_ (tsSizes ts) (n) (16384), zIRow hh (tsHashes ts) (n) (16384), zIRow ho (tsOlder ts) (n) (16384), zArI an (1024) (g)]) [1, 2, 0, 3, 4, 5, 6] rfl rfl ?_
  exact zw_iret hR rfl rfl rfl (by omega) (by omega) zd_TS_count_7
set_option maxHeartbeats 4000000 in
set_option maxRecDepth 100000 in
theorem c_TS_forget (h : Nat) (ts : List (List Int)) (pend : List Int) (nb n : Nat) : zCT zy_TS_forget zm_TS_forget (0) (0) [.ref h] [zTS h (ts) (pend) (nb) (n)] (none) [zTS h ([]) ([]) (nb) (n)] := by
  refine zCT.of [(0, .ref h)] rfl (by decide) rfl (fun h => by first | rfl | cases h) (Nat.le_of_ble_eq_true rfl) (fun X hR => ?_)
  refine zw_unp (fun G ws h => h) (fun x0 hx0 => ?_)
  obtain ⟨⟨hb, hs, hz_, hh, ho, an⟩, f⟩ := x0
  obtain ⟨g1, g2, g3⟩ := hx0
  dsimp only at g3
  simp only [List.cons_append, List.nil_append]
  have lp : ∀ (fuel : Nat) (g : Nat → Int32) (i : Int), ((0 ≤ i ∧ i ≤ ((ts.length : Nat) : Int)) ∧ ∀ b, b < 1024 → g b = zI (-1) ∨ (g b = f b ∧ ∀ j : Nat, j < i.toNat → bkt (ts.getD j []) ≠ b)) → (((ts.length : Nat) : Int) - i).toNat < fuel → zZ X zm_TS_forget (0) (0) (0) (0) [zObj h 4 [.ref hb, .ref hs, .ref hz_, .ref hh, .ref ho, .ref an, .int (zI (((ts.flatten.length : Nat) : Int)))], zBRow hb (ts.flatten ++ pend) (nb), zIRow hs (tsStarts ts) (n) (16384), zIRow hz_ (tsSizes ts) (n) (16384), zIRow hh (tsHashes ts) (n) (16384), zIRow ho (tsOlder ts) (n) (16384), zArI an (1024) (g)] 2 [(0, .ref h), (1, .int (zI (i)))] [] := by
    intro fuel
    induction fuel with
    | zero => intro g i g0 hm; exact absurd hm (Nat.not_lt_zero _)
    | succ fuel ih =>
      intro g i g0 hm
      refine zw_iload_n 1 rfl zd_TS_forget_2 ?_
      refine zw_aload_n 0 rfl zd_TS_forget_3 ?_
      refine zw_callV (As := []) (rest := [.int (zI (i))]) (L2 := []) (L' := [zObj h 4 [.ref hb, .ref hs, .ref hz_, .ref hh, .ref ho, .ref an, .int (zI (((ts.flatten.length : Nat) : Int)))], zBRow hb (ts.flatten ++ pend) (nb), zIRow hs (tsStarts ts) (n) (16384), zIRow hz_ (tsSizes ts) (n) (16384), zIRow hh (tsHashes ts) (n) (16384), zIRow ho (tsOlder ts) (n) (16384), zArI an (1024) (g)]) (stk' := [.int (zI (((ts.length : Nat) : Int))), .int (zI (i))]) (c_TS_countX h ts pend nb n g hb hs hz_ hh ho an) [0, 1, 2, 3, 4, 5, 6] [] rfl rfl rfl zcal_TS_count zl_TS_59 zin_TS_count zse_TS_count 0 rfl zRv_obj rfl (Nat.le_of_ble_eq_true rfl) (Nat.le_of_ble_eq_true rfl) (by omega) (by omega) rfl (Nat.le_of_ble_eq_true rfl) rfl rfl zd_TS_forget_4 ?_
      refine zw_icmp_ge 33 (by omega) (by omega) zd_TS_forget_7 (by decide) (fun c7 => ?_) (fun c7 => ?_)
      · -- 7 -> 33
        refine zw_aload_n 0 rfl zd_TS_forget_33 ?_
        refine zw_get zc_TS 0 0 rfl (by decide) zf_TS_12 rfl zd_TS_forget_34 ?_
        refine zw_iconst zd_TS_forget_37 ?_
        refine zw_callV (As := [.int (zI (0))]) (rest := []) (L2 := [zObj h 4 [.ref hb, .ref hs, .ref hz_, .ref hh, .ref ho, .ref an, .int (zI (((ts.flatten.length : Nat) : Int)))], zIRow hs (tsStarts ts) (n) (16384), zIRow hz_ (tsSizes ts) (n) (16384), zIRow hh (tsHashes ts) (n) (16384), zIRow ho (tsOlder ts) (n) (16384), zArI an (1024) (g)]) (L' := [zBRow hb (rshort (ts.flatten ++ pend) (0)) (nb), zObj h 4 [.ref hb, .ref hs, .ref hz_, .ref hh, .ref ho, .ref an, .int (zI (((ts.flatten.length : Nat) : Int)))], zIRow hs (tsStarts ts) (n) (16384), zIRow hz_ (tsSizes ts) (n) (16384), zIRow hh (tsHashes ts) (n) (16384), zIRow ho (tsOlder ts) (n) (16384), zArI an (1024) (g)]) (stk' := []) (c_BR_shorten hb (ts.flatten ++ pend) (nb) (0) (by omega)) [1] [0, 2, 3, 4, 5, 6] rfl rfl rfl zcal_BR_shorten zl_TS_63 zin_BR_shorten zse_BR_shorten 0 rfl zRv_BRow rfl (Nat.le_of_ble_eq_true rfl) (Nat.le_of_ble_eq_true rfl) (by omega) (by omega) rfl (Nat.le_of_ble_eq_true rfl) rfl rfl zd_TS_forget_38 ?_
        refine zw_aload_n 0 rfl zd_TS_forget_41 ?_
        refine zw_get zc_TS 1 1 rfl (by decide) zf_TS_23 rfl zd_TS_forget_42 ?_
        refine zw_iconst zd_TS_forget_45 ?_
        refine zw_callV (As := [.int (zI (0))]) (rest := []) (L2 := [zBRow hb (rshort (ts.flatten ++ pend) (0)) (nb), zObj h 4 [.ref hb, .ref hs, .ref hz_, .ref hh, .ref ho, .ref an, .int (zI (((ts.flatten.length : Nat) : Int)))], zIRow hz_ (tsSizes ts) (n) (16384), zIRow hh (tsHashes ts) (n) (16384), zIRow ho (tsOlder ts) (n) (16384), zArI an (1024) (g)]) (L' := [zIRow hs (rshort (tsStarts ts) (0)) (n) (16384), zBRow hb (rshort (ts.flatten ++ pend) (0)) (nb), zObj h 4 [.ref hb, .ref hs, .ref hz_, .ref hh, .ref ho, .ref an, .int (zI (((ts.flatten.length : Nat) : Int)))], zIRow hz_ (tsSizes ts) (n) (16384), zIRow hh (tsHashes ts) (n) (16384), zIRow ho (tsOlder ts) (n) (16384), zArI an (1024) (g)]) (stk' := []) (c_IR_shorten hs (tsStarts ts) (n) (16384) (0) (by omega)) [2] [0, 1, 3, 4, 5, 6] rfl rfl rfl zcal_IR_shorten zl_TS_66 zin_IR_shorten zse_IR_shorten 0 rfl zRv_IRow rfl (Nat.le_of_ble_eq_true rfl) (Nat.le_of_ble_eq_true rfl) (by omega) (by omega) rfl (Nat.le_of_ble_eq_true rfl) rfl rfl zd_TS_forget_46 ?_
        refine zw_aload_n 0 rfl zd_TS_forget_49 ?_
        refine zw_get zc_TS 2 2 rfl (by decide) zf_TS_27 rfl zd_TS_forget_50 ?_
        refine zw_iconst zd_TS_forget_53 ?_
        refine zw_callV (As := [.int (zI (0))]) (rest := []) (L2 := [zIRow hs (rshort (tsStarts ts) (0)) (n) (16384), zBRow hb (rshort (ts.flatten ++ pend) (0)) (nb), zObj h 4 [.ref hb, .ref hs, .ref hz_, .ref hh, .ref ho, .ref an, .int (zI (((ts.flatten.length : Nat) : Int)))], zIRow hh (tsHashes ts) (n) (16384), zIRow ho (tsOlder ts) (n) (16384), zArI an (1024) (g)]) (L' := [zIRow hz_ (rshort (tsSizes ts) (0)) (n) (16384), zIRow hs (rshort (tsStarts ts) (0)) (n) (16384), zBRow hb (rshort (ts.flatten ++ pend) (0)) (nb), zObj h 4 [.ref hb, .ref hs, .ref hz_, .ref hh, .ref ho, .ref an, .int (zI (((ts.flatten.length : Nat) : Int)))], zIRow hh (tsHashes ts) (n) (16384), zIRow ho (tsOlder ts) (n) (16384), zArI an (1024) (g)]) (stk' := []) (c_IR_shorten hz_ (tsSizes ts) (n) (16384) (0) (by omega)) [3] [0, 1, 2, 4, 5, 6] rfl rfl rfl zcal_IR_shorten zl_TS_66 zin_IR_shorten zse_IR_shorten 0 rfl zRv_IRow rfl (Nat.le_of_ble_eq_true rfl) (Nat.le_of_ble_eq_true rfl) (by omega) (by omega) rfl (Nat.le_of_ble_eq_true rfl) rfl rfl zd_TS_forget_54 ?_
        refine zw_aload_n 0 rfl zd_TS_forget_57 ?_
        refine zw_get zc_TS 3 3 rfl (by decide) zf_TS_30 rfl zd_TS_forget_58 ?_
        refine zw_iconst zd_TS_forget_61 ?_
        refine zw_callV (As := [.int (zI (0))]) (rest := []) (L2 := [zIRow hz_ (rshort (tsSizes ts) (0)) (n) (16384), zIRow hs (rshort (tsStarts ts) (0)) (n) (16384), zBRow hb (rshort (ts.flatten ++ pend) (0)) (nb), zObj h 4 [.ref hb, .ref hs, .ref hz_, .ref hh, .ref ho, .ref an, .int (zI (((ts.flatten.length : Nat) : Int)))], zIRow ho (tsOlder ts) (n) (16384), zArI an (1024) (g)]) (L' := [zIRow hh (rshort (tsHashes ts) (0)) (n) (16384), zIRow hz_ (rshort (tsSizes ts) (0)) (n) (16384), zIRow hs (rshort (tsStarts ts) (0)) (n) (16384), zBRow hb (rshort (ts.flatten ++ pend) (0)) (nb), zObj h 4 [.ref hb, .ref hs, .ref hz_, .ref hh, .ref ho, .ref an, .int (zI (((ts.flatten.length : Nat) : Int)))], zIRow ho (tsOlder ts) (n) (16384), zArI an (1024) (g)]) (stk' := []) (c_IR_shorten hh (tsHashes ts) (n) (16384) (0) (by omega)) [4] [0, 1, 2, 3, 5, 6] rfl rfl rfl zcal_IR_shorten zl_TS_66 zin_IR_shorten zse_IR_shorten 0 rfl zRv_IRow rfl (Nat.le_of_ble_eq_true rfl) (Nat.le_of_ble_eq_true rfl) (by omega) (by omega) rfl (Nat.le_of_ble_eq_true rfl) rfl rfl zd_TS_forget_62 ?_
        refine zw_aload_n 0 rfl zd_TS_forget_65 ?_
        refine zw_get zc_TS 4 4 rfl (by decide) zf_TS_33 rfl zd_TS_forget_66 ?_
        refine zw_iconst zd_TS_forget_69 ?_
        refine zw_callV (As := [.int (zI (0))]) (rest := []) (L2 := [zIRow hh (rshort (tsHashes ts) (0)) (n) (16384), zIRow hz_ (rshort (tsSizes ts) (0)) (n) (16384), zIRow hs (rshort (tsStarts ts) (0)) (n) (16384), zBRow hb (rshort (ts.flatten ++ pend) (0)) (nb), zObj h 4 [.ref hb, .ref hs, .ref hz_, .ref hh, .ref ho, .ref an, .int (zI (((ts.flatten.length : Nat) : Int)))], zArI an (1024) (g)]) (L' := [zIRow ho (rshort (tsOlder ts) (0)) (n) (16384), zIRow hh (rshort (tsHashes ts) (0)) (n) (16384), zIRow hz_ (rshort (tsSizes ts) (0)) (n) (16384), zIRow hs (rshort (tsStarts ts) (0)) (n) (16384), zBRow hb (rshort (ts.flatten ++ pend) (0)) (nb), zObj h 4 [.ref hb, .ref hs, .ref hz_, .ref hh, .ref ho, .ref an, .int (zI (((ts.flatten.length : Nat) : Int)))], zArI an (1024) (g)]) (stk' := []) (c_IR_shorten ho (tsOlder ts) (n) (16384) (0) (by omega)) [5] [0, 1, 2, 3, 4, 6] rfl rfl rfl zcal_IR_shorten zl_TS_66 zin_IR_shorten zse_IR_shorten 0 rfl zRv_IRow rfl (Nat.le_of_ble_eq_true rfl) (Nat.le_of_ble_eq_true rfl) (by omega) (by omega) rfl (Nat.le_of_ble_eq_true rfl) rfl rfl zd_TS_forget_70 ?_
        refine zw_aload_n 0 rfl zd_TS_forget_73 ?_
        refine zw_iconst zd_TS_forget_74 ?_
        refine zw_put (L' := [zIRow ho (rshort (tsOlder ts) (0)) (n) (16384), zIRow hh (rshort (tsHashes ts) (0)) (n) (16384), zIRow hz_ (rshort (tsSizes ts) (0)) (n) (16384), zIRow hs (rshort (tsStarts ts) (0)) (n) (16384), zBRow hb (rshort (ts.flatten ++ pend) (0)) (nb), zObj h 4 [.ref hb, .ref hs, .ref hz_, .ref hh, .ref ho, .ref an, .int (zI (0))], zArI an (1024) (g)]) zc_TS 5 6 rfl (by decide) zf_TS_46 rfl rfl rfl (Nat.le_of_ble_eq_true rfl) rfl zd_TS_forget_75 ?_
        have q0 : ∀ b, b < 1024 → g b = zI (lastB [] b 0) := by
          intro b hb1
          rcases g0.2 b hb1 with q | ⟨q1, q2⟩
          · exact q
          · rw [q1, g3 b hb1, lastB_none (fun j hj => q2 j (by omega))]
            rfl
        refine zw_sub (L' := [zObj h 4 [.ref hb, .ref hs, .ref hz_, .ref hh, .ref ho, .ref an, .int (zI (0))], zBRow hb (rshort (ts.flatten ++ pend) (0)) (nb), zIRow hs (rshort (tsStarts ts) (0)) (n) (16384), zIRow hz_ (rshort (tsSizes ts) (0)) (n) (16384), zIRow hh (rshort (tsHashes ts) (0)) (n) (16384), zIRow ho (rshort (tsOlder ts) (0)) (n) (16384), zArI an (1024) (g)]) [5, 4, 3, 2, 1, 0, 6] rfl rfl ?_
        refine zw_eqL (L' := [zObj h 4 [.ref hb, .ref hs, .ref hz_, .ref hh, .ref ho, .ref an, .int (zI ((((([] : List (List Int))).flatten.length : Nat) : Int)))], zBRow hb (([] : List (List Int)).flatten ++ []) (nb), zIRow hs (tsStarts (([] : List (List Int)))) (n) (16384), zIRow hz_ (tsSizes (([] : List (List Int)))) (n) (16384), zIRow hh (tsHashes (([] : List (List Int)))) (n) (16384), zIRow ho (tsOlder (([] : List (List Int)))) (n) (16384), zArI an (1024) (g)]) (by rw [rshort0, rshort0, rshort0, rshort0, rshort0]; rfl) ?_
        refine zw_pack (at0 := zTS h ([]) ([]) (nb) (n)) (Ls := [zObj h 4 [.ref hb, .ref hs, .ref hz_, .ref hh, .ref ho, .ref an, .int (zI ((((([] : List (List Int))).flatten.length : Nat) : Int)))], zBRow hb (([] : List (List Int)).flatten ++ []) (nb), zIRow hs (tsStarts (([] : List (List Int)))) (n) (16384), zIRow hz_ (tsSizes (([] : List (List Int)))) (n) (16384), zIRow hh (tsHashes (([] : List (List Int)))) (n) (16384), zIRow ho (tsOlder (([] : List (List Int)))) (n) (16384), zArI an (1024) (g)]) (L2 := []) rfl (fun G w h => ⟨((hb, hs, hz_, hh, ho, an), g), ⟨Nat.zero_le _, fun i j hi => absurd hi (Nat.not_lt_zero i), q0⟩, h⟩) ?_
        exact zw_vret hR rfl rfl rfl (by omega) (by omega) zd_TS_forget_78
      · -- 7 -> 10
        refine zw_aload_n 0 rfl zd_TS_forget_10 ?_
        refine zw_get zc_TS 0 5 rfl (by decide) zf_TS_36 rfl zd_TS_forget_11 ?_
        refine zw_aload_n 0 rfl zd_TS_forget_14 ?_
        refine zw_get zc_TS 0 3 rfl (by decide) zf_TS_30 rfl zd_TS_forget_15 ?_
        refine zw_iload_n 1 rfl zd_TS_forget_18 ?_
        refine zw_callV (As := [.int (zI (i))]) (rest := [.ref an]) (L2 := [zObj h 4 [.ref hb, .ref hs, .ref hz_, .ref hh, .ref ho, .ref an, .int (zI (((ts.flatten.length : Nat) : Int)))], zBRow hb (ts.flatten ++ pend) (nb), zIRow hs (tsStarts ts) (n) (16384), zIRow hz_ (tsSizes ts) (n) (16384), zIRow ho (tsOlder ts) (n) (16384), zArI an (1024) (g)]) (L' := [zIRow hh (tsHashes ts) (n) (16384), zObj h 4 [.ref hb, .ref hs, .ref hz_, .ref hh, .ref ho, .ref an, .int (zI (((ts.flatten.length : Nat) : Int)))], zBRow hb (ts.flatten ++ pend) (nb), zIRow hs (tsStarts ts) (n) (16384), zIRow hz_ (tsSizes ts) (n) (16384), zIRow ho (tsOlder ts) (n) (16384), zArI an (1024) (g)]) (stk' := [.int (iget (tsHashes ts) (i)), .ref an]) (c_IR_get hh (tsHashes ts) (n) (16384) (i) (by omega)) [4] [0, 1, 2, 3, 5, 6] rfl rfl rfl zcal_IR_get zl_TS_54 zin_IR_get zse_IR_get 0 rfl zRv_IRow rfl (Nat.le_of_ble_eq_true rfl) (Nat.le_of_ble_eq_true rfl) (by omega) (by omega) rfl (Nat.le_of_ble_eq_true rfl) rfl rfl zd_TS_forget_19 ?_
        refine zw_topE (ig_hashes (by omega)) ?_
        refine zw_callS (a := 0) (As := [.int (hashL (ts.getD i.toNat []))]) (rest := [.ref an]) (L2 := [zIRow hh (tsHashes ts) (n) (16384), zObj h 4 [.ref hb, .ref hs, .ref hz_, .ref hh, .ref ho, .ref an, .int (zI (((ts.flatten.length : Nat) : Int)))], zBRow hb (ts.flatten ++ pend) (nb), zIRow hs (tsStarts ts) (n) (16384), zIRow hz_ (tsSizes ts) (n) (16384), zIRow ho (tsOlder ts) (n) (16384), zArI an (1024) (g)]) (L' := [zIRow hh (tsHashes ts) (n) (16384), zObj h 4 [.ref hb, .ref hs, .ref hz_, .ref hh, .ref ho, .ref an, .int (zI (((ts.flatten.length : Nat) : Int)))], zBRow hb (ts.flatten ++ pend) (nb), zIRow hs (tsStarts ts) (n) (16384), zIRow hz_ (tsSizes ts) (n) (16384), zIRow ho (tsOlder ts) (n) (16384), zArI an (1024) (g)]) (stk' := [.int (bucketX (hashL (ts.getD i.toNat []))), .ref an]) (c_TS_bucketOf (hashL (ts.getD i.toNat []))) [] [0, 1, 2, 3, 4, 5, 6] rfl rfl rfl zcal_TS_bucketOf zl_TS_60 zst_TS_bucketOf (Nat.le_of_ble_eq_true rfl) (Nat.le_of_ble_eq_true rfl) (by omega) (by omega) rfl (Nat.le_of_ble_eq_true rfl) rfl rfl zd_TS_forget_22 ?_
        have hk := bkt_spec (ts.getD i.toNat [])
        refine zw_topE hk.2 ?_
        refine zw_iconst zd_TS_forget_25 ?_
        refine zw_astI (L' := [zIRow hh (tsHashes ts) (n) (16384), zObj h 4 [.ref hb, .ref hs, .ref hz_, .ref hh, .ref ho, .ref an, .int (zI (((ts.flatten.length : Nat) : Int)))], zBRow hb (ts.flatten ++ pend) (nb), zIRow hs (tsStarts ts) (n) (16384), zIRow hz_ (tsSizes ts) (n) (16384), zIRow ho (tsOlder ts) (n) (16384), zArI an (1024) (upd g (((bkt (ts.getD i.toNat []) : Nat) : Int)).toNat (zI (-1)))]) 6 rfl (by omega) (by omega) rfl zd_TS_forget_26 ?_
        refine zw_iinc (lv' := [(1, .int (zI (i + 1))), (0, .ref h)]) 1 rfl (Nat.le_of_ble_eq_true rfl) rfl zd_TS_forget_27 ?_
        refine zw_goto 2 zd_TS_forget_30 (by decide) ?_
        refine zw_sub (L' := [zObj h 4 [.ref hb, .ref hs, .ref hz_, .ref hh, .ref ho, .ref an, .int (zI (((ts.flatten.length : Nat) : Int)))], zBRow hb (ts.flatten ++ pend) (nb), zIRow hs (tsStarts ts) (n) (16384), zIRow hz_ (tsSizes ts) (n) (16384), zIRow hh (tsHashes ts) (n) (16384), zIRow ho (tsOlder ts) (n) (16384), zArI an (1024) (upd g (((bkt (ts.getD i.toNat []) : Nat) : Int)).toNat (zI (-1)))]) [1, 2, 3, 4, 0, 5, 6] rfl rfl ?_
        refine zw_lpick (lv' := [(0, .ref h), (1, .int (zI (i + 1)))]) [1, 0] rfl ?_
        refine zw_widen (k' := 0) (n' := 0) (by omega) (by omega) ?_
        refine ih (upd g (((bkt (ts.getD i.toNat []) : Nat) : Int)).toNat (zI (-1))) (i + 1) ⟨by omega, fun b hb1 => ?_⟩ (by omega)
        have e1 : ((bkt (ts.getD i.toNat []) : Nat) : Int).toNat = bkt (ts.getD i.toNat []) := by omega
        by_cases hbb : b = bkt (ts.getD i.toNat [])
        · subst hbb
          exact Or.inl (by rw [e1, pk_us])
        · rw [e1, pk_un hbb]
          rcases g0.2 b hb1 with q | ⟨q1, q2⟩
          · exact Or.inl q
          · refine Or.inr ⟨q1, fun j hj => ?_⟩
            rcases Nat.lt_or_ge j i.toNat with q | q
            · exact q2 j q
            · rw [show j = i.toNat by omega]
              exact Ne.symm hbb
  refine zw_iconst zd_TS_forget_0 ?_
  refine zw_istore_n (lv' := [(1, .int (zI (0))), (0, .ref h)]) (Nat.le_of_ble_eq_true rfl) rfl zd_TS_forget_1 ?_
  refine zw_lpick (lv' := [(0, .ref h), (1, .int (zI (0)))]) [1, 0] rfl ?_
  refine zw_widen (k' := 0) (n' := 0) (by omega) (by omega) ?_
  exact lp _ f 0 ⟨by omega, fun b hb1 => Or.inr ⟨rfl, fun j hj => absurd hj (Nat.not_lt_zero j)⟩⟩ (Nat.lt_succ_self _)
set_option maxHeartbeats 4000000 in
set_option maxRecDepth 100000 in
theorem c_TS_new (h : Nat) : zCT zy_TS_new zm_TS_new (11) (1806) [.ref h] [zObj h 4 [.null, .null, .null, .null, .null, .null, .int (zI (0))]] (none) [zTS h ([]) ([]) (512) (64)] := by
  refine zCT.of [(0, .ref h)] rfl (by decide) rfl (fun h => by first | rfl | cases h) (Nat.le_of_ble_eq_true rfl) (fun X hR => ?_)
  refine zw_aload_n 0 rfl zd_TS_new_0 ?_
  refine zw_objInit zl_TS_3 zoi_1 zoi_2 (Nat.le_of_ble_eq_true rfl) (Nat.le_of_ble_eq_true rfl) zd_TS_new_1 ?_
  refine zw_aload_n 0 rfl zd_TS_new_4 ?_
  refine zw_new [.null, .int (zI (0))] zc_BR zn_TS_9 zins_BR zini_BR zz_BR (by omega) (by omega) zd_TS_new_5 (fun q5 => ?_)
  simp only [List.cons_append, List.nil_append]
  refine zw_dup rfl zd_TS_new_8 ?_
  refine zw_callI (As := []) (rest := [.ref q5, .ref h]) (L2 := [zObj h 4 [.null, .null, .null, .null, .null, .null, .int (zI (0))]]) (L' := [zBRow q5 ([]) (512), zObj h 4 [.null, .null, .null, .null, .null, .null, .int (zI (0))]]) (stk' := [.ref q5, .ref h]) (c_BR_new q5) [1] [0] rfl rfl rfl zcal_BR_new zl_TS_11 zin_BR_new rfl (Nat.le_of_ble_eq_true rfl) (Nat.le_of_ble_eq_true rfl) (by omega) (by omega) rfl (Nat.le_of_ble_eq_true rfl) rfl rfl zd_TS_new_9 ?_
  refine zw_putF (L' := [zBRow q5 ([]) (512), zObj h 4 [.ref q5, .null, .null, .null, .null, .null, .int (zI (0))]]) zc_TS 1 0 rfl (by decide) zf_TS_12 rfl rfl rfl rfl rfl (Nat.le_of_ble_eq_true rfl) rfl zd_TS_new_12 ?_
  refine zw_aload_n 0 rfl zd_TS_new_15 ?_
  refine zw_new [.int (zI (0)), .null, .int (zI (0))] zc_IR zn_TS_18 zins_IR zini_IR zz_IR (by omega) (by omega) zd_TS_new_16 (fun q16 => ?_)
  simp only [List.cons_append, List.nil_append]
  refine zw_dup rfl zd_TS_new_19 ?_
  refine zw_sipush rfl zd_TS_new_20 ?_
  refine zw_callI (As := [.int (zI (16384))]) (rest := [.ref q16, .ref h]) (L2 := [zBRow q5 ([]) (512), zObj h 4 [.ref q5, .null, .null, .null, .null, .null, .int (zI (0))]]) (L' := [zIRow q16 ([]) (64) (16384), zBRow q5 ([]) (512), zObj h 4 [.ref q5, .null, .null, .null, .null, .null, .int (zI (0))]]) (stk' := [.ref q16, .ref h]) (c_IR_new q16 16384) [2] [0, 1] rfl rfl rfl zcal_IR_new zl_TS_20 zin_IR_new rfl (Nat.le_of_ble_eq_true rfl) (Nat.le_of_ble_eq_true rfl) (by omega) (by omega) rfl (Nat.le_of_ble_eq_true rfl) rfl rfl zd_TS_new_23 ?_
  refine zw_putF (L' := [zIRow q16 ([]) (64) (16384), zBRow q5 ([]) (512), zObj h 4 [.ref q5, .ref q16, .null, .null, .null, .null, .int (zI (0))]]) zc_TS 2 1 rfl (by decide) zf_TS_23 rfl rfl rfl rfl rfl (Nat.le_of_ble_eq_true rfl) rfl zd_TS_new_26 ?_
  refine zw_aload_n 0 rfl zd_TS_new_29 ?_
  refine zw_new [.int (zI (0)), .null, .int (zI (0))] zc_IR zn_TS_18 zins_IR zini_IR zz_IR (by omega) (by omega) zd_TS_new_30 (fun q30 => ?_)
  simp only [List.cons_append, List.nil_append]
  refine zw_dup rfl zd_TS_new_33 ?_
  refine zw_sipush rfl zd_TS_new_34 ?_
  refine zw_callI (As := [.int (zI (16384))]) (rest := [.ref q30, .ref h]) (L2 := [zIRow q16 ([]) (64) (16384), zBRow q5 ([]) (512), zObj h 4 [.ref q5, .ref q16, .null, .null, .null, .null, .int (zI (0))]]) (L' := [zIRow q30 ([]) (64) (16384), zIRow q16 ([]) (64) (16384), zBRow q5 ([]) (512), zObj h 4 [.ref q5, .ref q16, .null, .null, .null, .null, .int (zI (0))]]) (stk' := [.ref q30, .ref h]) (c_IR_new q30 16384) [3] [0, 1, 2] rfl rfl rfl zcal_IR_new zl_TS_20 zin_IR_new rfl (Nat.le_of_ble_eq_true rfl) (Nat.le_of_ble_eq_true rfl) (by omega) (by omega) rfl (Nat.le_of_ble_eq_true rfl) rfl rfl zd_TS_new_37 ?_
  refine zw_putF (L' := [zIRow q30 ([]) (64) (16384), zIRow q16 ([]) (64) (16384), zBRow q5 ([]) (512), zObj h 4 [.ref q5, .ref q16, .ref q30, .null, .null, .null, .int (zI (0))]]) zc_TS 3 2 rfl (by decide) zf_TS_27 rfl rfl rfl rfl rfl (Nat.le_of_ble_eq_true rfl) rfl zd_TS_new_40 ?_
  refine zw_aload_n 0 rfl zd_TS_new_43 ?_
  refine zw_new [.int (zI (0)), .null, .int (zI (0))] zc_IR zn_TS_18 zins_IR zini_IR zz_IR (by omega) (by omega) zd_TS_new_44 (fun q44 => ?_)
  simp only [List.cons_append, List.nil_append]
  refine zw_dup rfl zd_TS_new_47 ?_
  refine zw_sipush rfl zd_TS_new_48 ?_
  refine zw_callI (As := [.int (zI (16384))]) (rest := [.ref q44, .ref h]) (L2 := [zIRow q30 ([]) (64) (16384), zIRow q16 ([]) (64) (16384), zBRow q5 ([]) (512), zObj h 4 [.ref q5, .ref q16, .ref q30, .null, .null, .null, .int (zI (0))]]) (L' := [zIRow q44 ([]) (64) (16384), zIRow q30 ([]) (64) (16384), zIRow q16 ([]) (64) (16384), zBRow q5 ([]) (512), zObj h 4 [.ref q5, .ref q16, .ref q30, .null, .null, .null, .int (zI (0))]]) (stk' := [.ref q44, .ref h]) (c_IR_new q44 16384) [4] [0, 1, 2, 3] rfl rfl rfl zcal_IR_new zl_TS_20 zin_IR_new rfl (Nat.le_of_ble_eq_true rfl) (Nat.le_of_ble_eq_true rfl) (by omega) (by omega) rfl (Nat.le_of_ble_eq_true rfl) rfl rfl zd_TS_new_51 ?_
  refine zw_putF (L' := [zIRow q44 ([]) (64) (16384), zIRow q30 ([]) (64) (16384), zIRow q16 ([]) (64) (16384), zBRow q5 ([]) (512), zObj h 4 [.ref q5, .ref q16, .ref q30, .ref q44, .null, .null, .int (zI (0))]]) zc_TS 4 3 rfl (by decide) zf_TS_30 rfl rfl rfl rfl rfl (Nat.le_of_ble_eq_true rfl) rfl zd_TS_new_54 ?_
  refine zw_aload_n 0 rfl zd_TS_new_57 ?_
  refine zw_new [.int (zI (0)), .null, .int (zI (0))] zc_IR zn_TS_18 zins_IR zini_IR zz_IR (by omega) (by omega) zd_TS_new_58 (fun q58 => ?_)
  simp only [List.cons_append, List.nil_append]
  refine zw_dup rfl zd_TS_new_61 ?_
  refine zw_sipush rfl zd_TS_new_62 ?_
  refine zw_callI (As := [.int (zI (16384))]) (rest := [.ref q58, .ref h]) (L2 := [zIRow q44 ([]) (64) (16384), zIRow q30 ([]) (64) (16384), zIRow q16 ([]) (64) (16384), zBRow q5 ([]) (512), zObj h 4 [.ref q5, .ref q16, .ref q30, .ref q44, .null, .null, .int (zI (0))]]) (L' := [zIRow q58 ([]) (64) (16384), zIRow q44 ([]) (64) (16384), zIRow q30 ([]) (64) (16384), zIRow q16 ([]) (64) (16384), zBRow q5 ([]) (512), zObj h 4 [.ref q5, .ref q16, .ref q30, .ref q44, .null, .null, .int (zI (0))]]) (stk' := [.ref q58, .ref h]) (c_IR_new q58 16384) [5] [0, 1, 2, 3, 4] rfl rfl rfl zcal_IR_new zl_TS_20 zin_IR_new rfl (Nat.le_of_ble_eq_true rfl) (Nat.le_of_ble_eq_true rfl) (by omega) (by omega) rfl (Nat.le_of_ble_eq_true rfl) rfl rfl zd_TS_new_65 ?_
  refine zw_putF (L' := [zIRow q58 ([]) (64) (16384), zIRow q44 ([]) (64) (16384), zIRow q30 ([]) (64) (16384), zIRow q16 ([]) (64) (16384), zBRow q5 ([]) (512), zObj h 4 [.ref q5, .ref q16, .ref q30, .ref q44, .ref q58, .null, .int (zI (0))]]) zc_TS 5 4 rfl (by decide) zf_TS_33 rfl rfl rfl rfl rfl (Nat.le_of_ble_eq_true rfl) rfl zd_TS_new_68 ?_
  refine zw_aload_n 0 rfl zd_TS_new_71 ?_
  refine zw_sipush rfl zd_TS_new_72 ?_
  refine zw_newaI (N := 1024) (by first | rfl | omega) (by omega) zac_I (by omega) (by omega) zd_TS_new_75 (fun q75 => ?_)
  simp only [List.cons_append, List.nil_append]
  refine zw_putF (L' := [zIRow q58 ([]) (64) (16384), zIRow q44 ([]) (64) (16384), zIRow q30 ([]) (64) (16384), zIRow q16 ([]) (64) (16384), zBRow q5 ([]) (512), zObj h 4 [.ref q5, .ref q16, .ref q30, .ref q44, .ref q58, .ref q75, .int (zI (0))], zArI q75 (1024) (fun _ => 0)]) zc_TS 5 5 rfl (by decide) zf_TS_36 rfl rfl rfl rfl rfl (Nat.le_of_ble_eq_true rfl) rfl zd_TS_new_77 ?_
  refine zw_aload_n 0 rfl zd_TS_new_80 ?_
  refine zw_get zc_TS 5 5 rfl (by decide) zf_TS_36 rfl zd_TS_new_81 ?_
  refine zw_iconst zd_TS_new_84 ?_
  refine zw_callS (a := 0) (As := [.ref q75, .int (zI (-1))]) (rest := []) (L2 := [zIRow q58 ([]) (64) (16384), zIRow q44 ([]) (64) (16384), zIRow q30 ([]) (64) (16384), zIRow q16 ([]) (64) (16384), zBRow q5 ([]) (512), zObj h 4 [.ref q5, .ref q16, .ref q30, .ref q44, .ref q58, .ref q75, .int (zI (0))]]) (L' := [zArI q75 (1024) (fun j => if j < 1024 then (zI (-1)) else (fun _ => 0) j), zIRow q58 ([]) (64) (16384), zIRow q44 ([]) (64) (16384), zIRow q30 ([]) (64) (16384), zIRow q16 ([]) (64) (16384), zBRow q5 ([]) (512), zObj h 4 [.ref q5, .ref q16, .ref q30, .ref q44, .ref q58, .ref q75, .int (zI (0))]]) (stk' := []) (c_AR_fill q75 1024 (fun _ => 0) (zI (-1)) (by omega)) [6] [0, 1, 2, 3, 4, 5] rfl rfl rfl zcal_AR_fill zl_TS_40 zst_AR_fill (Nat.le_of_ble_eq_true rfl) (Nat.le_of_ble_eq_true rfl) (by omega) (by omega) rfl (Nat.le_of_ble_eq_true rfl) rfl rfl zd_TS_new_85 ?_
  refine zw_aload_n 0 rfl zd_TS_new_88 ?_
  refine zw_iconst zd_TS_new_89 ?_
  refine zw_put (L' := [zArI q75 (1024) (fun j => if j < 1024 then (zI (-1)) else (fun _ => 0) j), zIRow q58 ([]) (64) (16384), zIRow q44 ([]) (64) (16384), zIRow q30 ([]) (64) (16384), zIRow q16 ([]) (64) (16384), zBRow q5 ([]) (512), zObj h 4 [.ref q5, .ref q16, .ref q30, .ref q44, .ref q58, .ref q75, .int (zI (0))]]) zc_TS 6 6 rfl (by decide) zf_TS_46 rfl rfl rfl (Nat.le_of_ble_eq_true rfl) rfl zd_TS_new_90 ?_
  refine zw_sub (L' := [zObj h 4 [.ref q5, .ref q16, .ref q30, .ref q44, .ref q58, .ref q75, .int (zI (0))], zBRow q5 ([]) (512), zIRow q16 ([]) (64) (16384), zIRow q30 ([]) (64) (16384), zIRow q44 ([]) (64) (16384), zIRow q58 ([]) (64) (16384), zArI q75 (1024) (fun j => if j < 1024 then (zI (-1)) else (fun _ => 0) j)]) [6, 5, 4, 3, 2, 1, 0] rfl rfl ?_
  refine zw_eqL (L' := [zObj h 4 [.ref q5, .ref q16, .ref q30, .ref q44, .ref q58, .ref q75, .int (zI (((([] : List (List Int)).flatten.length : Nat) : Int)))], zBRow q5 (([] : List (List Int)).flatten ++ []) (512), zIRow q16 (tsStarts ([] : List (List Int))) (64) (16384), zIRow q30 (tsSizes ([] : List (List Int))) (64) (16384), zIRow q44 (tsHashes ([] : List (List Int))) (64) (16384), zIRow q58 (tsOlder ([] : List (List Int))) (64) (16384), zArI q75 (1024) (fun j => if j < 1024 then (zI (-1)) else (fun _ => 0) j)]) rfl ?_
  refine zw_pack (at0 := zTS h [] [] 512 64) (Ls := [zObj h 4 [.ref q5, .ref q16, .ref q30, .ref q44, .ref q58, .ref q75, .int (zI (((([] : List (List Int)).flatten.length : Nat) : Int)))], zBRow q5 (([] : List (List Int)).flatten ++ []) (512), zIRow q16 (tsStarts ([] : List (List Int))) (64) (16384), zIRow q30 (tsSizes ([] : List (List Int))) (64) (16384), zIRow q44 (tsHashes ([] : List (List Int))) (64) (16384), zIRow q58 (tsOlder ([] : List (List Int))) (64) (16384), zArI q75 (1024) (fun j => if j < 1024 then (zI (-1)) else (fun _ => 0) j)]) (L2 := []) rfl (fun G w h => ⟨((q5, q16, q30, q44, q58, q75), fun j => if j < 1024 then (zI (-1)) else (fun _ => 0) j), ⟨Nat.zero_le _, fun i j hi => absurd hi (Nat.not_lt_zero i), fun b hb1 => if_pos hb1⟩, h⟩) ?_
  exact zw_vret hR rfl rfl rfl (by omega) (by omega) zd_TS_new_93
set_option maxHeartbeats 4000000 in
set_option maxRecDepth 100000 in
theorem c_WL_new (h : Nat) : zCT zy_WL_new zm_WL_new (6) (201) [.ref h] [zObj h 3 [.null, .null, .null]] (none) [zWL h ([]) (64)] := by
  refine zCT.of [(0, .ref h)] rfl (by decide) rfl (fun h => by first | rfl | cases h) (Nat.le_of_ble_eq_true rfl) (fun X hR => ?_)
  refine zw_aload_n 0 rfl zd_WL_new_0 ?_
  refine zw_objInit zl_WL_3 zoi_1 zoi_2 (Nat.le_of_ble_eq_true rfl) (Nat.le_of_ble_eq_true rfl) zd_WL_new_1 ?_
  refine zw_aload_n 0 rfl zd_WL_new_4 ?_
  refine zw_new [.int (zI (0)), .null, .int (zI (0))] zc_IR zn_WL_9 zins_IR zini_IR zz_IR (by omega) (by omega) zd_WL_new_5 (fun q5 => ?_)
  simp only [List.cons_append, List.nil_append]
  refine zw_dup rfl zd_WL_new_8 ?_
  refine zw_sipush rfl zd_WL_new_9 ?_
  refine zw_callI (As := [.int (zI (16384))]) (rest := [.ref q5, .ref h]) (L2 := [zObj h 3 [.null, .null, .null]]) (L' := [zIRow q5 ([]) (64) (16384), zObj h 3 [.null, .null, .null]]) (stk' := [.ref q5, .ref h]) (c_IR_new q5 16384) [1] [0] rfl rfl rfl zcal_IR_new zl_WL_11 zin_IR_new rfl (Nat.le_of_ble_eq_true rfl) (Nat.le_of_ble_eq_true rfl) (by omega) (by omega) rfl (Nat.le_of_ble_eq_true rfl) rfl rfl zd_WL_new_12 ?_
  refine zw_putF (L' := [zIRow q5 ([]) (64) (16384), zObj h 3 [.ref q5, .null, .null]]) zc_WL 1 0 rfl (by decide) zf_WL_14 rfl rfl rfl rfl rfl (Nat.le_of_ble_eq_true rfl) rfl zd_WL_new_15 ?_
  refine zw_aload_n 0 rfl zd_WL_new_18 ?_
  refine zw_new [.int (zI (0)), .null, .int (zI (0))] zc_IR zn_WL_9 zins_IR zini_IR zz_IR (by omega) (by omega) zd_WL_new_19 (fun q19 => ?_)
  simp only [List.cons_append, List.nil_append]
  refine zw_dup rfl zd_WL_new_22 ?_
  refine zw_sipush rfl zd_WL_new_23 ?_
  refine zw_callI (As := [.int (zI (16384))]) (rest := [.ref q19, .ref h]) (L2 := [zIRow q5 ([]) (64) (16384), zObj h 3 [.ref q5, .null, .null]]) (L' := [zIRow q19 ([]) (64) (16384), zIRow q5 ([]) (64) (16384), zObj h 3 [.ref q5, .null, .null]]) (stk' := [.ref q19, .ref h]) (c_IR_new q19 16384) [2] [0, 1] rfl rfl rfl zcal_IR_new zl_WL_11 zin_IR_new rfl (Nat.le_of_ble_eq_true rfl) (Nat.le_of_ble_eq_true rfl) (by omega) (by omega) rfl (Nat.le_of_ble_eq_true rfl) rfl rfl zd_WL_new_26 ?_
  refine zw_putF (L' := [zIRow q19 ([]) (64) (16384), zIRow q5 ([]) (64) (16384), zObj h 3 [.ref q5, .ref q19, .null]]) zc_WL 2 1 rfl (by decide) zf_WL_20 rfl rfl rfl rfl rfl (Nat.le_of_ble_eq_true rfl) rfl zd_WL_new_29 ?_
  refine zw_aload_n 0 rfl zd_WL_new_32 ?_
  refine zw_new [.int (zI (0)), .null, .int (zI (0))] zc_IR zn_WL_9 zins_IR zini_IR zz_IR (by omega) (by omega) zd_WL_new_33 (fun q33 => ?_)
  simp only [List.cons_append, List.nil_append]
  refine zw_dup rfl zd_WL_new_36 ?_
  refine zw_sipush rfl zd_WL_new_37 ?_
  refine zw_callI (As := [.int (zI (16384))]) (rest := [.ref q33, .ref h]) (L2 := [zIRow q19 ([]) (64) (16384), zIRow q5 ([]) (64) (16384), zObj h 3 [.ref q5, .ref q19, .null]]) (L' := [zIRow q33 ([]) (64) (16384), zIRow q19 ([]) (64) (16384), zIRow q5 ([]) (64) (16384), zObj h 3 [.ref q5, .ref q19, .null]]) (stk' := [.ref q33, .ref h]) (c_IR_new q33 16384) [3] [0, 1, 2] rfl rfl rfl zcal_IR_new zl_WL_11 zin_IR_new rfl (Nat.le_of_ble_eq_true rfl) (Nat.le_of_ble_eq_true rfl) (by omega) (by omega) rfl (Nat.le_of_ble_eq_true rfl) rfl rfl zd_WL_new_40 ?_
  refine zw_putF (L' := [zIRow q33 ([]) (64) (16384), zIRow q19 ([]) (64) (16384), zIRow q5 ([]) (64) (16384), zObj h 3 [.ref q5, .ref q19, .ref q33]]) zc_WL 3 2 rfl (by decide) zf_WL_23 rfl rfl rfl rfl rfl (Nat.le_of_ble_eq_true rfl) rfl zd_WL_new_43 ?_
  refine zw_sub (L' := [zObj h 3 [.ref q5, .ref q19, .ref q33], zIRow q5 ([]) (64) (16384), zIRow q19 ([]) (64) (16384), zIRow q33 ([]) (64) (16384)]) [3, 2, 1, 0] rfl rfl ?_
  refine zw_pack (at0 := zWL h [] 64) (Ls := [zObj h 3 [.ref q5, .ref q19, .ref q33], zIRow q5 ([]) (64) (16384), zIRow q19 ([]) (64) (16384), zIRow q33 ([]) (64) (16384)]) (L2 := []) rfl (fun G w h => ⟨(q5, q19, q33), Nat.zero_le _, h⟩) ?_
  exact zw_vret hR rfl rfl rfl (by omega) (by omega) zd_WL_new_46
set_option maxHeartbeats 4000000 in
set_option maxRecDepth 100000 in
theorem c_NU_new (h : Nat) : zCT zy_NU_new zm_NU_new (1) (160) [.ref h] [zObj h 5 [.null, .int (zI (0)), .int (zI (0)), .int (zI (0)), .int (zI (0)), .int (zI (0)), .int (zI (0)), .int (zI (0))]] (none) [zNum h (zI 0) (0)] := by
  refine zCT.of [(0, .ref h)] rfl (by decide) rfl (fun h => by first | rfl | cases h) (Nat.le_of_ble_eq_true rfl) (fun X hR => ?_)
  refine zw_aload_n 0 rfl zd_NU_new_0 ?_
  refine zw_objInit zl_NU_3 zoi_1 zoi_2 (Nat.le_of_ble_eq_true rfl) (Nat.le_of_ble_eq_true rfl) zd_NU_new_1 ?_
  refine zw_aload_n 0 rfl zd_NU_new_4 ?_
  refine zw_sipush rfl zd_NU_new_5 ?_
  refine zw_newaI (N := 160) (by first | rfl | omega) (by omega) zac_I (by omega) (by omega) zd_NU_new_8 (fun q8 => ?_)
  simp only [List.cons_append, List.nil_append]
  refine zw_putF (L' := [zObj h 5 [.ref q8, .int (zI (0)), .int (zI (0)), .int (zI (0)), .int (zI (0)), .int (zI (0)), .int (zI (0)), .int (zI (0))], zArI q8 (160) (fun _ => 0)]) zc_NU 0 0 rfl (by decide) zf_NU_11 rfl rfl rfl rfl rfl (Nat.le_of_ble_eq_true rfl) rfl zd_NU_new_10 ?_
  refine zw_pack (at0 := zNum h (zI 0) 0) (Ls := [zObj h 5 [.ref q8, .int (zI (0)), .int (zI (0)), .int (zI (0)), .int (zI (0)), .int (zI (0)), .int (zI (0)), .int (zI (0))], zArI q8 (160) (fun _ => 0)]) (L2 := []) rfl (fun G w h => ⟨((q8, fun _ => 0), 0, 0, 0, 0, 0), ⟨(show (0 : Int) ≤ 0 ∧ (0 : Int) ≤ 1 by decide), (show (0 : Int) ≤ 0 ∧ (0 : Int) ≤ 1 by decide)⟩, h⟩) ?_
  exact zw_vret hR rfl rfl rfl (by omega) (by omega) zd_NU_new_13
