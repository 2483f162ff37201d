set_option maxHeartbeats 4000000 in
set_option maxRecDepth 100000 in
theorem law_walk {X : zX} {b N : Nat} {xs : Nat → Int32} (hN : N ≤ 2048) (hs : zSc X b N xs) (hE : zEnd X) : zZ X zm_LW4 (600000) (7302250) (0) (0) [] 0 [(0, .ref b)] [] := by
  refine zw_new [.null, .null, .null, .null, .null, .int (zI (0)), .int (zI (0)), .int (zI (0))] zc_PW zn_LW_7 zins_PW zini_PW zz_PW (by omega) (by omega) zd_LW_law_0 (fun q0 => ?_)
  simp only [List.cons_append, List.nil_append]
  refine zw_dup rfl zd_LW_law_3 ?_
  refine zw_callI (As := []) (rest := [.ref q0]) (L2 := []) (L' := [zPWA q0 ([]) (512) ([]) ([]) (0)]) (stk' := [.ref q0]) (c_PW_new q0) [0] [] rfl rfl rfl zcal_PW_new zl_LW_9 zin_PW_new rfl (Nat.le_of_ble_eq_true rfl) (Nat.le_of_ble_eq_true rfl) (by omega) (by omega) rfl (Nat.le_of_ble_eq_true rfl) rfl rfl zd_LW_law_4 ?_
  refine zw_astore_n (lv' := [(1, .ref q0), (0, .ref b)]) (Nat.le_of_ble_eq_true rfl) rfl zd_LW_law_7 ?_
  refine zw_new [.null, .int (zI (0)), .int (zI (0)), .int (zI (0)), .null, .null, .null, .null, .int (zI (0)), .int (zI (0)), .int (zI (0)), .null, .null, .null, .int (zI (0)), .int (zI (0)), .int (zI (0)), .null] zc_MO zn_LW_10 zins_MO zini_MO zz_MO (by omega) (by omega) zd_LW_law_8 (fun q8 => ?_)
  simp only [List.cons_append, List.nil_append]
  refine zw_dup rfl zd_LW_law_11 ?_
  refine zw_callI (As := []) (rest := [.ref q8]) (L2 := [zPWA q0 ([]) (512) ([]) ([]) (0)]) (L' := [zMA q8 ([]) ([]) ([]) (0), zPWA q0 ([]) (512) ([]) ([]) (0)]) (stk' := [.ref q8]) (c_MO_new q8) [1] [0] rfl rfl rfl zcal_MO_new zl_LW_12 zin_MO_new rfl (Nat.le_of_ble_eq_true rfl) (Nat.le_of_ble_eq_true rfl) (by omega) (by omega) rfl (Nat.le_of_ble_eq_true rfl) rfl rfl zd_LW_law_12 ?_
  refine zw_astore_n (lv' := [(2, .ref q8), (1, .ref q0), (0, .ref b)]) (Nat.le_of_ble_eq_true rfl) rfl zd_LW_law_15 ?_
  refine zw_iconst zd_LW_law_16 ?_
  refine zw_istore_n (lv' := [(3, .int (zI (0))), (2, .ref q8), (1, .ref q0), (0, .ref b)]) (Nat.le_of_ble_eq_true rfl) rfl zd_LW_law_17 ?_
  have lp : ∀ (fuel : Nat) (i : Int) (t : List Int) (nt : Nat) (ws : List (Int32 × Int32 × Int32)) (ts : List (List Int)) (r : Int) (k : Nat) (n : Nat), ((0 ≤ i ∧ i ≤ (N : Int) + 3) ∧ (t.length : Int) ≤ 2 * i ∧ (k : Int) + 16 * t.length + 512 ≤ 100 + nt + 32 * i ∧ (n : Int) + 32 * t.length + 1024 ≤ 270000 + 2 * nt + 64 * i) → ((N : Int) + 4 - i).toNat < fuel → zZ X zm_LW4 (600000) (7302250) (k) (n) [zPWA q0 (t) (nt) (ws) (ts) (r), zMA q8 (t) (ws) (ts) (r)] 18 [(0, .ref b), (1, .ref q0), (2, .ref q8), (3, .int (zI (i)))] [] := by
    intro fuel
    induction fuel with
    | zero => intro i t nt ws ts r k n g0 hm; exact absurd hm (Nat.not_lt_zero _)
    | succ fuel ih =>
      intro i t nt ws ts r k n g0 hm
      obtain ⟨g1, g2, g3, g4⟩ := g0
      refine zw_fact 0 rfl (fun G w h => zPWA_fact h) (fun pf => ?_)
      obtain ⟨⟨p1, p2, p3⟩, -⟩ := pf
      refine zw_iload_n 3 rfl zd_LW_law_18 ?_
      refine zw_aload_n 0 rfl zd_LW_law_19 ?_
      refine zw_slen hs zd_LW_law_20 ?_
      refine zw_iconst zd_LW_law_21 ?_
      refine zw_isub zd_LW_law_22 ?_
      refine zw_icmp_gt 334 (by omega) (by omega) zd_LW_law_23 (by decide) (fun c23 => ?_) (fun c23 => ?_)
      · -- 23 -> 334
        refine zw_iconst zd_LW_law_334 ?_
        exact hE _ _ _ _ _ (by omega) (by omega) zd_LW_law_335
      · -- 23 -> 26
        refine zw_aload_n 0 rfl zd_LW_law_26 ?_
        refine zw_iload_n 3 rfl zd_LW_law_27 ?_
        refine zw_sld hs hN (by omega) zd_LW_law_28 ?_
        refine zw_bipush rfl zd_LW_law_29 ?_
        refine zw_iandR zd_LW_law_31 ?_
        refine zw_topRZ (fun kz hkz hkr => ?_)
        by_cases k32_0 : kz = 0
        · refine zw_tableIn (off := 56) 88 (by omega) zd_LW_law_32 (by omega) (by rw [k32_0]; rfl) (by decide) ?_
          by_cases hz : 1 ≤ (xs (i + 3).toNat).toInt ∧ (xs (i + 3).toNat).toInt ≤ 8
          · skip
            have cb := capN_le nt (t.length + (xs (i + 3).toNat).toInt.toNat)
            have cg := capN_ge nt (t.length + (xs (i + 3).toNat).toInt.toNat)
            refine zw_aload_n 1 rfl zd_LW_law_88 ?_
            refine zw_aload_n 0 rfl zd_LW_law_89 ?_
            refine zw_iload_n 3 rfl zd_LW_law_90 ?_
            refine zw_iconst zd_LW_law_91 ?_
            refine zw_iadd zd_LW_law_92 ?_
            refine zw_sld hs hN (by omega) zd_LW_law_93 ?_
            refine zw_i2lR zd_LW_law_94 ?_
            refine zw_bipush rfl zd_LW_law_95 ?_
            refine zw_lshlR zd_LW_law_97 ?_
            refine zw_aload_n 0 rfl zd_LW_law_98 ?_
            refine zw_iload_n 3 rfl zd_LW_law_99 ?_
            refine zw_iconst zd_LW_law_100 ?_
            refine zw_iadd zd_LW_law_101 ?_
            refine zw_sld hs hN (by omega) zd_LW_law_102 ?_
            refine zw_i2lR zd_LW_law_103 ?_
            refine zw_ldc2 zk_LW_13 4294967295 rfl zd_LW_law_104 ?_
            refine zw_landR zd_LW_law_107 ?_
            refine zw_lorR zd_LW_law_108 ?_
            refine zw_aload_n 0 rfl zd_LW_law_109 ?_
            refine zw_iload_n 3 rfl zd_LW_law_110 ?_
            refine zw_iconst zd_LW_law_111 ?_
            refine zw_iadd zd_LW_law_112 ?_
            refine zw_sld hs hN (by omega) zd_LW_law_113 ?_
            refine zw_topE (zI_of _).symm ?_
            refine zw_callV (As := [.long ((((xs (i + 1).toNat).toInt64) <<< ((zI (32)).toInt64 &&& 63)) ||| (((xs (i + 2).toNat).toInt64) &&& (zJ (4294967295)))), .int (zI ((xs (i + 3).toNat).toInt))]) (rest := []) (L2 := [zMA q8 (t) (ws) (ts) (r)]) (L' := [zPWA q0 (t ++ tyS ((((xs (i + 1).toNat).toInt64) <<< ((zI (32)).toInt64 &&& 63)) ||| (((xs (i + 2).toNat).toInt64) &&& (zJ (4294967295)))) (xs (i + 3).toNat).toInt.toNat) (capN nt (t.length + (xs (i + 3).toNat).toInt.toNat)) (ws) (ts) (r), zMA q8 (t) (ws) (ts) (r)]) (stk' := [.int (zI (((t.length + (xs (i + 3).toNat).toInt.toNat : Nat) : Int)))]) (c_PW_type_ok q0 t nt ws ts r ((((xs (i + 1).toNat).toInt64) <<< ((zI (32)).toInt64 &&& 63)) ||| (((xs (i + 2).toNat).toInt64) &&& (zJ (4294967295)))) ((xs (i + 3).toNat).toInt) hz (by omega)) [0] [1] rfl rfl rfl zcal_PW_type zl_LW_15 zin_PW_type zse_PW_type 0 rfl zRv_PWA rfl (Nat.le_of_ble_eq_true rfl) (Nat.le_of_ble_eq_true rfl) (by omega) (by omega) rfl (Nat.le_of_ble_eq_true rfl) rfl rfl zd_LW_law_114 ?_
            refine zw_aload_n 2 rfl zd_LW_law_117 ?_
            refine zw_aload_n 0 rfl zd_LW_law_118 ?_
            refine zw_iload_n 3 rfl zd_LW_law_119 ?_
            refine zw_iconst zd_LW_law_120 ?_
            refine zw_iadd zd_LW_law_121 ?_
            refine zw_sld hs hN (by omega) zd_LW_law_122 ?_
            refine zw_i2lR zd_LW_law_123 ?_
            refine zw_bipush rfl zd_LW_law_124 ?_
            refine zw_lshlR zd_LW_law_126 ?_
            refine zw_aload_n 0 rfl zd_LW_law_127 ?_
            refine zw_iload_n 3 rfl zd_LW_law_128 ?_
            refine zw_iconst zd_LW_law_129 ?_
            refine zw_iadd zd_LW_law_130 ?_
            refine zw_sld hs hN (by omega) zd_LW_law_131 ?_
            refine zw_i2lR zd_LW_law_132 ?_
            refine zw_ldc2 zk_LW_13 4294967295 rfl zd_LW_law_133 ?_
            refine zw_landR zd_LW_law_136 ?_
            refine zw_lorR zd_LW_law_137 ?_
            refine zw_aload_n 0 rfl zd_LW_law_138 ?_
            refine zw_iload_n 3 rfl zd_LW_law_139 ?_
            refine zw_iconst zd_LW_law_140 ?_
            refine zw_iadd zd_LW_law_141 ?_
            refine zw_sld hs hN (by omega) zd_LW_law_142 ?_
            refine zw_topE (zI_of _).symm ?_
            refine zw_sub (L' := [zMA q8 (t) (ws) (ts) (r), zPWA q0 (t ++ tyS ((((xs (i + 1).toNat).toInt64) <<< ((zI (32)).toInt64 &&& 63)) ||| (((xs (i + 2).toNat).toInt64) &&& (zJ (4294967295)))) (xs (i + 3).toNat).toInt.toNat) (capN nt (t.length + (xs (i + 3).toNat).toInt.toNat)) (ws) (ts) (r)]) [1, 0] rfl rfl ?_
            refine zw_unp (fun G ws h => h) (fun x0 _ => ?_)
            obtain ⟨op, y, ct, wh, fd, fr⟩ := x0
            simp only [List.cons_append, List.nil_append]
            refine zw_callV (As := [.long ((((xs (i + 1).toNat).toInt64) <<< ((zI (32)).toInt64 &&& 63)) ||| (((xs (i + 2).toNat).toInt64) &&& (zJ (4294967295)))), .int (zI ((xs (i + 3).toNat).toInt))]) (rest := [.int (zI (((t.length + (xs (i + 3).toNat).toInt.toNat : Nat) : Int)))]) (L2 := [zPWA q0 (t ++ tyS ((((xs (i + 1).toNat).toInt64) <<< ((zI (32)).toInt64 &&& 63)) ||| (((xs (i + 2).toNat).toInt64) &&& (zJ (4294967295)))) (xs (i + 3).toNat).toInt.toNat) (capN nt (t.length + (xs (i + 3).toNat).toInt.toNat)) (ws) (ts) (r)]) (L' := [zMOd q8 (t ++ tyS ((((xs (i + 1).toNat).toInt64) <<< ((zI (32)).toInt64 &&& 63)) ||| (((xs (i + 2).toNat).toInt64) &&& (zJ (4294967295)))) (xs (i + 3).toNat).toInt.toNat) (ws) (ts) ([]) (op) (y) (r) (ct) (wh) (fd) (fr), zPWA q0 (t ++ tyS ((((xs (i + 1).toNat).toInt64) <<< ((zI (32)).toInt64 &&& 63)) ||| (((xs (i + 2).toNat).toInt64) &&& (zJ (4294967295)))) (xs (i + 3).toNat).toInt.toNat) (capN nt (t.length + (xs (i + 3).toNat).toInt.toNat)) (ws) (ts) (r)]) (stk' := [.int (zI (((t.length + (xs (i + 3).toNat).toInt.toNat : Nat) : Int))), .int (zI (((t.length + (xs (i + 3).toNat).toInt.toNat : Nat) : Int)))]) (c_MO_type_ok q8 t ws ts op y r ct wh fd fr ((((xs (i + 1).toNat).toInt64) <<< ((zI (32)).toInt64 &&& 63)) ||| (((xs (i + 2).toNat).toInt64) &&& (zJ (4294967295)))) ((xs (i + 3).toNat).toInt) hz (by omega)) [0] [1] rfl rfl rfl zcal_MO_type zl_LW_19 zin_MO_type zse_MO_type 0 rfl zRv_MOd rfl (Nat.le_of_ble_eq_true rfl) (Nat.le_of_ble_eq_true rfl) (by omega) (by omega) rfl (Nat.le_of_ble_eq_true rfl) rfl rfl zd_LW_law_143 ?_
            refine zw_pack (at0 := zMA q8 (t ++ tyS ((((xs (i + 1).toNat).toInt64) <<< ((zI (32)).toInt64 &&& 63)) ||| (((xs (i + 2).toNat).toInt64) &&& (zJ (4294967295)))) (xs (i + 3).toNat).toInt.toNat) (ws) (ts) (r)) (Ls := [zMOd q8 (t ++ tyS ((((xs (i + 1).toNat).toInt64) <<< ((zI (32)).toInt64 &&& 63)) ||| (((xs (i + 2).toNat).toInt64) &&& (zJ (4294967295)))) (xs (i + 3).toNat).toInt.toNat) (ws) (ts) ([]) (op) (y) (r) (ct) (wh) (fd) (fr)]) (L2 := [zPWA q0 (t ++ tyS ((((xs (i + 1).toNat).toInt64) <<< ((zI (32)).toInt64 &&& 63)) ||| (((xs (i + 2).toNat).toInt64) &&& (zJ (4294967295)))) (xs (i + 3).toNat).toInt.toNat) (capN nt (t.length + (xs (i + 3).toNat).toInt.toNat)) (ws) (ts) (r)]) rfl (fun G w h => ⟨(op, y, ct, wh, fd, fr), trivial, h⟩) ?_
            refine zw_icmp_eqR 328 zd_LW_law_146 (by decide) (fun c146 => ?_) (fun c146 => ?_)
            · -- 146 -> 328
              refine zw_iinc (lv' := [(3, .int (zI (i + 4))), (0, .ref b), (1, .ref q0), (2, .ref q8)]) 3 rfl (Nat.le_of_ble_eq_true rfl) rfl zd_LW_law_328 ?_
              refine zw_goto 18 zd_LW_law_331 (by decide) ?_
              refine zw_sub (L' := [zPWA q0 (t ++ tyS ((((xs (i + 1).toNat).toInt64) <<< ((zI (32)).toInt64 &&& 63)) ||| (((xs (i + 2).toNat).toInt64) &&& (zJ (4294967295)))) (xs (i + 3).toNat).toInt.toNat) (capN nt (t.length + (xs (i + 3).toNat).toInt.toNat)) (ws) (ts) (r), zMA q8 (t ++ tyS ((((xs (i + 1).toNat).toInt64) <<< ((zI (32)).toInt64 &&& 63)) ||| (((xs (i + 2).toNat).toInt64) &&& (zJ (4294967295)))) (xs (i + 3).toNat).toInt.toNat) (ws) (ts) (r)]) [1, 0] rfl rfl ?_
              refine zw_lpick (lv' := [(0, .ref b), (1, .ref q0), (2, .ref q8), (3, .int (zI (i + 4)))]) [1, 2, 3, 0] rfl ?_
              refine zw_widen (k' := k + (capN nt (t.length + (xs (i + 3).toNat).toInt.toNat) - nt)) (n' := n + 2 * (capN nt (t.length + (xs (i + 3).toNat).toInt.toNat) - nt)) (by omega) (by omega) ?_
              have hlen : (t ++ tyS ((((xs (i + 1).toNat).toInt64) <<< ((zI (32)).toInt64 &&& 63)) ||| (((xs (i + 2).toNat).toInt64) &&& (zJ (4294967295)))) (xs (i + 3).toNat).toInt.toNat).length = t.length + (xs (i + 3).toNat).toInt.toNat := by rw [List.length_append, tyS_len]
              exact ih (i + 4) (t ++ tyS ((((xs (i + 1).toNat).toInt64) <<< ((zI (32)).toInt64 &&& 63)) ||| (((xs (i + 2).toNat).toInt64) &&& (zJ (4294967295)))) (xs (i + 3).toNat).toInt.toNat) (capN nt (t.length + (xs (i + 3).toNat).toInt.toNat)) (ws) (ts) (r) (k + (capN nt (t.length + (xs (i + 3).toNat).toInt.toNat) - nt)) (n + 2 * (capN nt (t.length + (xs (i + 3).toNat).toInt.toNat) - nt)) ⟨by omega, by omega, by omega, by omega⟩ (by omega)
            · -- 146 -> 149
              exact absurd rfl c146
          · skip
            have hz2 : (xs (i + 3).toNat).toInt < 1 ∨ 8 < (xs (i + 3).toNat).toInt := by omega
            refine zw_aload_n 1 rfl zd_LW_law_88 ?_
            refine zw_aload_n 0 rfl zd_LW_law_89 ?_
            refine zw_iload_n 3 rfl zd_LW_law_90 ?_
            refine zw_iconst zd_LW_law_91 ?_
            refine zw_iadd zd_LW_law_92 ?_
            refine zw_sld hs hN (by omega) zd_LW_law_93 ?_
            refine zw_i2lR zd_LW_law_94 ?_
            refine zw_bipush rfl zd_LW_law_95 ?_
            refine zw_lshlR zd_LW_law_97 ?_
            refine zw_aload_n 0 rfl zd_LW_law_98 ?_
            refine zw_iload_n 3 rfl zd_LW_law_99 ?_
            refine zw_iconst zd_LW_law_100 ?_
            refine zw_iadd zd_LW_law_101 ?_
            refine zw_sld hs hN (by omega) zd_LW_law_102 ?_
            refine zw_i2lR zd_LW_law_103 ?_
            refine zw_ldc2 zk_LW_13 4294967295 rfl zd_LW_law_104 ?_
            refine zw_landR zd_LW_law_107 ?_
            refine zw_lorR zd_LW_law_108 ?_
            refine zw_aload_n 0 rfl zd_LW_law_109 ?_
            refine zw_iload_n 3 rfl zd_LW_law_110 ?_
            refine zw_iconst zd_LW_law_111 ?_
            refine zw_iadd zd_LW_law_112 ?_
            refine zw_sld hs hN (by omega) zd_LW_law_113 ?_
            refine zw_topE (zI_of _).symm ?_
            refine zw_callV (As := [.long ((((xs (i + 1).toNat).toInt64) <<< ((zI (32)).toInt64 &&& 63)) ||| (((xs (i + 2).toNat).toInt64) &&& (zJ (4294967295)))), .int (zI ((xs (i + 3).toNat).toInt))]) (rest := []) (L2 := [zMA q8 (t) (ws) (ts) (r)]) (L' := [zPWA q0 (t) (nt) (ws) (ts) (r), zMA q8 (t) (ws) (ts) (r)]) (stk' := [.int (zI (-1))]) (c_PW_type_bad q0 t nt ws ts r ((((xs (i + 1).toNat).toInt64) <<< ((zI (32)).toInt64 &&& 63)) ||| (((xs (i + 2).toNat).toInt64) &&& (zJ (4294967295)))) ((xs (i + 3).toNat).toInt) (zI_rg _) hz2) [0] [1] rfl rfl rfl zcal_PW_type zl_LW_15 zin_PW_type zse_PW_type 0 rfl zRv_PWA rfl (Nat.le_of_ble_eq_true rfl) (Nat.le_of_ble_eq_true rfl) (by omega) (by omega) rfl (Nat.le_of_ble_eq_true rfl) rfl rfl zd_LW_law_114 ?_
            refine zw_aload_n 2 rfl zd_LW_law_117 ?_
            refine zw_aload_n 0 rfl zd_LW_law_118 ?_
            refine zw_iload_n 3 rfl zd_LW_law_119 ?_
            refine zw_iconst zd_LW_law_120 ?_
            refine zw_iadd zd_LW_law_121 ?_
            refine zw_sld hs hN (by omega) zd_LW_law_122 ?_
            refine zw_i2lR zd_LW_law_123 ?_
            refine zw_bipush rfl zd_LW_law_124 ?_
            refine zw_lshlR zd_LW_law_126 ?_
            refine zw_aload_n 0 rfl zd_LW_law_127 ?_
            refine zw_iload_n 3 rfl zd_LW_law_128 ?_
            refine zw_iconst zd_LW_law_129 ?_
            refine zw_iadd zd_LW_law_130 ?_
            refine zw_sld hs hN (by omega) zd_LW_law_131 ?_
            refine zw_i2lR zd_LW_law_132 ?_
            refine zw_ldc2 zk_LW_13 4294967295 rfl zd_LW_law_133 ?_
            refine zw_landR zd_LW_law_136 ?_
            refine zw_lorR zd_LW_law_137 ?_
            refine zw_aload_n 0 rfl zd_LW_law_138 ?_
            refine zw_iload_n 3 rfl zd_LW_law_139 ?_
            refine zw_iconst zd_LW_law_140 ?_
            refine zw_iadd zd_LW_law_141 ?_
            refine zw_sld hs hN (by omega) zd_LW_law_142 ?_
            refine zw_topE (zI_of _).symm ?_
            refine zw_sub (L' := [zMA q8 (t) (ws) (ts) (r), zPWA q0 (t) (nt) (ws) (ts) (r)]) [1, 0] rfl rfl ?_
            refine zw_unp (fun G ws h => h) (fun x0 _ => ?_)
            obtain ⟨op, y, ct, wh, fd, fr⟩ := x0
            simp only [List.cons_append, List.nil_append]
            refine zw_callV (As := [.long ((((xs (i + 1).toNat).toInt64) <<< ((zI (32)).toInt64 &&& 63)) ||| (((xs (i + 2).toNat).toInt64) &&& (zJ (4294967295)))), .int (zI ((xs (i + 3).toNat).toInt))]) (rest := [.int (zI (-1))]) (L2 := [zPWA q0 (t) (nt) (ws) (ts) (r)]) (L' := [zMOd q8 (t) (ws) (ts) ([]) (op) (y) (r) (ct) (wh) (fd) (fr), zPWA q0 (t) (nt) (ws) (ts) (r)]) (stk' := [.int (zI (-1)), .int (zI (-1))]) (c_MO_type_bad q8 t ws ts op y r ct wh fd fr ((((xs (i + 1).toNat).toInt64) <<< ((zI (32)).toInt64 &&& 63)) ||| (((xs (i + 2).toNat).toInt64) &&& (zJ (4294967295)))) ((xs (i + 3).toNat).toInt) hz2 (zI_rg _)) [0] [1] rfl rfl rfl zcal_MO_type zl_LW_19 zin_MO_type zse_MO_type 0 rfl zRv_MOd rfl (Nat.le_of_ble_eq_true rfl) (Nat.le_of_ble_eq_true rfl) (by omega) (by omega) rfl (Nat.le_of_ble_eq_true rfl) rfl rfl zd_LW_law_143 ?_
            refine zw_pack (at0 := zMA q8 (t) (ws) (ts) (r)) (Ls := [zMOd q8 (t) (ws) (ts) ([]) (op) (y) (r) (ct) (wh) (fd) (fr)]) (L2 := [zPWA q0 (t) (nt) (ws) (ts) (r)]) rfl (fun G w h => ⟨(op, y, ct, wh, fd, fr), trivial, h⟩) ?_
            refine zw_icmp_eqR 328 zd_LW_law_146 (by decide) (fun c146 => ?_) (fun c146 => ?_)
            · -- 146 -> 328
              refine zw_iinc (lv' := [(3, .int (zI (i + 4))), (0, .ref b), (1, .ref q0), (2, .ref q8)]) 3 rfl (Nat.le_of_ble_eq_true rfl) rfl zd_LW_law_328 ?_
              refine zw_goto 18 zd_LW_law_331 (by decide) ?_
              refine zw_sub (L' := [zPWA q0 (t) (nt) (ws) (ts) (r), zMA q8 (t) (ws) (ts) (r)]) [1, 0] rfl rfl ?_
              refine zw_lpick (lv' := [(0, .ref b), (1, .ref q0), (2, .ref q8), (3, .int (zI (i + 4)))]) [1, 2, 3, 0] rfl ?_
              refine zw_widen (k' := k) (n' := n) (by omega) (by omega) ?_
              exact ih (i + 4) (t) (nt) (ws) (ts) (r) (k) (n) ⟨by omega, by omega, by omega, by omega⟩ (by omega)
            · -- 146 -> 149
              exact absurd rfl c146
        by_cases k32_1 : kz = 1
        · refine zw_tableIn (off := 119) 151 (by omega) zd_LW_law_32 (by omega) (by rw [k32_1]; rfl) (by decide) ?_
          obtain ⟨c1, hc⟩ : ∃ c1, cutS t = c1 := ⟨_, rfl⟩
          refine zw_aload_n 1 rfl zd_LW_law_151 ?_
          refine zw_callV (As := []) (rest := []) (L2 := [zMA q8 (t) (ws) (ts) (r)]) (L' := [zPWA q0 ([]) (nt) (c1.ws) (c1.ts) (c1.r), zMA q8 (t) (ws) (ts) (r)]) (stk' := [.int (zI (if c1.y = 0 then ((c1.ws.length : Nat) : Int) else -c1.y))]) (c_PW_cut q0 t nt ws ts r c1 hc (by omega)) [0] [1] rfl rfl rfl zcal_PW_cut zl_LW_20 zin_PW_cut zse_PW_cut 0 rfl zRv_PWA rfl (Nat.le_of_ble_eq_true rfl) (Nat.le_of_ble_eq_true rfl) (by omega) (by omega) rfl (Nat.le_of_ble_eq_true rfl) rfl rfl zd_LW_law_152 ?_
          refine zw_aload_n 2 rfl zd_LW_law_155 ?_
          refine zw_sub (L' := [zMA q8 (t) (ws) (ts) (r), zPWA q0 ([]) (nt) (c1.ws) (c1.ts) (c1.r)]) [1, 0] rfl rfl ?_
          refine zw_unp (fun G ws h => h) (fun x0 _ => ?_)
          obtain ⟨op, y, ct, wh, fd, fr⟩ := x0
          simp only [List.cons_append, List.nil_append]
          refine zw_callV (As := []) (rest := [.int (zI (if c1.y = 0 then ((c1.ws.length : Nat) : Int) else -c1.y))]) (L2 := [zPWA q0 ([]) (nt) (c1.ws) (c1.ts) (c1.r)]) (L' := [zMA q8 ([]) (c1.ws) (c1.ts) (c1.r), zPWA q0 ([]) (nt) (c1.ws) (c1.ts) (c1.r)]) (stk' := [.int (zI (if c1.y = 0 then ((c1.ws.length : Nat) : Int) else -c1.y)), .int (zI (if c1.y = 0 then ((c1.ws.length : Nat) : Int) else -c1.y))]) (c_MO_cut q8 t ws ts op y r ct wh fd fr c1 hc (by omega)) [0] [1] rfl rfl rfl zcal_MO_cut zl_LW_24 zin_MO_cut zse_MO_cut 0 rfl zRv_MOd rfl (Nat.le_of_ble_eq_true rfl) (Nat.le_of_ble_eq_true rfl) (by omega) (by omega) rfl (Nat.le_of_ble_eq_true rfl) rfl rfl zd_LW_law_156 ?_
          refine zw_icmp_eqR 328 zd_LW_law_159 (by decide) (fun c159 => ?_) (fun c159 => ?_)
          · -- 159 -> 328
            refine zw_iinc (lv' := [(3, .int (zI (i + 4))), (0, .ref b), (1, .ref q0), (2, .ref q8)]) 3 rfl (Nat.le_of_ble_eq_true rfl) rfl zd_LW_law_328 ?_
            refine zw_goto 18 zd_LW_law_331 (by decide) ?_
            refine zw_sub (L' := [zPWA q0 ([]) (nt) (c1.ws) (c1.ts) (c1.r), zMA q8 ([]) (c1.ws) (c1.ts) (c1.r)]) [1, 0] rfl rfl ?_
            refine zw_lpick (lv' := [(0, .ref b), (1, .ref q0), (2, .ref q8), (3, .int (zI (i + 4)))]) [1, 2, 3, 0] rfl ?_
            refine zw_widen (k' := k + 16 * t.length) (n' := n + 32 * t.length) (by omega) (by omega) ?_
            have hlen : ([] : List Int).length = 0 := rfl
            exact ih (i + 4) ([]) (nt) (c1.ws) (c1.ts) (c1.r) (k + 16 * t.length) (n + 32 * t.length) ⟨by omega, by omega, by omega, by omega⟩ (by omega)
          · -- 159 -> 162
            exact absurd rfl c159
        by_cases k32_2 : kz = 2
        · refine zw_tableIn (off := 132) 164 (by omega) zd_LW_law_32 (by omega) (by rw [k32_2]; rfl) (by decide) ?_
          refine zw_aload_n 1 rfl zd_LW_law_164 ?_
          refine zw_callV (As := []) (rest := []) (L2 := [zMA q8 (t) (ws) (ts) (r)]) (L' := [zPWA q0 (t) (nt) (ws) (ts) (r), zMA q8 (t) (ws) (ts) (r)]) (stk' := [.int (zI (r))]) (c_PW_place q0 t nt ws ts r ) [0] [1] rfl rfl rfl zcal_PW_place zl_LW_25 zin_PW_place zse_PW_place 0 rfl zRv_PWA rfl (Nat.le_of_ble_eq_true rfl) (Nat.le_of_ble_eq_true rfl) (by omega) (by omega) rfl (Nat.le_of_ble_eq_true rfl) rfl rfl zd_LW_law_165 ?_
          refine zw_aload_n 2 rfl zd_LW_law_168 ?_
          refine zw_sub (L' := [zMA q8 (t) (ws) (ts) (r), zPWA q0 (t) (nt) (ws) (ts) (r)]) [1, 0] rfl rfl ?_
          refine zw_unp (fun G ws h => h) (fun x0 _ => ?_)
          obtain ⟨op, y, ct, wh, fd, fr⟩ := x0
          simp only [List.cons_append, List.nil_append]
          refine zw_callV (As := []) (rest := [.int (zI (r))]) (L2 := [zPWA q0 (t) (nt) (ws) (ts) (r)]) (L' := [zMOd q8 (t) (ws) (ts) ([]) (op) (y) (r) (ct) (wh) (fd) (fr), zPWA q0 (t) (nt) (ws) (ts) (r)]) (stk' := [.int (zI (r)), .int (zI (r))]) (c_MO_place q8 t ws ts [] op y r ct wh fd fr ) [0] [1] rfl rfl rfl zcal_MO_place zl_LW_28 zin_MO_place zse_MO_place 0 rfl zRv_MOd rfl (Nat.le_of_ble_eq_true rfl) (Nat.le_of_ble_eq_true rfl) (by omega) (by omega) rfl (Nat.le_of_ble_eq_true rfl) rfl rfl zd_LW_law_169 ?_
          refine zw_pack (at0 := zMA q8 (t) (ws) (ts) (r)) (Ls := [zMOd q8 (t) (ws) (ts) ([]) (op) (y) (r) (ct) (wh) (fd) (fr)]) (L2 := [zPWA q0 (t) (nt) (ws) (ts) (r)]) rfl (fun G w h => ⟨(op, y, ct, wh, fd, fr), trivial, h⟩) ?_
          refine zw_icmp_eqR 328 zd_LW_law_172 (by decide) (fun c172 => ?_) (fun c172 => ?_)
          · -- 172 -> 328
            refine zw_iinc (lv' := [(3, .int (zI (i + 4))), (0, .ref b), (1, .ref q0), (2, .ref q8)]) 3 rfl (Nat.le_of_ble_eq_true rfl) rfl zd_LW_law_328 ?_
            refine zw_goto 18 zd_LW_law_331 (by decide) ?_
            refine zw_sub (L' := [zPWA q0 (t) (nt) (ws) (ts) (r), zMA q8 (t) (ws) (ts) (r)]) [1, 0] rfl rfl ?_
            refine zw_lpick (lv' := [(0, .ref b), (1, .ref q0), (2, .ref q8), (3, .int (zI (i + 4)))]) [1, 2, 3, 0] rfl ?_
            refine zw_widen (k' := k) (n' := n) (by omega) (by omega) ?_
            exact ih (i + 4) (t) (nt) (ws) (ts) (r) (k) (n) ⟨by omega, by omega, by omega, by omega⟩ (by omega)
          · -- 172 -> 175
            exact absurd rfl c172
        by_cases k32_3 : kz = 3
        · refine zw_tableIn (off := 145) 177 (by omega) zd_LW_law_32 (by omega) (by rw [k32_3]; rfl) (by decide) ?_
          refine zw_aload_n 1 rfl zd_LW_law_177 ?_
          refine zw_callV (As := []) (rest := []) (L2 := [zMA q8 (t) (ws) (ts) (r)]) (L' := [zPWA q0 (t) (nt) (ws) (ts) (r), zMA q8 (t) (ws) (ts) (r)]) (stk' := [.int (zI ((ws.length : Nat) : Int))]) (c_PW_words q0 t nt ws ts r ) [0] [1] rfl rfl rfl zcal_PW_words zl_LW_29 zin_PW_words zse_PW_words 0 rfl zRv_PWA rfl (Nat.le_of_ble_eq_true rfl) (Nat.le_of_ble_eq_true rfl) (by omega) (by omega) rfl (Nat.le_of_ble_eq_true rfl) rfl rfl zd_LW_law_178 ?_
          refine zw_aload_n 2 rfl zd_LW_law_181 ?_
          refine zw_sub (L' := [zMA q8 (t) (ws) (ts) (r), zPWA q0 (t) (nt) (ws) (ts) (r)]) [1, 0] rfl rfl ?_
          refine zw_unp (fun G ws h => h) (fun x0 _ => ?_)
          obtain ⟨op, y, ct, wh, fd, fr⟩ := x0
          simp only [List.cons_append, List.nil_append]
          refine zw_callV (As := []) (rest := [.int (zI ((ws.length : Nat) : Int))]) (L2 := [zPWA q0 (t) (nt) (ws) (ts) (r)]) (L' := [zMOd q8 (t) (ws) (ts) ([]) (op) (y) (r) (ct) (wh) (fd) (fr), zPWA q0 (t) (nt) (ws) (ts) (r)]) (stk' := [.int (zI ((ws.length : Nat) : Int)), .int (zI ((ws.length : Nat) : Int))]) (c_MO_words q8 t ws ts [] op y r ct wh fd fr ) [0] [1] rfl rfl rfl zcal_MO_words zl_LW_32 zin_MO_words zse_MO_words 0 rfl zRv_MOd rfl (Nat.le_of_ble_eq_true rfl) (Nat.le_of_ble_eq_true rfl) (by omega) (by omega) rfl (Nat.le_of_ble_eq_true rfl) rfl rfl zd_LW_law_182 ?_
          refine zw_pack (at0 := zMA q8 (t) (ws) (ts) (r)) (Ls := [zMOd q8 (t) (ws) (ts) ([]) (op) (y) (r) (ct) (wh) (fd) (fr)]) (L2 := [zPWA q0 (t) (nt) (ws) (ts) (r)]) rfl (fun G w h => ⟨(op, y, ct, wh, fd, fr), trivial, h⟩) ?_
          refine zw_icmp_eqR 328 zd_LW_law_185 (by decide) (fun c185 => ?_) (fun c185 => ?_)
          · -- 185 -> 328
            refine zw_iinc (lv' := [(3, .int (zI (i + 4))), (0, .ref b), (1, .ref q0), (2, .ref q8)]) 3 rfl (Nat.le_of_ble_eq_true rfl) rfl zd_LW_law_328 ?_
            refine zw_goto 18 zd_LW_law_331 (by decide) ?_
            refine zw_sub (L' := [zPWA q0 (t) (nt) (ws) (ts) (r), zMA q8 (t) (ws) (ts) (r)]) [1, 0] rfl rfl ?_
            refine zw_lpick (lv' := [(0, .ref b), (1, .ref q0), (2, .ref q8), (3, .int (zI (i + 4)))]) [1, 2, 3, 0] rfl ?_
            refine zw_widen (k' := k) (n' := n) (by omega) (by omega) ?_
            exact ih (i + 4) (t) (nt) (ws) (ts) (r) (k) (n) ⟨by omega, by omega, by omega, by omega⟩ (by omega)
          · -- 185 -> 188
            exact absurd rfl c185
        by_cases k32_4 : kz = 4
        · refine zw_tableIn (off := 158) 190 (by omega) zd_LW_law_32 (by omega) (by rw [k32_4]; rfl) (by decide) ?_
          refine zw_aload_n 1 rfl zd_LW_law_190 ?_
          refine zw_aload_n 0 rfl zd_LW_law_191 ?_
          refine zw_iload_n 3 rfl zd_LW_law_192 ?_
          refine zw_iconst zd_LW_law_193 ?_
          refine zw_iadd zd_LW_law_194 ?_
          refine zw_sld hs hN (by omega) zd_LW_law_195 ?_
          refine zw_topE (zI_of _).symm ?_
          refine zw_callV (As := [.int (zI ((xs (i + 1).toNat).toInt))]) (rest := []) (L2 := [zMA q8 (t) (ws) (ts) (r)]) (L' := [zPWA q0 (t) (nt) (ws) (ts) (r), zMA q8 (t) (ws) (ts) (r)]) (stk' := [.int (iget (ws.map (fun q => q.1)) ((xs (i + 1).toNat).toInt))]) (c_PW_kind q0 t nt ws ts r ((xs (i + 1).toNat).toInt) (zI_rg _)) [0] [1] rfl rfl rfl zcal_PW_kind zl_LW_33 zin_PW_kind zse_PW_kind 0 rfl zRv_PWA rfl (Nat.le_of_ble_eq_true rfl) (Nat.le_of_ble_eq_true rfl) (by omega) (by omega) rfl (Nat.le_of_ble_eq_true rfl) rfl rfl zd_LW_law_196 ?_
          refine zw_aload_n 2 rfl zd_LW_law_199 ?_
          refine zw_aload_n 0 rfl zd_LW_law_200 ?_
          refine zw_iload_n 3 rfl zd_LW_law_201 ?_
          refine zw_iconst zd_LW_law_202 ?_
          refine zw_iadd zd_LW_law_203 ?_
          refine zw_sld hs hN (by omega) zd_LW_law_204 ?_
          refine zw_topE (zI_of _).symm ?_
          refine zw_sub (L' := [zMA q8 (t) (ws) (ts) (r), zPWA q0 (t) (nt) (ws) (ts) (r)]) [1, 0] rfl rfl ?_
          refine zw_unp (fun G ws h => h) (fun x0 _ => ?_)
          obtain ⟨op, y, ct, wh, fd, fr⟩ := x0
          simp only [List.cons_append, List.nil_append]
          refine zw_callV (As := [.int (zI ((xs (i + 1).toNat).toInt))]) (rest := [.int (iget (ws.map (fun q => q.1)) ((xs (i + 1).toNat).toInt))]) (L2 := [zPWA q0 (t) (nt) (ws) (ts) (r)]) (L' := [zMOd q8 (t) (ws) (ts) ([]) (op) (y) (r) (ct) (wh) (fd) (fr), zPWA q0 (t) (nt) (ws) (ts) (r)]) (stk' := [.int (iget (ws.map (fun q => q.1)) ((xs (i + 1).toNat).toInt)), .int (iget (ws.map (fun q => q.1)) ((xs (i + 1).toNat).toInt))]) (c_MO_kind q8 t ws ts [] op y r ct wh fd fr ((xs (i + 1).toNat).toInt) (zI_rg _)) [0] [1] rfl rfl rfl zcal_MO_kind zl_LW_37 zin_MO_kind zse_MO_kind 0 rfl zRv_MOd rfl (Nat.le_of_ble_eq_true rfl) (Nat.le_of_ble_eq_true rfl) (by omega) (by omega) rfl (Nat.le_of_ble_eq_true rfl) rfl rfl zd_LW_law_205 ?_
          refine zw_pack (at0 := zMA q8 (t) (ws) (ts) (r)) (Ls := [zMOd q8 (t) (ws) (ts) ([]) (op) (y) (r) (ct) (wh) (fd) (fr)]) (L2 := [zPWA q0 (t) (nt) (ws) (ts) (r)]) rfl (fun G w h => ⟨(op, y, ct, wh, fd, fr), trivial, h⟩) ?_
          refine zw_icmp_eqR 328 zd_LW_law_208 (by decide) (fun c208 => ?_) (fun c208 => ?_)
          · -- 208 -> 328
            refine zw_iinc (lv' := [(3, .int (zI (i + 4))), (0, .ref b), (1, .ref q0), (2, .ref q8)]) 3 rfl (Nat.le_of_ble_eq_true rfl) rfl zd_LW_law_328 ?_
            refine zw_goto 18 zd_LW_law_331 (by decide) ?_
            refine zw_sub (L' := [zPWA q0 (t) (nt) (ws) (ts) (r), zMA q8 (t) (ws) (ts) (r)]) [1, 0] rfl rfl ?_
            refine zw_lpick (lv' := [(0, .ref b), (1, .ref q0), (2, .ref q8), (3, .int (zI (i + 4)))]) [1, 2, 3, 0] rfl ?_
            refine zw_widen (k' := k) (n' := n) (by omega) (by omega) ?_
            exact ih (i + 4) (t) (nt) (ws) (ts) (r) (k) (n) ⟨by omega, by omega, by omega, by omega⟩ (by omega)
          · -- 208 -> 211
            exact absurd rfl c208
        by_cases k32_5 : kz = 5
        · refine zw_tableIn (off := 181) 213 (by omega) zd_LW_law_32 (by omega) (by rw [k32_5]; rfl) (by decide) ?_
          refine zw_aload_n 1 rfl zd_LW_law_213 ?_
          refine zw_aload_n 0 rfl zd_LW_law_214 ?_
          refine zw_iload_n 3 rfl zd_LW_law_215 ?_
          refine zw_iconst zd_LW_law_216 ?_
          refine zw_iadd zd_LW_law_217 ?_
          refine zw_sld hs hN (by omega) zd_LW_law_218 ?_
          refine zw_topE (zI_of _).symm ?_
          refine zw_callV (As := [.int (zI ((xs (i + 1).toNat).toInt))]) (rest := []) (L2 := [zMA q8 (t) (ws) (ts) (r)]) (L' := [zPWA q0 (t) (nt) (ws) (ts) (r), zMA q8 (t) (ws) (ts) (r)]) (stk' := [.int (iget (ws.map (fun q => q.2.1)) ((xs (i + 1).toNat).toInt))]) (c_PW_number q0 t nt ws ts r ((xs (i + 1).toNat).toInt) (zI_rg _)) [0] [1] rfl rfl rfl zcal_PW_number zl_LW_38 zin_PW_number zse_PW_number 0 rfl zRv_PWA rfl (Nat.le_of_ble_eq_true rfl) (Nat.le_of_ble_eq_true rfl) (by omega) (by omega) rfl (Nat.le_of_ble_eq_true rfl) rfl rfl zd_LW_law_219 ?_
          refine zw_aload_n 2 rfl zd_LW_law_222 ?_
          refine zw_aload_n 0 rfl zd_LW_law_223 ?_
          refine zw_iload_n 3 rfl zd_LW_law_224 ?_
          refine zw_iconst zd_LW_law_225 ?_
          refine zw_iadd zd_LW_law_226 ?_
          refine zw_sld hs hN (by omega) zd_LW_law_227 ?_
          refine zw_topE (zI_of _).symm ?_
          refine zw_sub (L' := [zMA q8 (t) (ws) (ts) (r), zPWA q0 (t) (nt) (ws) (ts) (r)]) [1, 0] rfl rfl ?_
          refine zw_unp (fun G ws h => h) (fun x0 _ => ?_)
          obtain ⟨op, y, ct, wh, fd, fr⟩ := x0
          simp only [List.cons_append, List.nil_append]
          refine zw_callV (As := [.int (zI ((xs (i + 1).toNat).toInt))]) (rest := [.int (iget (ws.map (fun q => q.2.1)) ((xs (i + 1).toNat).toInt))]) (L2 := [zPWA q0 (t) (nt) (ws) (ts) (r)]) (L' := [zMOd q8 (t) (ws) (ts) ([]) (op) (y) (r) (ct) (wh) (fd) (fr), zPWA q0 (t) (nt) (ws) (ts) (r)]) (stk' := [.int (iget (ws.map (fun q => q.2.1)) ((xs (i + 1).toNat).toInt)), .int (iget (ws.map (fun q => q.2.1)) ((xs (i + 1).toNat).toInt))]) (c_MO_number q8 t ws ts [] op y r ct wh fd fr ((xs (i + 1).toNat).toInt) (zI_rg _)) [0] [1] rfl rfl rfl zcal_MO_number zl_LW_41 zin_MO_number zse_MO_number 0 rfl zRv_MOd rfl (Nat.le_of_ble_eq_true rfl) (Nat.le_of_ble_eq_true rfl) (by omega) (by omega) rfl (Nat.le_of_ble_eq_true rfl) rfl rfl zd_LW_law_228 ?_
          refine zw_pack (at0 := zMA q8 (t) (ws) (ts) (r)) (Ls := [zMOd q8 (t) (ws) (ts) ([]) (op) (y) (r) (ct) (wh) (fd) (fr)]) (L2 := [zPWA q0 (t) (nt) (ws) (ts) (r)]) rfl (fun G w h => ⟨(op, y, ct, wh, fd, fr), trivial, h⟩) ?_
          refine zw_icmp_eqR 328 zd_LW_law_231 (by decide) (fun c231 => ?_) (fun c231 => ?_)
          · -- 231 -> 328
            refine zw_iinc (lv' := [(3, .int (zI (i + 4))), (0, .ref b), (1, .ref q0), (2, .ref q8)]) 3 rfl (Nat.le_of_ble_eq_true rfl) rfl zd_LW_law_328 ?_
            refine zw_goto 18 zd_LW_law_331 (by decide) ?_
            refine zw_sub (L' := [zPWA q0 (t) (nt) (ws) (ts) (r), zMA q8 (t) (ws) (ts) (r)]) [1, 0] rfl rfl ?_
            refine zw_lpick (lv' := [(0, .ref b), (1, .ref q0), (2, .ref q8), (3, .int (zI (i + 4)))]) [1, 2, 3, 0] rfl ?_
            refine zw_widen (k' := k) (n' := n) (by omega) (by omega) ?_
            exact ih (i + 4) (t) (nt) (ws) (ts) (r) (k) (n) ⟨by omega, by omega, by omega, by omega⟩ (by omega)
          · -- 231 -> 234
            exact absurd rfl c231
        by_cases k32_6 : kz = 6
        · refine zw_tableIn (off := 204) 236 (by omega) zd_LW_law_32 (by omega) (by rw [k32_6]; rfl) (by decide) ?_
          refine zw_aload_n 1 rfl zd_LW_law_236 ?_
          refine zw_aload_n 0 rfl zd_LW_law_237 ?_
          refine zw_iload_n 3 rfl zd_LW_law_238 ?_
          refine zw_iconst zd_LW_law_239 ?_
          refine zw_iadd zd_LW_law_240 ?_
          refine zw_sld hs hN (by omega) zd_LW_law_241 ?_
          refine zw_topE (zI_of _).symm ?_
          refine zw_callV (As := [.int (zI ((xs (i + 1).toNat).toInt))]) (rest := []) (L2 := [zMA q8 (t) (ws) (ts) (r)]) (L' := [zPWA q0 (t) (nt) (ws) (ts) (r), zMA q8 (t) (ws) (ts) (r)]) (stk' := [.int (iget (ws.map (fun q => q.2.2)) ((xs (i + 1).toNat).toInt))]) (c_PW_begin q0 t nt ws ts r ((xs (i + 1).toNat).toInt) (zI_rg _)) [0] [1] rfl rfl rfl zcal_PW_begin zl_LW_42 zin_PW_begin zse_PW_begin 0 rfl zRv_PWA rfl (Nat.le_of_ble_eq_true rfl) (Nat.le_of_ble_eq_true rfl) (by omega) (by omega) rfl (Nat.le_of_ble_eq_true rfl) rfl rfl zd_LW_law_242 ?_
          refine zw_aload_n 2 rfl zd_LW_law_245 ?_
          refine zw_aload_n 0 rfl zd_LW_law_246 ?_
          refine zw_iload_n 3 rfl zd_LW_law_247 ?_
          refine zw_iconst zd_LW_law_248 ?_
          refine zw_iadd zd_LW_law_249 ?_
          refine zw_sld hs hN (by omega) zd_LW_law_250 ?_
          refine zw_topE (zI_of _).symm ?_
          refine zw_sub (L' := [zMA q8 (t) (ws) (ts) (r), zPWA q0 (t) (nt) (ws) (ts) (r)]) [1, 0] rfl rfl ?_
          refine zw_unp (fun G ws h => h) (fun x0 _ => ?_)
          obtain ⟨op, y, ct, wh, fd, fr⟩ := x0
          simp only [List.cons_append, List.nil_append]
          refine zw_callV (As := [.int (zI ((xs (i + 1).toNat).toInt))]) (rest := [.int (iget (ws.map (fun q => q.2.2)) ((xs (i + 1).toNat).toInt))]) (L2 := [zPWA q0 (t) (nt) (ws) (ts) (r)]) (L' := [zMOd q8 (t) (ws) (ts) ([]) (op) (y) (r) (ct) (wh) (fd) (fr), zPWA q0 (t) (nt) (ws) (ts) (r)]) (stk' := [.int (iget (ws.map (fun q => q.2.2)) ((xs (i + 1).toNat).toInt)), .int (iget (ws.map (fun q => q.2.2)) ((xs (i + 1).toNat).toInt))]) (c_MO_begin q8 t ws ts [] op y r ct wh fd fr ((xs (i + 1).toNat).toInt) (zI_rg _)) [0] [1] rfl rfl rfl zcal_MO_begin zl_LW_45 zin_MO_begin zse_MO_begin 0 rfl zRv_MOd rfl (Nat.le_of_ble_eq_true rfl) (Nat.le_of_ble_eq_true rfl) (by omega) (by omega) rfl (Nat.le_of_ble_eq_true rfl) rfl rfl zd_LW_law_251 ?_
          refine zw_pack (at0 := zMA q8 (t) (ws) (ts) (r)) (Ls := [zMOd q8 (t) (ws) (ts) ([]) (op) (y) (r) (ct) (wh) (fd) (fr)]) (L2 := [zPWA q0 (t) (nt) (ws) (ts) (r)]) rfl (fun G w h => ⟨(op, y, ct, wh, fd, fr), trivial, h⟩) ?_
          refine zw_icmp_eqR 328 zd_LW_law_254 (by decide) (fun c254 => ?_) (fun c254 => ?_)
          · -- 254 -> 328
            refine zw_iinc (lv' := [(3, .int (zI (i + 4))), (0, .ref b), (1, .ref q0), (2, .ref q8)]) 3 rfl (Nat.le_of_ble_eq_true rfl) rfl zd_LW_law_328 ?_
            refine zw_goto 18 zd_LW_law_331 (by decide) ?_
            refine zw_sub (L' := [zPWA q0 (t) (nt) (ws) (ts) (r), zMA q8 (t) (ws) (ts) (r)]) [1, 0] rfl rfl ?_
            refine zw_lpick (lv' := [(0, .ref b), (1, .ref q0), (2, .ref q8), (3, .int (zI (i + 4)))]) [1, 2, 3, 0] rfl ?_
            refine zw_widen (k' := k) (n' := n) (by omega) (by omega) ?_
            exact ih (i + 4) (t) (nt) (ws) (ts) (r) (k) (n) ⟨by omega, by omega, by omega, by omega⟩ (by omega)
          · -- 254 -> 257
            exact absurd rfl c254
        by_cases k32_7 : kz = 7
        · refine zw_tableIn (off := 227) 259 (by omega) zd_LW_law_32 (by omega) (by rw [k32_7]; rfl) (by decide) ?_
          refine zw_aload_n 1 rfl zd_LW_law_259 ?_
          refine zw_callV (As := []) (rest := []) (L2 := [zMA q8 (t) (ws) (ts) (r)]) (L' := [zPWA q0 (t) (nt) (ws) (ts) (r), zMA q8 (t) (ws) (ts) (r)]) (stk' := [.int (zI ((ts.length : Nat) : Int))]) (c_PW_texts q0 t nt ws ts r ) [0] [1] rfl rfl rfl zcal_PW_texts zl_LW_46 zin_PW_texts zse_PW_texts 0 rfl zRv_PWA rfl (Nat.le_of_ble_eq_true rfl) (Nat.le_of_ble_eq_true rfl) (by omega) (by omega) rfl (Nat.le_of_ble_eq_true rfl) rfl rfl zd_LW_law_260 ?_
          refine zw_aload_n 2 rfl zd_LW_law_263 ?_
          refine zw_sub (L' := [zMA q8 (t) (ws) (ts) (r), zPWA q0 (t) (nt) (ws) (ts) (r)]) [1, 0] rfl rfl ?_
          refine zw_unp (fun G ws h => h) (fun x0 _ => ?_)
          obtain ⟨op, y, ct, wh, fd, fr⟩ := x0
          simp only [List.cons_append, List.nil_append]
          refine zw_callV (As := []) (rest := [.int (zI ((ts.length : Nat) : Int))]) (L2 := [zPWA q0 (t) (nt) (ws) (ts) (r)]) (L' := [zMOd q8 (t) (ws) (ts) ([]) (op) (y) (r) (ct) (wh) (fd) (fr), zPWA q0 (t) (nt) (ws) (ts) (r)]) (stk' := [.int (zI ((ts.length : Nat) : Int)), .int (zI ((ts.length : Nat) : Int))]) (c_MO_texts q8 t ws ts [] op y r ct wh fd fr ) [0] [1] rfl rfl rfl zcal_MO_texts zl_LW_49 zin_MO_texts zse_MO_texts 0 rfl zRv_MOd rfl (Nat.le_of_ble_eq_true rfl) (Nat.le_of_ble_eq_true rfl) (by omega) (by omega) rfl (Nat.le_of_ble_eq_true rfl) rfl rfl zd_LW_law_264 ?_
          refine zw_pack (at0 := zMA q8 (t) (ws) (ts) (r)) (Ls := [zMOd q8 (t) (ws) (ts) ([]) (op) (y) (r) (ct) (wh) (fd) (fr)]) (L2 := [zPWA q0 (t) (nt) (ws) (ts) (r)]) rfl (fun G w h => ⟨(op, y, ct, wh, fd, fr), trivial, h⟩) ?_
          refine zw_icmp_eqR 328 zd_LW_law_267 (by decide) (fun c267 => ?_) (fun c267 => ?_)
          · -- 267 -> 328
            refine zw_iinc (lv' := [(3, .int (zI (i + 4))), (0, .ref b), (1, .ref q0), (2, .ref q8)]) 3 rfl (Nat.le_of_ble_eq_true rfl) rfl zd_LW_law_328 ?_
            refine zw_goto 18 zd_LW_law_331 (by decide) ?_
            refine zw_sub (L' := [zPWA q0 (t) (nt) (ws) (ts) (r), zMA q8 (t) (ws) (ts) (r)]) [1, 0] rfl rfl ?_
            refine zw_lpick (lv' := [(0, .ref b), (1, .ref q0), (2, .ref q8), (3, .int (zI (i + 4)))]) [1, 2, 3, 0] rfl ?_
            refine zw_widen (k' := k) (n' := n) (by omega) (by omega) ?_
            exact ih (i + 4) (t) (nt) (ws) (ts) (r) (k) (n) ⟨by omega, by omega, by omega, by omega⟩ (by omega)
          · -- 267 -> 270
            exact absurd rfl c267
        by_cases k32_8 : kz = 8
        · refine zw_tableIn (off := 240) 272 (by omega) zd_LW_law_32 (by omega) (by rw [k32_8]; rfl) (by decide) ?_
          refine zw_aload_n 1 rfl zd_LW_law_272 ?_
          refine zw_aload_n 0 rfl zd_LW_law_273 ?_
          refine zw_iload_n 3 rfl zd_LW_law_274 ?_
          refine zw_iconst zd_LW_law_275 ?_
          refine zw_iadd zd_LW_law_276 ?_
          refine zw_sld hs hN (by omega) zd_LW_law_277 ?_
          refine zw_topE (zI_of _).symm ?_
          refine zw_callV (As := [.int (zI ((xs (i + 1).toNat).toInt))]) (rest := []) (L2 := [zMA q8 (t) (ws) (ts) (r)]) (L' := [zPWA q0 (t) (nt) (ws) (ts) (r), zMA q8 (t) (ws) (ts) (r)]) (stk' := [.int (iget (tsSizes ts) ((xs (i + 1).toNat).toInt))]) (c_PW_size q0 t nt ws ts r ((xs (i + 1).toNat).toInt) (zI_rg _)) [0] [1] rfl rfl rfl zcal_PW_size zl_LW_50 zin_PW_size zse_PW_size 0 rfl zRv_PWA rfl (Nat.le_of_ble_eq_true rfl) (Nat.le_of_ble_eq_true rfl) (by omega) (by omega) rfl (Nat.le_of_ble_eq_true rfl) rfl rfl zd_LW_law_278 ?_
          refine zw_aload_n 2 rfl zd_LW_law_281 ?_
          refine zw_aload_n 0 rfl zd_LW_law_282 ?_
          refine zw_iload_n 3 rfl zd_LW_law_283 ?_
          refine zw_iconst zd_LW_law_284 ?_
          refine zw_iadd zd_LW_law_285 ?_
          refine zw_sld hs hN (by omega) zd_LW_law_286 ?_
          refine zw_topE (zI_of _).symm ?_
          refine zw_sub (L' := [zMA q8 (t) (ws) (ts) (r), zPWA q0 (t) (nt) (ws) (ts) (r)]) [1, 0] rfl rfl ?_
          refine zw_unp (fun G ws h => h) (fun x0 _ => ?_)
          obtain ⟨op, y, ct, wh, fd, fr⟩ := x0
          simp only [List.cons_append, List.nil_append]
          refine zw_callV (As := [.int (zI ((xs (i + 1).toNat).toInt))]) (rest := [.int (iget (tsSizes ts) ((xs (i + 1).toNat).toInt))]) (L2 := [zPWA q0 (t) (nt) (ws) (ts) (r)]) (L' := [zMOd q8 (t) (ws) (ts) ([]) (op) (y) (r) (ct) (wh) (fd) (fr), zPWA q0 (t) (nt) (ws) (ts) (r)]) (stk' := [.int (iget (tsSizes ts) ((xs (i + 1).toNat).toInt)), .int (iget (tsSizes ts) ((xs (i + 1).toNat).toInt))]) (c_MO_size q8 t ws ts [] op y r ct wh fd fr ((xs (i + 1).toNat).toInt) (zI_rg _)) [0] [1] rfl rfl rfl zcal_MO_size zl_LW_53 zin_MO_size zse_MO_size 0 rfl zRv_MOd rfl (Nat.le_of_ble_eq_true rfl) (Nat.le_of_ble_eq_true rfl) (by omega) (by omega) rfl (Nat.le_of_ble_eq_true rfl) rfl rfl zd_LW_law_287 ?_
          refine zw_pack (at0 := zMA q8 (t) (ws) (ts) (r)) (Ls := [zMOd q8 (t) (ws) (ts) ([]) (op) (y) (r) (ct) (wh) (fd) (fr)]) (L2 := [zPWA q0 (t) (nt) (ws) (ts) (r)]) rfl (fun G w h => ⟨(op, y, ct, wh, fd, fr), trivial, h⟩) ?_
          refine zw_icmp_eqR 328 zd_LW_law_290 (by decide) (fun c290 => ?_) (fun c290 => ?_)
          · -- 290 -> 328
            refine zw_iinc (lv' := [(3, .int (zI (i + 4))), (0, .ref b), (1, .ref q0), (2, .ref q8)]) 3 rfl (Nat.le_of_ble_eq_true rfl) rfl zd_LW_law_328 ?_
            refine zw_goto 18 zd_LW_law_331 (by decide) ?_
            refine zw_sub (L' := [zPWA q0 (t) (nt) (ws) (ts) (r), zMA q8 (t) (ws) (ts) (r)]) [1, 0] rfl rfl ?_
            refine zw_lpick (lv' := [(0, .ref b), (1, .ref q0), (2, .ref q8), (3, .int (zI (i + 4)))]) [1, 2, 3, 0] rfl ?_
            refine zw_widen (k' := k) (n' := n) (by omega) (by omega) ?_
            exact ih (i + 4) (t) (nt) (ws) (ts) (r) (k) (n) ⟨by omega, by omega, by omega, by omega⟩ (by omega)
          · -- 290 -> 293
            exact absurd rfl c290
        by_cases k32_9 : kz = 9
        · refine zw_tableIn (off := 263) 295 (by omega) zd_LW_law_32 (by omega) (by rw [k32_9]; rfl) (by decide) ?_
          refine zw_aload_n 1 rfl zd_LW_law_295 ?_
          refine zw_aload_n 0 rfl zd_LW_law_296 ?_
          refine zw_iload_n 3 rfl zd_LW_law_297 ?_
          refine zw_iconst zd_LW_law_298 ?_
          refine zw_iadd zd_LW_law_299 ?_
          refine zw_sld hs hN (by omega) zd_LW_law_300 ?_
          refine zw_topE (zI_of _).symm ?_
          refine zw_aload_n 0 rfl zd_LW_law_301 ?_
          refine zw_iload_n 3 rfl zd_LW_law_302 ?_
          refine zw_iconst zd_LW_law_303 ?_
          refine zw_iadd zd_LW_law_304 ?_
          refine zw_sld hs hN (by omega) zd_LW_law_305 ?_
          refine zw_topE (zI_of _).symm ?_
          refine zw_callV (As := [.int (zI ((xs (i + 1).toNat).toInt)), .int (zI ((xs (i + 2).toNat).toInt))]) (rest := []) (L2 := [zMA q8 (t) (ws) (ts) (r)]) (L' := [zPWA q0 (t) (nt) (ws) (ts) (r), zMA q8 (t) (ws) (ts) (r)]) (stk' := [.int (zI (tsAt ts ((xs (i + 1).toNat).toInt) ((xs (i + 2).toNat).toInt)))]) (c_PW_at q0 t nt ws ts r ((xs (i + 1).toNat).toInt) (zI_rg _) ((xs (i + 2).toNat).toInt) (zI_rg _)) [0] [1] rfl rfl rfl zcal_PW_at zl_LW_54 zin_PW_at zse_PW_at 0 rfl zRv_PWA rfl (Nat.le_of_ble_eq_true rfl) (Nat.le_of_ble_eq_true rfl) (by omega) (by omega) rfl (Nat.le_of_ble_eq_true rfl) rfl rfl zd_LW_law_306 ?_
          refine zw_aload_n 2 rfl zd_LW_law_309 ?_
          refine zw_aload_n 0 rfl zd_LW_law_310 ?_
          refine zw_iload_n 3 rfl zd_LW_law_311 ?_
          refine zw_iconst zd_LW_law_312 ?_
          refine zw_iadd zd_LW_law_313 ?_
          refine zw_sld hs hN (by omega) zd_LW_law_314 ?_
          refine zw_topE (zI_of _).symm ?_
          refine zw_aload_n 0 rfl zd_LW_law_315 ?_
          refine zw_iload_n 3 rfl zd_LW_law_316 ?_
          refine zw_iconst zd_LW_law_317 ?_
          refine zw_iadd zd_LW_law_318 ?_
          refine zw_sld hs hN (by omega) zd_LW_law_319 ?_
          refine zw_topE (zI_of _).symm ?_
          refine zw_sub (L' := [zMA q8 (t) (ws) (ts) (r), zPWA q0 (t) (nt) (ws) (ts) (r)]) [1, 0] rfl rfl ?_
          refine zw_unp (fun G ws h => h) (fun x0 _ => ?_)
          obtain ⟨op, y, ct, wh, fd, fr⟩ := x0
          simp only [List.cons_append, List.nil_append]
          refine zw_callV (As := [.int (zI ((xs (i + 1).toNat).toInt)), .int (zI ((xs (i + 2).toNat).toInt))]) (rest := [.int (zI (tsAt ts ((xs (i + 1).toNat).toInt) ((xs (i + 2).toNat).toInt)))]) (L2 := [zPWA q0 (t) (nt) (ws) (ts) (r)]) (L' := [zMOd q8 (t) (ws) (ts) ([]) (op) (y) (r) (ct) (wh) (fd) (fr), zPWA q0 (t) (nt) (ws) (ts) (r)]) (stk' := [.int (zI (tsAt ts ((xs (i + 1).toNat).toInt) ((xs (i + 2).toNat).toInt))), .int (zI (tsAt ts ((xs (i + 1).toNat).toInt) ((xs (i + 2).toNat).toInt)))]) (c_MO_at q8 t ws ts [] op y r ct wh fd fr ((xs (i + 1).toNat).toInt) (zI_rg _) ((xs (i + 2).toNat).toInt) (zI_rg _)) [0] [1] rfl rfl rfl zcal_MO_at zl_LW_58 zin_MO_at zse_MO_at 0 rfl zRv_MOd rfl (Nat.le_of_ble_eq_true rfl) (Nat.le_of_ble_eq_true rfl) (by omega) (by omega) rfl (Nat.le_of_ble_eq_true rfl) rfl rfl zd_LW_law_320 ?_
          refine zw_pack (at0 := zMA q8 (t) (ws) (ts) (r)) (Ls := [zMOd q8 (t) (ws) (ts) ([]) (op) (y) (r) (ct) (wh) (fd) (fr)]) (L2 := [zPWA q0 (t) (nt) (ws) (ts) (r)]) rfl (fun G w h => ⟨(op, y, ct, wh, fd, fr), trivial, h⟩) ?_
          refine zw_icmp_eqR 328 zd_LW_law_323 (by decide) (fun c323 => ?_) (fun c323 => ?_)
          · -- 323 -> 328
            refine zw_iinc (lv' := [(3, .int (zI (i + 4))), (0, .ref b), (1, .ref q0), (2, .ref q8)]) 3 rfl (Nat.le_of_ble_eq_true rfl) rfl zd_LW_law_328 ?_
            refine zw_goto 18 zd_LW_law_331 (by decide) ?_
            refine zw_sub (L' := [zPWA q0 (t) (nt) (ws) (ts) (r), zMA q8 (t) (ws) (ts) (r)]) [1, 0] rfl rfl ?_
            refine zw_lpick (lv' := [(0, .ref b), (1, .ref q0), (2, .ref q8), (3, .int (zI (i + 4)))]) [1, 2, 3, 0] rfl ?_
            refine zw_widen (k' := k) (n' := n) (by omega) (by omega) ?_
            exact ih (i + 4) (t) (nt) (ws) (ts) (r) (k) (n) ⟨by omega, by omega, by omega, by omega⟩ (by omega)
          · -- 323 -> 326
            exact absurd rfl c323
        refine zw_tableOut 328 (by omega) zd_LW_law_32 (by omega) (by decide) ?_
        refine zw_iinc (lv' := [(3, .int (zI (i + 4))), (0, .ref b), (1, .ref q0), (2, .ref q8)]) 3 rfl (Nat.le_of_ble_eq_true rfl) rfl zd_LW_law_328 ?_
        refine zw_goto 18 zd_LW_law_331 (by decide) ?_
        refine zw_lpick (lv' := [(0, .ref b), (1, .ref q0), (2, .ref q8), (3, .int (zI (i + 4)))]) [1, 2, 3, 0] rfl ?_
        refine zw_widen (k' := k) (n' := n) (by omega) (by omega) ?_
        exact ih (i + 4) (t) (nt) (ws) (ts) (r) (k) (n) ⟨by omega, by omega, by omega, by omega⟩ (by omega)
  refine zw_sub (L' := [zPWA q0 ([]) (512) ([]) ([]) (0), zMA q8 ([]) ([]) ([]) (0)]) [1, 0] rfl rfl ?_
  refine zw_lpick (lv' := [(0, .ref b), (1, .ref q0), (2, .ref q8), (3, .int (zI (0)))]) [3, 2, 1, 0] rfl ?_
  refine zw_widen (k' := 36) (n' := 265821) (by omega) (by omega) ?_
  exact lp _ 0 [] 512 [] [] 0 36 265821 ⟨by omega, by show ((0 : Nat) : Int) ≤ _; omega, by show _ + 16 * ((0 : Nat) : Int) + _ ≤ _; omega, by show _ + 32 * ((0 : Nat) : Int) + _ ≤ _; omega⟩ (Nat.lt_succ_self _)
