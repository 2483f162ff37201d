set_option maxHeartbeats 4000000 in
set_option maxRecDepth 100000 in
theorem c_MO_pairs_ok (h : Nat) (t : List Int) (ws : List (Int32 × Int32 × Int32)) (ts : List (List Int)) (op : List Int) (y r ct wh : Int) (fd fr : Nat → Int32) (z : Int) (hz : 0 ≤ z ∧ z < t.length) (hF : ts.flatten.length + t.length < 60000) (hl : ts.length < 16384) (hw : ws.length < 16384) (xs : List Int) (h1 wy E : Int) (hpr : prS t t.length (z + 1) (-1) [] = (xs, h1, wy, E)) (hy : wy = 0) : zCT zy_MO_pairs zm_MO_pairs (0) (0) [.ref h, .int (zI z)] [zMOd h (t) (ws) (ts) ([]) (op) (y) (r) (ct) (wh) (fd) (fr)] (some (.int (zI (E + 1)))) [zMOd h (t) (ws ++ [(zI 5, zI ((ixOf ts (prX xs h1) : Nat) : Int), zI z)]) (addT ts (prX xs h1)) ([]) (op) (y) (r) (ct) (wh) (fd) (fr)] := by
  refine zCT.of [(0, .ref h), (1, .int (zI (z)))] rfl (by decide) rfl (fun h => by first | rfl | cases h) (Nat.le_of_ble_eq_true rfl) (fun X hR => ?_)
  refine zw_fact 0 rfl (fun G w h => zMOd_fact h) (fun mf => ?_)
  obtain ⟨⟨ht1, hby⟩, hw1, ⟨hs1, hs2, hs3⟩, ho1⟩ := mf
  have lp : ∀ (fuel : Nat) (k : Nat) (q : Int) (hf : Int) (acc : List Int), ((((0 < q ∧ q ≤ t.length) ∧ (-1 ≤ hf ∧ hf ≤ 15)) ∧ (acc.length : Int) ≤ q) ∧ prS t k q hf acc = (xs, h1, wy, E) ∧ (t.length : Int) - q ≤ k) → ((t.length : Int) - q).toNat < fuel → zZ X zm_MO_pairs (0) (0) (0) (0) [zMOd h (t) (ws) (ts) (acc) (op) (y) (r) (ct) (wh) (fd) (fr)] 6 [(0, .ref h), (1, .int (zI (z))), (2, .int (zI (hf))), (3, .int (zI (q)))] [] := by
    intro fuel
    induction fuel with
    | zero => intro k q hf acc g0 hm; exact absurd hm (Nat.not_lt_zero _)
    | succ fuel ih =>
      intro k q hf acc g0 hm
      obtain ⟨⟨⟨q1, q2⟩, q3⟩, g6, g7⟩ := g0
      have al : (ts.flatten ++ acc).length = ts.flatten.length + acc.length := List.length_append
      have dm := digM_rg (bget t q)
      refine zw_aload_n 0 rfl zd_MO_pairs_6 ?_
      refine zw_iload_n 3 rfl zd_MO_pairs_7 ?_
      refine zw_callV (As := [.int (zI (q))]) (rest := []) (L2 := []) (L' := [zMOd h (t) (ws) (ts) (acc) (op) (y) (r) (ct) (wh) (fd) (fr)]) (stk' := [.int (zI (bget t q))]) (c_MO_byteAt h t ws ts acc op y r ct wh fd fr q (by omega)) [0] [] rfl rfl rfl zcal_MO_byteAt zl_MO_51 zin_MO_byteAt zse_MO_byteAt 0 rfl zRv_MOd rfl (Nat.le_of_ble_eq_true rfl) (Nat.le_of_ble_eq_true rfl) (by omega) (by omega) rfl (Nat.le_of_ble_eq_true rfl) rfl rfl zd_MO_pairs_8 ?_
      have rg8 := bget_rg hby q
      refine zw_bipush rfl zd_MO_pairs_11 ?_
      refine zw_icmp_eq 104 (by omega) (by omega) zd_MO_pairs_13 (by decide) (fun c13 => ?_) (fun c13 => ?_)
      · -- 13 -> 104
        have hqi := bget_in (l := t) (z := q) (by omega)
        obtain ⟨rfl, rfl, e9, rfl⟩ := prS_gt (by omega) g7 (by omega) g6
        refine zw_iload_n 2 rfl zd_MO_pairs_104 ?_
        refine zw_if_lt 116 (by omega) zd_MO_pairs_105 (by decide) (fun c105 => ?_) (fun c105 => ?_)
        · -- 105 -> 116
          refine zw_aload_n 0 rfl zd_MO_pairs_116 ?_
          refine zw_iconst zd_MO_pairs_117 ?_
          refine zw_aload_n 0 rfl zd_MO_pairs_118 ?_
          refine zw_callV (As := []) (rest := [.int (zI (5)), .ref h]) (L2 := []) (L' := [zMOd h (t) (ws) (addT ts xs) ([]) (op) (y) (r) (ct) (wh) (fd) (fr)]) (stk' := [.int (zI (((ixOf ts xs : Nat) : Int))), .int (zI (5)), .ref h]) (c_MO_text h t ws ts xs op y r ct wh fd fr (by omega)) [0] [] rfl rfl rfl zcal_MO_text zl_MO_76 zin_MO_text zse_MO_text 0 rfl zRv_MOd rfl (Nat.le_of_ble_eq_true rfl) (Nat.le_of_ble_eq_true rfl) (by omega) (by omega) rfl (Nat.le_of_ble_eq_true rfl) rfl rfl zd_MO_pairs_119 ?_
          refine zw_iload_n 1 rfl zd_MO_pairs_122 ?_
          refine zw_callV (As := [.int (zI (5)), .int (zI (((ixOf ts xs : Nat) : Int))), .int (zI (z))]) (rest := []) (L2 := []) (L' := [zMOd h (t) (ws ++ [(zI 5, (zI (((ixOf ts xs : Nat) : Int))), (zI (z)))]) (addT ts xs) ([]) (op) (y) (r) (ct) (wh) (fd) (fr)]) (stk' := []) (c_MO_word h t ws (addT ts xs) ([]) op y r ct wh fd fr 5 (zI (((ixOf ts xs : Nat) : Int))) (zI (z)) (by omega) (by omega)) [0] [] rfl rfl rfl zcal_MO_word zl_MO_110 zin_MO_word zse_MO_word 0 rfl zRv_MOd rfl (Nat.le_of_ble_eq_true rfl) (Nat.le_of_ble_eq_true rfl) (by omega) (by omega) rfl (Nat.le_of_ble_eq_true rfl) rfl rfl zd_MO_pairs_123 ?_
          refine zw_iload_n 3 rfl zd_MO_pairs_126 ?_
          refine zw_iconst zd_MO_pairs_127 ?_
          refine zw_iadd zd_MO_pairs_128 ?_
          exact zw_iret hR (rfl) (by rw [prX, if_pos (by omega)]) rfl (by omega) (by omega) zd_MO_pairs_129
        · -- 105 -> 108
          refine zw_aload_n 0 rfl zd_MO_pairs_108 ?_
          refine zw_bipush rfl zd_MO_pairs_109 ?_
          refine zw_iload_n 2 rfl zd_MO_pairs_111 ?_
          refine zw_imul zd_MO_pairs_112 ?_
          refine zw_callV (As := [.int (zI (16 * h1))]) (rest := []) (L2 := []) (L' := [zMOd h (t) (ws) (ts) (xs ++ [(16 * h1) % 256]) (op) (y) (r) (ct) (wh) (fd) (fr)]) (stk' := []) (c_MO_drop h t ws ts xs op y r ct wh fd fr (16 * h1) (by omega)) [0] [] rfl rfl rfl zcal_MO_drop zl_MO_72 zin_MO_drop zse_MO_drop 0 rfl zRv_MOd rfl (Nat.le_of_ble_eq_true rfl) (Nat.le_of_ble_eq_true rfl) (by omega) (by omega) rfl (Nat.le_of_ble_eq_true rfl) rfl rfl zd_MO_pairs_113 ?_
          refine zw_aload_n 0 rfl zd_MO_pairs_116 ?_
          refine zw_iconst zd_MO_pairs_117 ?_
          refine zw_aload_n 0 rfl zd_MO_pairs_118 ?_
          refine zw_callV (As := []) (rest := [.int (zI (5)), .ref h]) (L2 := []) (L' := [zMOd h (t) (ws) (addT ts (xs ++ [(16 * h1) % 256])) ([]) (op) (y) (r) (ct) (wh) (fd) (fr)]) (stk' := [.int (zI (((ixOf ts (xs ++ [(16 * h1) % 256]) : Nat) : Int))), .int (zI (5)), .ref h]) (c_MO_text h t ws ts (xs ++ [(16 * h1) % 256]) op y r ct wh fd fr (by omega)) [0] [] rfl rfl rfl zcal_MO_text zl_MO_76 zin_MO_text zse_MO_text 0 rfl zRv_MOd rfl (Nat.le_of_ble_eq_true rfl) (Nat.le_of_ble_eq_true rfl) (by omega) (by omega) rfl (Nat.le_of_ble_eq_true rfl) rfl rfl zd_MO_pairs_119 ?_
          refine zw_iload_n 1 rfl zd_MO_pairs_122 ?_
          refine zw_callV (As := [.int (zI (5)), .int (zI (((ixOf ts (xs ++ [(16 * h1) % 256]) : Nat) : Int))), .int (zI (z))]) (rest := []) (L2 := []) (L' := [zMOd h (t) (ws ++ [(zI 5, (zI (((ixOf ts (xs ++ [(16 * h1) % 256]) : Nat) : Int))), (zI (z)))]) (addT ts (xs ++ [(16 * h1) % 256])) ([]) (op) (y) (r) (ct) (wh) (fd) (fr)]) (stk' := []) (c_MO_word h t ws (addT ts (xs ++ [(16 * h1) % 256])) ([]) op y r ct wh fd fr 5 (zI (((ixOf ts (xs ++ [(16 * h1) % 256]) : Nat) : Int))) (zI (z)) (by omega) (by omega)) [0] [] rfl rfl rfl zcal_MO_word zl_MO_110 zin_MO_word zse_MO_word 0 rfl zRv_MOd rfl (Nat.le_of_ble_eq_true rfl) (Nat.le_of_ble_eq_true rfl) (by omega) (by omega) rfl (Nat.le_of_ble_eq_true rfl) rfl rfl zd_MO_pairs_123 ?_
          refine zw_iload_n 3 rfl zd_MO_pairs_126 ?_
          refine zw_iconst zd_MO_pairs_127 ?_
          refine zw_iadd zd_MO_pairs_128 ?_
          exact zw_iret hR (rfl) (by rw [prX, if_neg (by omega), show (16 * h1) % 256 = 16 * h1 by omega]) rfl (by omega) (by omega) zd_MO_pairs_129
      · -- 13 -> 16
        refine zw_aload_n 0 rfl zd_MO_pairs_16 ?_
        refine zw_iload_n 3 rfl zd_MO_pairs_17 ?_
        refine zw_callV (As := [.int (zI (q))]) (rest := []) (L2 := []) (L' := [zMOd h (t) (ws) (ts) (acc) (op) (y) (r) (ct) (wh) (fd) (fr)]) (stk' := [.int (zI (bget t q))]) (c_MO_byteAt h t ws ts acc op y r ct wh fd fr q (by omega)) [0] [] rfl rfl rfl zcal_MO_byteAt zl_MO_51 zin_MO_byteAt zse_MO_byteAt 0 rfl zRv_MOd rfl (Nat.le_of_ble_eq_true rfl) (Nat.le_of_ble_eq_true rfl) (by omega) (by omega) rfl (Nat.le_of_ble_eq_true rfl) rfl rfl zd_MO_pairs_18 ?_
        have rg18 := bget_rg hby q
        refine zw_istore (lv' := [(4, .int (zI (bget t q))), (0, .ref h), (1, .int (zI (z))), (2, .int (zI (hf))), (3, .int (zI (q)))]) (Nat.le_of_ble_eq_true rfl) rfl zd_MO_pairs_21 ?_
        refine zw_iload 0 rfl zd_MO_pairs_23 ?_
        refine zw_if_ge 38 (by omega) zd_MO_pairs_25 (by decide) (fun c25 => ?_) (fun c25 => ?_)
        · -- 25 -> 38
          have hqi := bget_in (l := t) (z := q) (by omega)
          refine zw_iload 0 rfl zd_MO_pairs_38 ?_
          refine zw_callS (a := 0) (As := [.int (zI (bget t q))]) (rest := []) (L2 := [zMOd h (t) (ws) (ts) (acc) (op) (y) (r) (ct) (wh) (fd) (fr)]) (L' := [zMOd h (t) (ws) (ts) (acc) (op) (y) (r) (ct) (wh) (fd) (fr)]) (stk' := [.int (zI (digM (bget t q)))]) (c_MO_digitOf (bget t q) (by omega)) [] [0] rfl rfl rfl zcal_MO_digitOf zl_MO_127 zst_MO_digitOf (Nat.le_of_ble_eq_true rfl) (Nat.le_of_ble_eq_true rfl) (by omega) (by omega) rfl (Nat.le_of_ble_eq_true rfl) rfl rfl zd_MO_pairs_40 ?_
          have rb40 := digM_rg (bget t q)
          refine zw_bipush rfl zd_MO_pairs_43 ?_
          refine zw_icmp_ge 83 (by omega) (by omega) zd_MO_pairs_45 (by decide) (fun c45 => ?_) (fun c45 => ?_)
          · -- 45 -> 83
            refine zw_iload 0 rfl zd_MO_pairs_83 ?_
            refine zw_callS (a := 0) (As := [.int (zI (bget t q))]) (rest := []) (L2 := [zMOd h (t) (ws) (ts) (acc) (op) (y) (r) (ct) (wh) (fd) (fr)]) (L' := [zMOd h (t) (ws) (ts) (acc) (op) (y) (r) (ct) (wh) (fd) (fr)]) (stk' := [.int (zI (bI (sBlank (bget t q))))]) (c_MO_isBlank (bget t q) (by omega)) [] [0] rfl rfl rfl zcal_MO_isBlank zl_MO_44 zst_MO_isBlank (Nat.le_of_ble_eq_true rfl) (Nat.le_of_ble_eq_true rfl) (by omega) (by omega) rfl (Nat.le_of_ble_eq_true rfl) rfl rfl zd_MO_pairs_85 ?_
            have rb85 := bI_rg (sBlank (bget t q))
            refine zw_if_ne 98 (by omega) zd_MO_pairs_88 (by decide) (fun c88 => ?_) (fun c88 => ?_)
            · -- 88 -> 98
              refine zw_iinc (lv' := [(3, .int (zI (q + 1))), (4, .int (zI (bget t q))), (0, .ref h), (1, .int (zI (z))), (2, .int (zI (hf)))]) 4 rfl (Nat.le_of_ble_eq_true rfl) rfl zd_MO_pairs_98 ?_
              refine zw_goto 6 zd_MO_pairs_101 (by decide) ?_
              refine zw_lpick (lv' := [(0, .ref h), (1, .int (zI (z))), (2, .int (zI (hf))), (3, .int (zI (q + 1)))]) [2, 3, 4, 0] rfl ?_
              refine zw_widen (k' := 0) (n' := 0) (by omega) (by omega) ?_
              obtain ⟨k2, rfl, g8⟩ := prS_blank (by omega) g7 (by omega) (zbI1 (by omega)) g6
              exact ih k2 (q + 1) hf acc ⟨by omega, g8, by omega⟩ (by omega)
            · -- 88 -> 91
              obtain ⟨rfl, rfl, e9, rfl⟩ := prS_bad (by omega) g7 (by omega) (zbI0 (by omega)) (by omega) g6
              omega
          · -- 45 -> 48
            refine zw_iload_n 3 rfl zd_MO_pairs_48 ?_
            refine zw_if_lt 66 (by omega) zd_MO_pairs_49 (by decide) (fun c49 => ?_) (fun c49 => ?_)
            · -- 49 -> 66
              refine zw_iload_n 3 rfl zd_MO_pairs_66 ?_
              refine zw_if_lt 74 (by omega) zd_MO_pairs_67 (by decide) (fun c67 => ?_) (fun c67 => ?_)
              · -- 67 -> 74
                refine zw_iload 0 rfl zd_MO_pairs_74 ?_
                refine zw_callS (a := 0) (As := [.int (zI (bget t q))]) (rest := []) (L2 := [zMOd h (t) (ws) (ts) (acc) (op) (y) (r) (ct) (wh) (fd) (fr)]) (L' := [zMOd h (t) (ws) (ts) (acc) (op) (y) (r) (ct) (wh) (fd) (fr)]) (stk' := [.int (zI (digM (bget t q)))]) (c_MO_digitOf (bget t q) (by omega)) [] [0] rfl rfl rfl zcal_MO_digitOf zl_MO_127 zst_MO_digitOf (Nat.le_of_ble_eq_true rfl) (Nat.le_of_ble_eq_true rfl) (by omega) (by omega) rfl (Nat.le_of_ble_eq_true rfl) rfl rfl zd_MO_pairs_76 ?_
                have rb76 := digM_rg (bget t q)
                refine zw_istore_n (lv' := [(2, .int (zI (digM (bget t q)))), (4, .int (zI (bget t q))), (0, .ref h), (1, .int (zI (z))), (3, .int (zI (q)))]) (Nat.le_of_ble_eq_true rfl) rfl zd_MO_pairs_79 ?_
                refine zw_goto 98 zd_MO_pairs_80 (by decide) ?_
                refine zw_iinc (lv' := [(3, .int (zI (q + 1))), (2, .int (zI (digM (bget t q)))), (4, .int (zI (bget t q))), (0, .ref h), (1, .int (zI (z)))]) 4 rfl (Nat.le_of_ble_eq_true rfl) rfl zd_MO_pairs_98 ?_
                refine zw_goto 6 zd_MO_pairs_101 (by decide) ?_
                refine zw_lpick (lv' := [(0, .ref h), (1, .int (zI (z))), (2, .int (zI (digM (bget t q)))), (3, .int (zI (q + 1)))]) [3, 4, 1, 0] rfl ?_
                refine zw_widen (k' := 0) (n' := 0) (by omega) (by omega) ?_
                first
                | (exfalso; omega)
                | (obtain ⟨k2, rfl, g8⟩ := prS_1st (by omega) g7 (digV_blank (by omega)) (by omega) (by omega) (by omega) g6
                   exact ih k2 (q + 1) (digM (bget t q)) acc ⟨by omega, by rw [show digM (bget t q) = digV (bget t q) by omega]; exact g8, by omega⟩ (by omega))
              · -- 67 -> 70
                refine zw_iconst zd_MO_pairs_70 ?_
                refine zw_goto 79 zd_MO_pairs_71 (by decide) ?_
                refine zw_istore_n (lv' := [(2, .int (zI (-1))), (4, .int (zI (bget t q))), (0, .ref h), (1, .int (zI (z))), (3, .int (zI (q)))]) (Nat.le_of_ble_eq_true rfl) rfl zd_MO_pairs_79 ?_
                refine zw_goto 98 zd_MO_pairs_80 (by decide) ?_
                refine zw_iinc (lv' := [(3, .int (zI (q + 1))), (2, .int (zI (-1))), (4, .int (zI (bget t q))), (0, .ref h), (1, .int (zI (z)))]) 4 rfl (Nat.le_of_ble_eq_true rfl) rfl zd_MO_pairs_98 ?_
                refine zw_goto 6 zd_MO_pairs_101 (by decide) ?_
                refine zw_lpick (lv' := [(0, .ref h), (1, .int (zI (z))), (2, .int (zI (-1))), (3, .int (zI (q + 1)))]) [3, 4, 1, 0] rfl ?_
                refine zw_widen (k' := 0) (n' := 0) (by omega) (by omega) ?_
                first
                | (exfalso; omega)
                | (obtain ⟨k2, rfl, g8⟩ := prS_1st (by omega) g7 (digV_blank (by omega)) (by omega) (by omega) (by omega) g6
                   exact ih k2 (q + 1) (-1) acc ⟨by omega, by rw [show -1 = digV (bget t q) by omega]; exact g8, by omega⟩ (by omega))
            · -- 49 -> 52
              refine zw_aload_n 1 rfl zd_MO_pairs_52 ?_
              refine zw_bipush rfl zd_MO_pairs_53 ?_
              refine zw_iload_n 3 rfl zd_MO_pairs_55 ?_
              refine zw_imul zd_MO_pairs_56 ?_
              refine zw_iload 0 rfl zd_MO_pairs_57 ?_
              refine zw_callS (a := 0) (As := [.int (zI (bget t q))]) (rest := [.int (zI (16 * hf)), .ref h]) (L2 := [zMOd h (t) (ws) (ts) (acc) (op) (y) (r) (ct) (wh) (fd) (fr)]) (L' := [zMOd h (t) (ws) (ts) (acc) (op) (y) (r) (ct) (wh) (fd) (fr)]) (stk' := [.int (zI (digM (bget t q))), .int (zI (16 * hf)), .ref h]) (c_MO_digitOf (bget t q) (by omega)) [] [0] rfl rfl rfl zcal_MO_digitOf zl_MO_127 zst_MO_digitOf (Nat.le_of_ble_eq_true rfl) (Nat.le_of_ble_eq_true rfl) (by omega) (by omega) rfl (Nat.le_of_ble_eq_true rfl) rfl rfl zd_MO_pairs_59 ?_
              have rb59 := digM_rg (bget t q)
              refine zw_iadd zd_MO_pairs_62 ?_
              refine zw_callV (As := [.int (zI ((16 * hf) + (digM (bget t q))))]) (rest := []) (L2 := []) (L' := [zMOd h (t) (ws) (ts) (acc ++ [((16 * hf) + (digM (bget t q))) % 256]) (op) (y) (r) (ct) (wh) (fd) (fr)]) (stk' := []) (c_MO_drop h t ws ts acc op y r ct wh fd fr ((16 * hf) + (digM (bget t q))) (by omega)) [0] [] rfl rfl rfl zcal_MO_drop zl_MO_72 zin_MO_drop zse_MO_drop 0 rfl zRv_MOd rfl (Nat.le_of_ble_eq_true rfl) (Nat.le_of_ble_eq_true rfl) (by omega) (by omega) rfl (Nat.le_of_ble_eq_true rfl) rfl rfl zd_MO_pairs_63 ?_
              refine zw_iload_n 3 rfl zd_MO_pairs_66 ?_
              refine zw_if_lt 74 (by omega) zd_MO_pairs_67 (by decide) (fun c67 => ?_) (fun c67 => ?_)
              · -- 67 -> 74
                refine zw_iload 0 rfl zd_MO_pairs_74 ?_
                refine zw_callS (a := 0) (As := [.int (zI (bget t q))]) (rest := []) (L2 := [zMOd h (t) (ws) (ts) (acc ++ [((16 * hf) + (digM (bget t q))) % 256]) (op) (y) (r) (ct) (wh) (fd) (fr)]) (L' := [zMOd h (t) (ws) (ts) (acc ++ [((16 * hf) + (digM (bget t q))) % 256]) (op) (y) (r) (ct) (wh) (fd) (fr)]) (stk' := [.int (zI (digM (bget t q)))]) (c_MO_digitOf (bget t q) (by omega)) [] [0] rfl rfl rfl zcal_MO_digitOf zl_MO_127 zst_MO_digitOf (Nat.le_of_ble_eq_true rfl) (Nat.le_of_ble_eq_true rfl) (by omega) (by omega) rfl (Nat.le_of_ble_eq_true rfl) rfl rfl zd_MO_pairs_76 ?_
                have rb76 := digM_rg (bget t q)
                refine zw_istore_n (lv' := [(2, .int (zI (digM (bget t q)))), (4, .int (zI (bget t q))), (0, .ref h), (1, .int (zI (z))), (3, .int (zI (q)))]) (Nat.le_of_ble_eq_true rfl) rfl zd_MO_pairs_79 ?_
                refine zw_goto 98 zd_MO_pairs_80 (by decide) ?_
                refine zw_iinc (lv' := [(3, .int (zI (q + 1))), (2, .int (zI (digM (bget t q)))), (4, .int (zI (bget t q))), (0, .ref h), (1, .int (zI (z)))]) 4 rfl (Nat.le_of_ble_eq_true rfl) rfl zd_MO_pairs_98 ?_
                refine zw_goto 6 zd_MO_pairs_101 (by decide) ?_
                refine zw_lpick (lv' := [(0, .ref h), (1, .int (zI (z))), (2, .int (zI (digM (bget t q)))), (3, .int (zI (q + 1)))]) [3, 4, 1, 0] rfl ?_
                refine zw_widen (k' := 0) (n' := 0) (by omega) (by omega) ?_
                first
                | (exfalso; omega)
                | (obtain ⟨k2, rfl, g8⟩ := prS_2nd (by omega) g7 (digV_blank (by omega)) (by omega) (by omega) (by omega) g6
                   have al2 : (acc ++ [((16 * hf) + (digM (bget t q))) % 256]).length = acc.length + 1 := List.length_append
                   exact ih k2 (q + 1) (digM (bget t q)) (acc ++ [((16 * hf) + (digM (bget t q))) % 256]) ⟨by omega, by rw [show (16 * hf + digM (bget t q)) % 256 = 16 * hf + digV (bget t q) by omega]; exact g8, by omega⟩ (by omega))
              · -- 67 -> 70
                refine zw_iconst zd_MO_pairs_70 ?_
                refine zw_goto 79 zd_MO_pairs_71 (by decide) ?_
                refine zw_istore_n (lv' := [(2, .int (zI (-1))), (4, .int (zI (bget t q))), (0, .ref h), (1, .int (zI (z))), (3, .int (zI (q)))]) (Nat.le_of_ble_eq_true rfl) rfl zd_MO_pairs_79 ?_
                refine zw_goto 98 zd_MO_pairs_80 (by decide) ?_
                refine zw_iinc (lv' := [(3, .int (zI (q + 1))), (2, .int (zI (-1))), (4, .int (zI (bget t q))), (0, .ref h), (1, .int (zI (z)))]) 4 rfl (Nat.le_of_ble_eq_true rfl) rfl zd_MO_pairs_98 ?_
                refine zw_goto 6 zd_MO_pairs_101 (by decide) ?_
                refine zw_lpick (lv' := [(0, .ref h), (1, .int (zI (z))), (2, .int (zI (-1))), (3, .int (zI (q + 1)))]) [3, 4, 1, 0] rfl ?_
                refine zw_widen (k' := 0) (n' := 0) (by omega) (by omega) ?_
                first
                | (exfalso; omega)
                | (obtain ⟨k2, rfl, g8⟩ := prS_2nd (by omega) g7 (digV_blank (by omega)) (by omega) (by omega) (by omega) g6
                   have al2 : (acc ++ [((16 * hf) + (digM (bget t q))) % 256]).length = acc.length + 1 := List.length_append
                   exact ih k2 (q + 1) (-1) (acc ++ [((16 * hf) + (digM (bget t q))) % 256]) ⟨by omega, by rw [show (16 * hf + digM (bget t q)) % 256 = 16 * hf + digV (bget t q) by omega]; exact g8, by omega⟩ (by omega))
        · -- 25 -> 28
          have hq9 : ¬ q < t.length := fun c => by have := bget_rg0 hby (z := q) (by omega); omega
          obtain ⟨rfl, rfl, e9, rfl⟩ := prS_out hq9 g6
          omega
  refine zw_iconst zd_MO_pairs_0 ?_
  refine zw_istore_n (lv' := [(2, .int (zI (-1))), (0, .ref h), (1, .int (zI (z)))]) (Nat.le_of_ble_eq_true rfl) rfl zd_MO_pairs_1 ?_
  refine zw_iload_n 2 rfl zd_MO_pairs_2 ?_
  refine zw_iconst zd_MO_pairs_3 ?_
  refine zw_iadd zd_MO_pairs_4 ?_
  refine zw_istore_n (lv' := [(3, .int (zI (z + 1))), (2, .int (zI (-1))), (0, .ref h), (1, .int (zI (z)))]) (Nat.le_of_ble_eq_true rfl) rfl zd_MO_pairs_5 ?_
  refine zw_lpick (lv' := [(0, .ref h), (1, .int (zI (z))), (2, .int (zI (-1))), (3, .int (zI (z + 1)))]) [2, 3, 1, 0] rfl ?_
  refine zw_widen (k' := 0) (n' := 0) (by omega) (by omega) ?_
  exact lp _ t.length (z + 1) (-1) [] ⟨by simp only [List.length_nil]; omega, hpr, by omega⟩ (Nat.lt_succ_self _)
set_option maxHeartbeats 4000000 in
set_option maxRecDepth 100000 in
theorem c_MO_pairs_bad2 (h : Nat) (t : List Int) (ws : List (Int32 × Int32 × Int32)) (ts : List (List Int)) (op : List Int) (y r ct wh : Int) (fd fr : Nat → Int32) (z : Int) (hz : 0 ≤ z ∧ z < t.length) (hF : ts.flatten.length + t.length < 60000) (hl : ts.length < 16384) (hw : ws.length < 16384) (xs : List Int) (h1 wy E : Int) (hpr : prS t t.length (z + 1) (-1) [] = (xs, h1, wy, E)) (hy : wy = 2) : zCT zy_MO_pairs zm_MO_pairs (0) (0) [.ref h, .int (zI z)] [zMOd h (t) (ws) (ts) ([]) (op) (y) (r) (ct) (wh) (fd) (fr)] (some (.int (zI (-1)))) [zMOd h (t) (ws) (ts) (xs) (op) (2) (((t.length : Nat) : Int)) (ct) (wh) (fd) (fr)] := by
  refine zCT.of [(0, .ref h), (1, .int (zI (z)))] rfl (by decide) rfl (fun h => by first | rfl | cases h) (Nat.le_of_ble_eq_true rfl) (fun X hR => ?_)
  refine zw_fact 0 rfl (fun G w h => zMOd_fact h) (fun mf => ?_)
  obtain ⟨⟨ht1, hby⟩, hw1, ⟨hs1, hs2, hs3⟩, ho1⟩ := mf
  have lp : ∀ (fuel : Nat) (k : Nat) (q : Int) (hf : Int) (acc : List Int), ((((0 < q ∧ q ≤ t.length) ∧ (-1 ≤ hf ∧ hf ≤ 15)) ∧ (acc.length : Int) ≤ q) ∧ prS t k q hf acc = (xs, h1, wy, E) ∧ (t.length : Int) - q ≤ k) → ((t.length : Int) - q).toNat < fuel → zZ X zm_MO_pairs (0) (0) (0) (0) [zMOd h (t) (ws) (ts) (acc) (op) (y) (r) (ct) (wh) (fd) (fr)] 6 [(0, .ref h), (1, .int (zI (z))), (2, .int (zI (hf))), (3, .int (zI (q)))] [] := by
    intro fuel
    induction fuel with
    | zero => intro k q hf acc g0 hm; exact absurd hm (Nat.not_lt_zero _)
    | succ fuel ih =>
      intro k q hf acc g0 hm
      obtain ⟨⟨⟨q1, q2⟩, q3⟩, g6, g7⟩ := g0
      have al : (ts.flatten ++ acc).length = ts.flatten.length + acc.length := List.length_append
      have dm := digM_rg (bget t q)
      refine zw_aload_n 0 rfl zd_MO_pairs_6 ?_
      refine zw_iload_n 3 rfl zd_MO_pairs_7 ?_
      refine zw_callV (As := [.int (zI (q))]) (rest := []) (L2 := []) (L' := [zMOd h (t) (ws) (ts) (acc) (op) (y) (r) (ct) (wh) (fd) (fr)]) (stk' := [.int (zI (bget t q))]) (c_MO_byteAt h t ws ts acc op y r ct wh fd fr q (by omega)) [0] [] rfl rfl rfl zcal_MO_byteAt zl_MO_51 zin_MO_byteAt zse_MO_byteAt 0 rfl zRv_MOd rfl (Nat.le_of_ble_eq_true rfl) (Nat.le_of_ble_eq_true rfl) (by omega) (by omega) rfl (Nat.le_of_ble_eq_true rfl) rfl rfl zd_MO_pairs_8 ?_
      have rg8 := bget_rg hby q
      refine zw_bipush rfl zd_MO_pairs_11 ?_
      refine zw_icmp_eq 104 (by omega) (by omega) zd_MO_pairs_13 (by decide) (fun c13 => ?_) (fun c13 => ?_)
      · -- 13 -> 104
        have hqi := bget_in (l := t) (z := q) (by omega)
        obtain ⟨rfl, rfl, e9, rfl⟩ := prS_gt (by omega) g7 (by omega) g6
        omega
      · -- 13 -> 16
        refine zw_aload_n 0 rfl zd_MO_pairs_16 ?_
        refine zw_iload_n 3 rfl zd_MO_pairs_17 ?_
        refine zw_callV (As := [.int (zI (q))]) (rest := []) (L2 := []) (L' := [zMOd h (t) (ws) (ts) (acc) (op) (y) (r) (ct) (wh) (fd) (fr)]) (stk' := [.int (zI (bget t q))]) (c_MO_byteAt h t ws ts acc op y r ct wh fd fr q (by omega)) [0] [] rfl rfl rfl zcal_MO_byteAt zl_MO_51 zin_MO_byteAt zse_MO_byteAt 0 rfl zRv_MOd rfl (Nat.le_of_ble_eq_true rfl) (Nat.le_of_ble_eq_true rfl) (by omega) (by omega) rfl (Nat.le_of_ble_eq_true rfl) rfl rfl zd_MO_pairs_18 ?_
        have rg18 := bget_rg hby q
        refine zw_istore (lv' := [(4, .int (zI (bget t q))), (0, .ref h), (1, .int (zI (z))), (2, .int (zI (hf))), (3, .int (zI (q)))]) (Nat.le_of_ble_eq_true rfl) rfl zd_MO_pairs_21 ?_
        refine zw_iload 0 rfl zd_MO_pairs_23 ?_
        refine zw_if_ge 38 (by omega) zd_MO_pairs_25 (by decide) (fun c25 => ?_) (fun c25 => ?_)
        · -- 25 -> 38
          have hqi := bget_in (l := t) (z := q) (by omega)
          refine zw_iload 0 rfl zd_MO_pairs_38 ?_
          refine zw_callS (a := 0) (As := [.int (zI (bget t q))]) (rest := []) (L2 := [zMOd h (t) (ws) (ts) (acc) (op) (y) (r) (ct) (wh) (fd) (fr)]) (L' := [zMOd h (t) (ws) (ts) (acc) (op) (y) (r) (ct) (wh) (fd) (fr)]) (stk' := [.int (zI (digM (bget t q)))]) (c_MO_digitOf (bget t q) (by omega)) [] [0] rfl rfl rfl zcal_MO_digitOf zl_MO_127 zst_MO_digitOf (Nat.le_of_ble_eq_true rfl) (Nat.le_of_ble_eq_true rfl) (by omega) (by omega) rfl (Nat.le_of_ble_eq_true rfl) rfl rfl zd_MO_pairs_40 ?_
          have rb40 := digM_rg (bget t q)
          refine zw_bipush rfl zd_MO_pairs_43 ?_
          refine zw_icmp_ge 83 (by omega) (by omega) zd_MO_pairs_45 (by decide) (fun c45 => ?_) (fun c45 => ?_)
          · -- 45 -> 83
            refine zw_iload 0 rfl zd_MO_pairs_83 ?_
            refine zw_callS (a := 0) (As := [.int (zI (bget t q))]) (rest := []) (L2 := [zMOd h (t) (ws) (ts) (acc) (op) (y) (r) (ct) (wh) (fd) (fr)]) (L' := [zMOd h (t) (ws) (ts) (acc) (op) (y) (r) (ct) (wh) (fd) (fr)]) (stk' := [.int (zI (bI (sBlank (bget t q))))]) (c_MO_isBlank (bget t q) (by omega)) [] [0] rfl rfl rfl zcal_MO_isBlank zl_MO_44 zst_MO_isBlank (Nat.le_of_ble_eq_true rfl) (Nat.le_of_ble_eq_true rfl) (by omega) (by omega) rfl (Nat.le_of_ble_eq_true rfl) rfl rfl zd_MO_pairs_85 ?_
            have rb85 := bI_rg (sBlank (bget t q))
            refine zw_if_ne 98 (by omega) zd_MO_pairs_88 (by decide) (fun c88 => ?_) (fun c88 => ?_)
            · -- 88 -> 98
              refine zw_iinc (lv' := [(3, .int (zI (q + 1))), (4, .int (zI (bget t q))), (0, .ref h), (1, .int (zI (z))), (2, .int (zI (hf)))]) 4 rfl (Nat.le_of_ble_eq_true rfl) rfl zd_MO_pairs_98 ?_
              refine zw_goto 6 zd_MO_pairs_101 (by decide) ?_
              refine zw_lpick (lv' := [(0, .ref h), (1, .int (zI (z))), (2, .int (zI (hf))), (3, .int (zI (q + 1)))]) [2, 3, 4, 0] rfl ?_
              refine zw_widen (k' := 0) (n' := 0) (by omega) (by omega) ?_
              obtain ⟨k2, rfl, g8⟩ := prS_blank (by omega) g7 (by omega) (zbI1 (by omega)) g6
              exact ih k2 (q + 1) hf acc ⟨by omega, g8, by omega⟩ (by omega)
            · -- 88 -> 91
              obtain ⟨rfl, rfl, e9, rfl⟩ := prS_bad (by omega) g7 (by omega) (zbI0 (by omega)) (by omega) g6
              omega
          · -- 45 -> 48
            refine zw_iload_n 3 rfl zd_MO_pairs_48 ?_
            refine zw_if_lt 66 (by omega) zd_MO_pairs_49 (by decide) (fun c49 => ?_) (fun c49 => ?_)
            · -- 49 -> 66
              refine zw_iload_n 3 rfl zd_MO_pairs_66 ?_
              refine zw_if_lt 74 (by omega) zd_MO_pairs_67 (by decide) (fun c67 => ?_) (fun c67 => ?_)
              · -- 67 -> 74
                refine zw_iload 0 rfl zd_MO_pairs_74 ?_
                refine zw_callS (a := 0) (As := [.int (zI (bget t q))]) (rest := []) (L2 := [zMOd h (t) (ws) (ts) (acc) (op) (y) (r) (ct) (wh) (fd) (fr)]) (L' := [zMOd h (t) (ws) (ts) (acc) (op) (y) (r) (ct) (wh) (fd) (fr)]) (stk' := [.int (zI (digM (bget t q)))]) (c_MO_digitOf (bget t q) (by omega)) [] [0] rfl rfl rfl zcal_MO_digitOf zl_MO_127 zst_MO_digitOf (Nat.le_of_ble_eq_true rfl) (Nat.le_of_ble_eq_true rfl) (by omega) (by omega) rfl (Nat.le_of_ble_eq_true rfl) rfl rfl zd_MO_pairs_76 ?_
                have rb76 := digM_rg (bget t q)
                refine zw_istore_n (lv' := [(2, .int (zI (digM (bget t q)))), (4, .int (zI (bget t q))), (0, .ref h), (1, .int (zI (z))), (3, .int (zI (q)))]) (Nat.le_of_ble_eq_true rfl) rfl zd_MO_pairs_79 ?_
                refine zw_goto 98 zd_MO_pairs_80 (by decide) ?_
                refine zw_iinc (lv' := [(3, .int (zI (q + 1))), (2, .int (zI (digM (bget t q)))), (4, .int (zI (bget t q))), (0, .ref h), (1, .int (zI (z)))]) 4 rfl (Nat.le_of_ble_eq_true rfl) rfl zd_MO_pairs_98 ?_
                refine zw_goto 6 zd_MO_pairs_101 (by decide) ?_
                refine zw_lpick (lv' := [(0, .ref h), (1, .int (zI (z))), (2, .int (zI (digM (bget t q)))), (3, .int (zI (q + 1)))]) [3, 4, 1, 0] rfl ?_
                refine zw_widen (k' := 0) (n' := 0) (by omega) (by omega) ?_
                first
                | (exfalso; omega)
                | (obtain ⟨k2, rfl, g8⟩ := prS_1st (by omega) g7 (digV_blank (by omega)) (by omega) (by omega) (by omega) g6
                   exact ih k2 (q + 1) (digM (bget t q)) acc ⟨by omega, by rw [show digM (bget t q) = digV (bget t q) by omega]; exact g8, by omega⟩ (by omega))
              · -- 67 -> 70
                refine zw_iconst zd_MO_pairs_70 ?_
                refine zw_goto 79 zd_MO_pairs_71 (by decide) ?_
                refine zw_istore_n (lv' := [(2, .int (zI (-1))), (4, .int (zI (bget t q))), (0, .ref h), (1, .int (zI (z))), (3, .int (zI (q)))]) (Nat.le_of_ble_eq_true rfl) rfl zd_MO_pairs_79 ?_
                refine zw_goto 98 zd_MO_pairs_80 (by decide) ?_
                refine zw_iinc (lv' := [(3, .int (zI (q + 1))), (2, .int (zI (-1))), (4, .int (zI (bget t q))), (0, .ref h), (1, .int (zI (z)))]) 4 rfl (Nat.le_of_ble_eq_true rfl) rfl zd_MO_pairs_98 ?_
                refine zw_goto 6 zd_MO_pairs_101 (by decide) ?_
                refine zw_lpick (lv' := [(0, .ref h), (1, .int (zI (z))), (2, .int (zI (-1))), (3, .int (zI (q + 1)))]) [3, 4, 1, 0] rfl ?_
                refine zw_widen (k' := 0) (n' := 0) (by omega) (by omega) ?_
                first
                | (exfalso; omega)
                | (obtain ⟨k2, rfl, g8⟩ := prS_1st (by omega) g7 (digV_blank (by omega)) (by omega) (by omega) (by omega) g6
                   exact ih k2 (q + 1) (-1) acc ⟨by omega, by rw [show -1 = digV (bget t q) by omega]; exact g8, by omega⟩ (by omega))
            · -- 49 -> 52
              refine zw_aload_n 1 rfl zd_MO_pairs_52 ?_
              refine zw_bipush rfl zd_MO_pairs_53 ?_
              refine zw_iload_n 3 rfl zd_MO_pairs_55 ?_
              refine zw_imul zd_MO_pairs_56 ?_
              refine zw_iload 0 rfl zd_MO_pairs_57 ?_
              refine zw_callS (a := 0) (As := [.int (zI (bget t q))]) (rest := [.int (zI (16 * hf)), .ref h]) (L2 := [zMOd h (t) (ws) (ts) (acc) (op) (y) (r) (ct) (wh) (fd) (fr)]) (L' := [zMOd h (t) (ws) (ts) (acc) (op) (y) (r) (ct) (wh) (fd) (fr)]) (stk' := [.int (zI (digM (bget t q))), .int (zI (16 * hf)), .ref h]) (c_MO_digitOf (bget t q) (by omega)) [] [0] rfl rfl rfl zcal_MO_digitOf zl_MO_127 zst_MO_digitOf (Nat.le_of_ble_eq_true rfl) (Nat.le_of_ble_eq_true rfl) (by omega) (by omega) rfl (Nat.le_of_ble_eq_true rfl) rfl rfl zd_MO_pairs_59 ?_
              have rb59 := digM_rg (bget t q)
              refine zw_iadd zd_MO_pairs_62 ?_
              refine zw_callV (As := [.int (zI ((16 * hf) + (digM (bget t q))))]) (rest := []) (L2 := []) (L' := [zMOd h (t) (ws) (ts) (acc ++ [((16 * hf) + (digM (bget t q))) % 256]) (op) (y) (r) (ct) (wh) (fd) (fr)]) (stk' := []) (c_MO_drop h t ws ts acc op y r ct wh fd fr ((16 * hf) + (digM (bget t q))) (by omega)) [0] [] rfl rfl rfl zcal_MO_drop zl_MO_72 zin_MO_drop zse_MO_drop 0 rfl zRv_MOd rfl (Nat.le_of_ble_eq_true rfl) (Nat.le_of_ble_eq_true rfl) (by omega) (by omega) rfl (Nat.le_of_ble_eq_true rfl) rfl rfl zd_MO_pairs_63 ?_
              refine zw_iload_n 3 rfl zd_MO_pairs_66 ?_
              refine zw_if_lt 74 (by omega) zd_MO_pairs_67 (by decide) (fun c67 => ?_) (fun c67 => ?_)
              · -- 67 -> 74
                refine zw_iload 0 rfl zd_MO_pairs_74 ?_
                refine zw_callS (a := 0) (As := [.int (zI (bget t q))]) (rest := []) (L2 := [zMOd h (t) (ws) (ts) (acc ++ [((16 * hf) + (digM (bget t q))) % 256]) (op) (y) (r) (ct) (wh) (fd) (fr)]) (L' := [zMOd h (t) (ws) (ts) (acc ++ [((16 * hf) + (digM (bget t q))) % 256]) (op) (y) (r) (ct) (wh) (fd) (fr)]) (stk' := [.int (zI (digM (bget t q)))]) (c_MO_digitOf (bget t q) (by omega)) [] [0] rfl rfl rfl zcal_MO_digitOf zl_MO_127 zst_MO_digitOf (Nat.le_of_ble_eq_true rfl) (Nat.le_of_ble_eq_true rfl) (by omega) (by omega) rfl (Nat.le_of_ble_eq_true rfl) rfl rfl zd_MO_pairs_76 ?_
                have rb76 := digM_rg (bget t q)
                refine zw_istore_n (lv' := [(2, .int (zI (digM (bget t q)))), (4, .int (zI (bget t q))), (0, .ref h), (1, .int (zI (z))), (3, .int (zI (q)))]) (Nat.le_of_ble_eq_true rfl) rfl zd_MO_pairs_79 ?_
                refine zw_goto 98 zd_MO_pairs_80 (by decide) ?_
                refine zw_iinc (lv' := [(3, .int (zI (q + 1))), (2, .int (zI (digM (bget t q)))), (4, .int (zI (bget t q))), (0, .ref h), (1, .int (zI (z)))]) 4 rfl (Nat.le_of_ble_eq_true rfl) rfl zd_MO_pairs_98 ?_
                refine zw_goto 6 zd_MO_pairs_101 (by decide) ?_
                refine zw_lpick (lv' := [(0, .ref h), (1, .int (zI (z))), (2, .int (zI (digM (bget t q)))), (3, .int (zI (q + 1)))]) [3, 4, 1, 0] rfl ?_
                refine zw_widen (k' := 0) (n' := 0) (by omega) (by omega) ?_
                first
                | (exfalso; omega)
                | (obtain ⟨k2, rfl, g8⟩ := prS_2nd (by omega) g7 (digV_blank (by omega)) (by omega) (by omega) (by omega) g6
                   have al2 : (acc ++ [((16 * hf) + (digM (bget t q))) % 256]).length = acc.length + 1 := List.length_append
                   exact ih k2 (q + 1) (digM (bget t q)) (acc ++ [((16 * hf) + (digM (bget t q))) % 256]) ⟨by omega, by rw [show (16 * hf + digM (bget t q)) % 256 = 16 * hf + digV (bget t q) by omega]; exact g8, by omega⟩ (by omega))
              · -- 67 -> 70
                refine zw_iconst zd_MO_pairs_70 ?_
                refine zw_goto 79 zd_MO_pairs_71 (by decide) ?_
                refine zw_istore_n (lv' := [(2, .int (zI (-1))), (4, .int (zI (bget t q))), (0, .ref h), (1, .int (zI (z))), (3, .int (zI (q)))]) (Nat.le_of_ble_eq_true rfl) rfl zd_MO_pairs_79 ?_
                refine zw_goto 98 zd_MO_pairs_80 (by decide) ?_
                refine zw_iinc (lv' := [(3, .int (zI (q + 1))), (2, .int (zI (-1))), (4, .int (zI (bget t q))), (0, .ref h), (1, .int (zI (z)))]) 4 rfl (Nat.le_of_ble_eq_true rfl) rfl zd_MO_pairs_98 ?_
                refine zw_goto 6 zd_MO_pairs_101 (by decide) ?_
                refine zw_lpick (lv' := [(0, .ref h), (1, .int (zI (z))), (2, .int (zI (-1))), (3, .int (zI (q + 1)))]) [3, 4, 1, 0] rfl ?_
                refine zw_widen (k' := 0) (n' := 0) (by omega) (by omega) ?_
                first
                | (exfalso; omega)
                | (obtain ⟨k2, rfl, g8⟩ := prS_2nd (by omega) g7 (digV_blank (by omega)) (by omega) (by omega) (by omega) g6
                   have al2 : (acc ++ [((16 * hf) + (digM (bget t q))) % 256]).length = acc.length + 1 := List.length_append
                   exact ih k2 (q + 1) (-1) (acc ++ [((16 * hf) + (digM (bget t q))) % 256]) ⟨by omega, by rw [show (16 * hf + digM (bget t q)) % 256 = 16 * hf + digV (bget t q) by omega]; exact g8, by omega⟩ (by omega))
        · -- 25 -> 28
          have hq9 : ¬ q < t.length := fun c => by have := bget_rg0 hby (z := q) (by omega); omega
          obtain ⟨rfl, rfl, e9, rfl⟩ := prS_out hq9 g6
          refine zw_aload_n 1 rfl zd_MO_pairs_28 ?_
          refine zw_iconst zd_MO_pairs_29 ?_
          refine zw_aload_n 1 rfl zd_MO_pairs_30 ?_
          refine zw_unp (fun G ws h => h) (fun x0 hx0 => ?_)
          obtain ⟨⟨at_, ak, an, ab, aw, ay, af, ad, ar⟩, ft, fk, fn, fb, fo, fy, ff⟩ := x0
          obtain ⟨m1, m2, m3, m4, m5⟩ := hx0
          simp only [List.cons_append, List.nil_append]
          dsimp only at m1 m2 m3 m4 m5
          refine zw_get zc_MO 0 1 rfl (by decide) zf_MO_40 rfl zd_MO_pairs_31 ?_
          refine zw_pack (at0 := zMOd h (t) (ws) (ts) (xs) (op) (y) (r) (ct) (wh) (fd) (fr)) (Ls := [zObj h 6 [.ref at_, .int (zI (((t.length : Nat) : Int))), .int (zI (r)), .int (zI (((ws.length : Nat) : Int))), .ref ak, .ref an, .ref ab, .ref aw, .int (zI (((op.length : Nat) : Int))), .int (zI (((ts.length : Nat) : Int))), .int (zI (((((ts.flatten ++ xs)).length : Nat) : Int))), .ref ay, .ref af, .ref ad, .int (zI (ct)), .int (zI (wh)), .int (zI (y)), .ref ar], zArB at_ (65536) (ft), zArB ak (16384) (fk), zArI an (16384) (fn), zArI ab (16384) (fb), zArI aw (64) (fo), zArB ay (131072) (fy), zArI af (16385) (ff), zArB ad (400) (fd), zArB ar (420) (fr)]) (L2 := []) rfl (fun G w h => ⟨((at_, ak, an, ab, aw, ay, af, ad, ar), ft, fk, fn, fb, fo, fy, ff), ⟨m1, m2, m3, m4, m5⟩, h⟩) ?_
          refine zw_callV (As := [.int (zI (2)), .int (zI (((t.length : Nat) : Int)))]) (rest := []) (L2 := []) (L' := [zMOd h (t) (ws) (ts) (xs) (op) (2) (((t.length : Nat) : Int)) (ct) (wh) (fd) (fr)]) (stk' := [.int (zI (-1))]) (c_MO_fail h t ws ts xs op y r ct wh fd fr 2 (((t.length : Nat) : Int))) [0] [] rfl rfl rfl zcal_MO_fail zl_MO_80 zin_MO_fail zse_MO_fail 0 rfl zRv_MOd rfl (Nat.le_of_ble_eq_true rfl) (Nat.le_of_ble_eq_true rfl) (by omega) (by omega) rfl (Nat.le_of_ble_eq_true rfl) rfl rfl zd_MO_pairs_34 ?_
          exact zw_iret hR (rfl) (rfl) rfl (by omega) (by omega) zd_MO_pairs_37
  refine zw_iconst zd_MO_pairs_0 ?_
  refine zw_istore_n (lv' := [(2, .int (zI (-1))), (0, .ref h), (1, .int (zI (z)))]) (Nat.le_of_ble_eq_true rfl) rfl zd_MO_pairs_1 ?_
  refine zw_iload_n 2 rfl zd_MO_pairs_2 ?_
  refine zw_iconst zd_MO_pairs_3 ?_
  refine zw_iadd zd_MO_pairs_4 ?_
  refine zw_istore_n (lv' := [(3, .int (zI (z + 1))), (2, .int (zI (-1))), (0, .ref h), (1, .int (zI (z)))]) (Nat.le_of_ble_eq_true rfl) rfl zd_MO_pairs_5 ?_
  refine zw_lpick (lv' := [(0, .ref h), (1, .int (zI (z))), (2, .int (zI (-1))), (3, .int (zI (z + 1)))]) [2, 3, 1, 0] rfl ?_
  refine zw_widen (k' := 0) (n' := 0) (by omega) (by omega) ?_
  exact lp _ t.length (z + 1) (-1) [] ⟨by simp only [List.length_nil]; omega, hpr, by omega⟩ (Nat.lt_succ_self _)
set_option maxHeartbeats 4000000 in
set_option maxRecDepth 100000 in
theorem c_MO_pairs_bad3 (h : Nat) (t : List Int) (ws : List (Int32 × Int32 × Int32)) (ts : List (List Int)) (op : List Int) (y r ct wh : Int) (fd fr : Nat → Int32) (z : Int) (hz : 0 ≤ z ∧ z < t.length) (hF : ts.flatten.length + t.length < 60000) (hl : ts.length < 16384) (hw : ws.length < 16384) (xs : List Int) (h1 wy E : Int) (hpr : prS t t.length (z + 1) (-1) [] = (xs, h1, wy, E)) (hy : wy = 3) : zCT zy_MO_pairs zm_MO_pairs (0) (0) [.ref h, .int (zI z)] [zMOd h (t) (ws) (ts) ([]) (op) (y) (r) (ct) (wh) (fd) (fr)] (some (.int (zI (-1)))) [zMOd h (t) (ws) (ts) (xs) (op) (3) (E) (ct) (wh) (fd) (fr)] := by
  refine zCT.of [(0, .ref h), (1, .int (zI (z)))] rfl (by decide) rfl (fun h => by first | rfl | cases h) (Nat.le_of_ble_eq_true rfl) (fun X hR => ?_)
  refine zw_fact 0 rfl (fun G w h => zMOd_fact h) (fun mf => ?_)
  obtain ⟨⟨ht1, hby⟩, hw1, ⟨hs1, hs2, hs3⟩, ho1⟩ := mf
  have lp : ∀ (fuel : Nat) (k : Nat) (q : Int) (hf : Int) (acc : List Int), ((((0 < q ∧ q ≤ t.length) ∧ (-1 ≤ hf ∧ hf ≤ 15)) ∧ (acc.length : Int) ≤ q) ∧ prS t k q hf acc = (xs, h1, wy, E) ∧ (t.length : Int) - q ≤ k) → ((t.length : Int) - q).toNat < fuel → zZ X zm_MO_pairs (0) (0) (0) (0) [zMOd h (t) (ws) (ts) (acc) (op) (y) (r) (ct) (wh) (fd) (fr)] 6 [(0, .ref h), (1, .int (zI (z))), (2, .int (zI (hf))), (3, .int (zI (q)))] [] := by
    intro fuel
    induction fuel with
    | zero => intro k q hf acc g0 hm; exact absurd hm (Nat.not_lt_zero _)
    | succ fuel ih =>
      intro k q hf acc g0 hm
      obtain ⟨⟨⟨q1, q2⟩, q3⟩, g6, g7⟩ := g0
      have al : (ts.flatten ++ acc).length = ts.flatten.length + acc.length := List.length_append
      have dm := digM_rg (bget t q)
      refine zw_aload_n 0 rfl zd_MO_pairs_6 ?_
      refine zw_iload_n 3 rfl zd_MO_pairs_7 ?_
      refine zw_callV (As := [.int (zI (q))]) (rest := []) (L2 := []) (L' := [zMOd h (t) (ws) (ts) (acc) (op) (y) (r) (ct) (wh) (fd) (fr)]) (stk' := [.int (zI (bget t q))]) (c_MO_byteAt h t ws ts acc op y r ct wh fd fr q (by omega)) [0] [] rfl rfl rfl zcal_MO_byteAt zl_MO_51 zin_MO_byteAt zse_MO_byteAt 0 rfl zRv_MOd rfl (Nat.le_of_ble_eq_true rfl) (Nat.le_of_ble_eq_true rfl) (by omega) (by omega) rfl (Nat.le_of_ble_eq_true rfl) rfl rfl zd_MO_pairs_8 ?_
      have rg8 := bget_rg hby q
      refine zw_bipush rfl zd_MO_pairs_11 ?_
      refine zw_icmp_eq 104 (by omega) (by omega) zd_MO_pairs_13 (by decide) (fun c13 => ?_) (fun c13 => ?_)
      · -- 13 -> 104
        have hqi := bget_in (l := t) (z := q) (by omega)
        obtain ⟨rfl, rfl, e9, rfl⟩ := prS_gt (by omega) g7 (by omega) g6
        omega
      · -- 13 -> 16
        refine zw_aload_n 0 rfl zd_MO_pairs_16 ?_
        refine zw_iload_n 3 rfl zd_MO_pairs_17 ?_
        refine zw_callV (As := [.int (zI (q))]) (rest := []) (L2 := []) (L' := [zMOd h (t) (ws) (ts) (acc) (op) (y) (r) (ct) (wh) (fd) (fr)]) (stk' := [.int (zI (bget t q))]) (c_MO_byteAt h t ws ts acc op y r ct wh fd fr q (by omega)) [0] [] rfl rfl rfl zcal_MO_byteAt zl_MO_51 zin_MO_byteAt zse_MO_byteAt 0 rfl zRv_MOd rfl (Nat.le_of_ble_eq_true rfl) (Nat.le_of_ble_eq_true rfl) (by omega) (by omega) rfl (Nat.le_of_ble_eq_true rfl) rfl rfl zd_MO_pairs_18 ?_
        have rg18 := bget_rg hby q
        refine zw_istore (lv' := [(4, .int (zI (bget t q))), (0, .ref h), (1, .int (zI (z))), (2, .int (zI (hf))), (3, .int (zI (q)))]) (Nat.le_of_ble_eq_true rfl) rfl zd_MO_pairs_21 ?_
        refine zw_iload 0 rfl zd_MO_pairs_23 ?_
        refine zw_if_ge 38 (by omega) zd_MO_pairs_25 (by decide) (fun c25 => ?_) (fun c25 => ?_)
        · -- 25 -> 38
          have hqi := bget_in (l := t) (z := q) (by omega)
          refine zw_iload 0 rfl zd_MO_pairs_38 ?_
          refine zw_callS (a := 0) (As := [.int (zI (bget t q))]) (rest := []) (L2 := [zMOd h (t) (ws) (ts) (acc) (op) (y) (r) (ct) (wh) (fd) (fr)]) (L' := [zMOd h (t) (ws) (ts) (acc) (op) (y) (r) (ct) (wh) (fd) (fr)]) (stk' := [.int (zI (digM (bget t q)))]) (c_MO_digitOf (bget t q) (by omega)) [] [0] rfl rfl rfl zcal_MO_digitOf zl_MO_127 zst_MO_digitOf (Nat.le_of_ble_eq_true rfl) (Nat.le_of_ble_eq_true rfl) (by omega) (by omega) rfl (Nat.le_of_ble_eq_true rfl) rfl rfl zd_MO_pairs_40 ?_
          have rb40 := digM_rg (bget t q)
          refine zw_bipush rfl zd_MO_pairs_43 ?_
          refine zw_icmp_ge 83 (by omega) (by omega) zd_MO_pairs_45 (by decide) (fun c45 => ?_) (fun c45 => ?_)
          · -- 45 -> 83
            refine zw_iload 0 rfl zd_MO_pairs_83 ?_
            refine zw_callS (a := 0) (As := [.int (zI (bget t q))]) (rest := []) (L2 := [zMOd h (t) (ws) (ts) (acc) (op) (y) (r) (ct) (wh) (fd) (fr)]) (L' := [zMOd h (t) (ws) (ts) (acc) (op) (y) (r) (ct) (wh) (fd) (fr)]) (stk' := [.int (zI (bI (sBlank (bget t q))))]) (c_MO_isBlank (bget t q) (by omega)) [] [0] rfl rfl rfl zcal_MO_isBlank zl_MO_44 zst_MO_isBlank (Nat.le_of_ble_eq_true rfl) (Nat.le_of_ble_eq_true rfl) (by omega) (by omega) rfl (Nat.le_of_ble_eq_true rfl) rfl rfl zd_MO_pairs_85 ?_
            have rb85 := bI_rg (sBlank (bget t q))
            refine zw_if_ne 98 (by omega) zd_MO_pairs_88 (by decide) (fun c88 => ?_) (fun c88 => ?_)
            · -- 88 -> 98
              refine zw_iinc (lv' := [(3, .int (zI (q + 1))), (4, .int (zI (bget t q))), (0, .ref h), (1, .int (zI (z))), (2, .int (zI (hf)))]) 4 rfl (Nat.le_of_ble_eq_true rfl) rfl zd_MO_pairs_98 ?_
              refine zw_goto 6 zd_MO_pairs_101 (by decide) ?_
              refine zw_lpick (lv' := [(0, .ref h), (1, .int (zI (z))), (2, .int (zI (hf))), (3, .int (zI (q + 1)))]) [2, 3, 4, 0] rfl ?_
              refine zw_widen (k' := 0) (n' := 0) (by omega) (by omega) ?_
              obtain ⟨k2, rfl, g8⟩ := prS_blank (by omega) g7 (by omega) (zbI1 (by omega)) g6
              exact ih k2 (q + 1) hf acc ⟨by omega, g8, by omega⟩ (by omega)
            · -- 88 -> 91
              obtain ⟨rfl, rfl, e9, rfl⟩ := prS_bad (by omega) g7 (by omega) (zbI0 (by omega)) (by omega) g6
              refine zw_aload_n 1 rfl zd_MO_pairs_91 ?_
              refine zw_iconst zd_MO_pairs_92 ?_
              refine zw_iload_n 4 rfl zd_MO_pairs_93 ?_
              refine zw_callV (As := [.int (zI (3)), .int (zI (E))]) (rest := []) (L2 := []) (L' := [zMOd h (t) (ws) (ts) (xs) (op) (3) (E) (ct) (wh) (fd) (fr)]) (stk' := [.int (zI (-1))]) (c_MO_fail h t ws ts xs op y r ct wh fd fr 3 E) [0] [] rfl rfl rfl zcal_MO_fail zl_MO_80 zin_MO_fail zse_MO_fail 0 rfl zRv_MOd rfl (Nat.le_of_ble_eq_true rfl) (Nat.le_of_ble_eq_true rfl) (by omega) (by omega) rfl (Nat.le_of_ble_eq_true rfl) rfl rfl zd_MO_pairs_94 ?_
              exact zw_iret hR (rfl) (rfl) rfl (by omega) (by omega) zd_MO_pairs_97
          · -- 45 -> 48
            refine zw_iload_n 3 rfl zd_MO_pairs_48 ?_
            refine zw_if_lt 66 (by omega) zd_MO_pairs_49 (by decide) (fun c49 => ?_) (fun c49 => ?_)
            · -- 49 -> 66
              refine zw_iload_n 3 rfl zd_MO_pairs_66 ?_
              refine zw_if_lt 74 (by omega) zd_MO_pairs_67 (by decide) (fun c67 => ?_) (fun c67 => ?_)
              · -- 67 -> 74
                refine zw_iload 0 rfl zd_MO_pairs_74 ?_
                refine zw_callS (a := 0) (As := [.int (zI (bget t q))]) (rest := []) (L2 := [zMOd h (t) (ws) (ts) (acc) (op) (y) (r) (ct) (wh) (fd) (fr)]) (L' := [zMOd h (t) (ws) (ts) (acc) (op) (y) (r) (ct) (wh) (fd) (fr)]) (stk' := [.int (zI (digM (bget t q)))]) (c_MO_digitOf (bget t q) (by omega)) [] [0] rfl rfl rfl zcal_MO_digitOf zl_MO_127 zst_MO_digitOf (Nat.le_of_ble_eq_true rfl) (Nat.le_of_ble_eq_true rfl) (by omega) (by omega) rfl (Nat.le_of_ble_eq_true rfl) rfl rfl zd_MO_pairs_76 ?_
                have rb76 := digM_rg (bget t q)
                refine zw_istore_n (lv' := [(2, .int (zI (digM (bget t q)))), (4, .int (zI (bget t q))), (0, .ref h), (1, .int (zI (z))), (3, .int (zI (q)))]) (Nat.le_of_ble_eq_true rfl) rfl zd_MO_pairs_79 ?_
                refine zw_goto 98 zd_MO_pairs_80 (by decide) ?_
                refine zw_iinc (lv' := [(3, .int (zI (q + 1))), (2, .int (zI (digM (bget t q)))), (4, .int (zI (bget t q))), (0, .ref h), (1, .int (zI (z)))]) 4 rfl (Nat.le_of_ble_eq_true rfl) rfl zd_MO_pairs_98 ?_
                refine zw_goto 6 zd_MO_pairs_101 (by decide) ?_
                refine zw_lpick (lv' := [(0, .ref h), (1, .int (zI (z))), (2, .int (zI (digM (bget t q)))), (3, .int (zI (q + 1)))]) [3, 4, 1, 0] rfl ?_
                refine zw_widen (k' := 0) (n' := 0) (by omega) (by omega) ?_
                first
                | (exfalso; omega)
                | (obtain ⟨k2, rfl, g8⟩ := prS_1st (by omega) g7 (digV_blank (by omega)) (by omega) (by omega) (by omega) g6
                   exact ih k2 (q + 1) (digM (bget t q)) acc ⟨by omega, by rw [show digM (bget t q) = digV (bget t q) by omega]; exact g8, by omega⟩ (by omega))
              · -- 67 -> 70
                refine zw_iconst zd_MO_pairs_70 ?_
                refine zw_goto 79 zd_MO_pairs_71 (by decide) ?_
                refine zw_istore_n (lv' := [(2, .int (zI (-1))), (4, .int (zI (bget t q))), (0, .ref h), (1, .int (zI (z))), (3, .int (zI (q)))]) (Nat.le_of_ble_eq_true rfl) rfl zd_MO_pairs_79 ?_
                refine zw_goto 98 zd_MO_pairs_80 (by decide) ?_
                refine zw_iinc (lv' := [(3, .int (zI (q + 1))), (2, .int (zI (-1))), (4, .int (zI (bget t q))), (0, .ref h), (1, .int (zI (z)))]) 4 rfl (Nat.le_of_ble_eq_true rfl) rfl zd_MO_pairs_98 ?_
                refine zw_goto 6 zd_MO_pairs_101 (by decide) ?_
                refine zw_lpick (lv' := [(0, .ref h), (1, .int (zI (z))), (2, .int (zI (-1))), (3, .int (zI (q + 1)))]) [3, 4, 1, 0] rfl ?_
                refine zw_widen (k' := 0) (n' := 0) (by omega) (by omega) ?_
                first
                | (exfalso; omega)
                | (obtain ⟨k2, rfl, g8⟩ := prS_1st (by omega) g7 (digV_blank (by omega)) (by omega) (by omega) (by omega) g6
                   exact ih k2 (q + 1) (-1) acc ⟨by omega, by rw [show -1 = digV (bget t q) by omega]; exact g8, by omega⟩ (by omega))
            · -- 49 -> 52
              refine zw_aload_n 1 rfl zd_MO_pairs_52 ?_
              refine zw_bipush rfl zd_MO_pairs_53 ?_
              refine zw_iload_n 3 rfl zd_MO_pairs_55 ?_
              refine zw_imul zd_MO_pairs_56 ?_
              refine zw_iload 0 rfl zd_MO_pairs_57 ?_
              refine zw_callS (a := 0) (As := [.int (zI (bget t q))]) (rest := [.int (zI (16 * hf)), .ref h]) (L2 := [zMOd h (t) (ws) (ts) (acc) (op) (y) (r) (ct) (wh) (fd) (fr)]) (L' := [zMOd h (t) (ws) (ts) (acc) (op) (y) (r) (ct) (wh) (fd) (fr)]) (stk' := [.int (zI (digM (bget t q))), .int (zI (16 * hf)), .ref h]) (c_MO_digitOf (bget t q) (by omega)) [] [0] rfl rfl rfl zcal_MO_digitOf zl_MO_127 zst_MO_digitOf (Nat.le_of_ble_eq_true rfl) (Nat.le_of_ble_eq_true rfl) (by omega) (by omega) rfl (Nat.le_of_ble_eq_true rfl) rfl rfl zd_MO_pairs_59 ?_
              have rb59 := digM_rg (bget t q)
              refine zw_iadd zd_MO_pairs_62 ?_
              refine zw_callV (As := [.int (zI ((16 * hf) + (digM (bget t q))))]) (rest := []) (L2 := []) (L' := [zMOd h (t) (ws) (ts) (acc ++ [((16 * hf) + (digM (bget t q))) % 256]) (op) (y) (r) (ct) (wh) (fd) (fr)]) (stk' := []) (c_MO_drop h t ws ts acc op y r ct wh fd fr ((16 * hf) + (digM (bget t q))) (by omega)) [0] [] rfl rfl rfl zcal_MO_drop zl_MO_72 zin_MO_drop zse_MO_drop 0 rfl zRv_MOd rfl (Nat.le_of_ble_eq_true rfl) (Nat.le_of_ble_eq_true rfl) (by omega) (by omega) rfl (Nat.le_of_ble_eq_true rfl) rfl rfl zd_MO_pairs_63 ?_
              refine zw_iload_n 3 rfl zd_MO_pairs_66 ?_
              refine zw_if_lt 74 (by omega) zd_MO_pairs_67 (by decide) (fun c67 => ?_) (fun c67 => ?_)
              · -- 67 -> 74
                refine zw_iload 0 rfl zd_MO_pairs_74 ?_
                refine zw_callS (a := 0) (As := [.int (zI (bget t q))]) (rest := []) (L2 := [zMOd h (t) (ws) (ts) (acc ++ [((16 * hf) + (digM (bget t q))) % 256]) (op) (y) (r) (ct) (wh) (fd) (fr)]) (L' := [zMOd h (t) (ws) (ts) (acc ++ [((16 * hf) + (digM (bget t q))) % 256]) (op) (y) (r) (ct) (wh) (fd) (fr)]) (stk' := [.int (zI (digM (bget t q)))]) (c_MO_digitOf (bget t q) (by omega)) [] [0] rfl rfl rfl zcal_MO_digitOf zl_MO_127 zst_MO_digitOf (Nat.le_of_ble_eq_true rfl) (Nat.le_of_ble_eq_true rfl) (by omega) (by omega) rfl (Nat.le_of_ble_eq_true rfl) rfl rfl zd_MO_pairs_76 ?_
                have rb76 := digM_rg (bget t q)
                refine zw_istore_n (lv' := [(2, .int (zI (digM (bget t q)))), (4, .int (zI (bget t q))), (0, .ref h), (1, .int (zI (z))), (3, .int (zI (q)))]) (Nat.le_of_ble_eq_true rfl) rfl zd_MO_pairs_79 ?_
                refine zw_goto 98 zd_MO_pairs_80 (by decide) ?_
                refine zw_iinc (lv' := [(3, .int (zI (q + 1))), (2, .int (zI (digM (bget t q)))), (4, .int (zI (bget t q))), (0, .ref h), (1, .int (zI (z)))]) 4 rfl (Nat.le_of_ble_eq_true rfl) rfl zd_MO_pairs_98 ?_
                refine zw_goto 6 zd_MO_pairs_101 (by decide) ?_
                refine zw_lpick (lv' := [(0, .ref h), (1, .int (zI (z))), (2, .int (zI (digM (bget t q)))), (3, .int (zI (q + 1)))]) [3, 4, 1, 0] rfl ?_
                refine zw_widen (k' := 0) (n' := 0) (by omega) (by omega) ?_
                first
                | (exfalso; omega)
                | (obtain ⟨k2, rfl, g8⟩ := prS_2nd (by omega) g7 (digV_blank (by omega)) (by omega) (by omega) (by omega) g6
                   have al2 : (acc ++ [((16 * hf) + (digM (bget t q))) % 256]).length = acc.length + 1 := List.length_append
                   exact ih k2 (q + 1) (digM (bget t q)) (acc ++ [((16 * hf) + (digM (bget t q))) % 256]) ⟨by omega, by rw [show (16 * hf + digM (bget t q)) % 256 = 16 * hf + digV (bget t q) by omega]; exact g8, by omega⟩ (by omega))
              · -- 67 -> 70
                refine zw_iconst zd_MO_pairs_70 ?_
                refine zw_goto 79 zd_MO_pairs_71 (by decide) ?_
                refine zw_istore_n (lv' := [(2, .int (zI (-1))), (4, .int (zI (bget t q))), (0, .ref h), (1, .int (zI (z))), (3, .int (zI (q)))]) (Nat.le_of_ble_eq_true rfl) rfl zd_MO_pairs_79 ?_
                refine zw_goto 98 zd_MO_pairs_80 (by decide) ?_
                refine zw_iinc (lv' := [(3, .int (zI (q + 1))), (2, .int (zI (-1))), (4, .int (zI (bget t q))), (0, .ref h), (1, .int (zI (z)))]) 4 rfl (Nat.le_of_ble_eq_true rfl) rfl zd_MO_pairs_98 ?_
                refine zw_goto 6 zd_MO_pairs_101 (by decide) ?_
                refine zw_lpick (lv' := [(0, .ref h), (1, .int (zI (z))), (2, .int (zI (-1))), (3, .int (zI (q + 1)))]) [3, 4, 1, 0] rfl ?_
                refine zw_widen (k' := 0) (n' := 0) (by omega) (by omega) ?_
                first
                | (exfalso; omega)
                | (obtain ⟨k2, rfl, g8⟩ := prS_2nd (by omega) g7 (digV_blank (by omega)) (by omega) (by omega) (by omega) g6
                   have al2 : (acc ++ [((16 * hf) + (digM (bget t q))) % 256]).length = acc.length + 1 := List.length_append
                   exact ih k2 (q + 1) (-1) (acc ++ [((16 * hf) + (digM (bget t q))) % 256]) ⟨by omega, by rw [show (16 * hf + digM (bget t q)) % 256 = 16 * hf + digV (bget t q) by omega]; exact g8, by omega⟩ (by omega))
        · -- 25 -> 28
          have hq9 : ¬ q < t.length := fun c => by have := bget_rg0 hby (z := q) (by omega); omega
          obtain ⟨rfl, rfl, e9, rfl⟩ := prS_out hq9 g6
          omega
  refine zw_iconst zd_MO_pairs_0 ?_
  refine zw_istore_n (lv' := [(2, .int (zI (-1))), (0, .ref h), (1, .int (zI (z)))]) (Nat.le_of_ble_eq_true rfl) rfl zd_MO_pairs_1 ?_
  refine zw_iload_n 2 rfl zd_MO_pairs_2 ?_
  refine zw_iconst zd_MO_pairs_3 ?_
  refine zw_iadd zd_MO_pairs_4 ?_
  refine zw_istore_n (lv' := [(3, .int (zI (z + 1))), (2, .int (zI (-1))), (0, .ref h), (1, .int (zI (z)))]) (Nat.le_of_ble_eq_true rfl) rfl zd_MO_pairs_5 ?_
  refine zw_lpick (lv' := [(0, .ref h), (1, .int (zI (z))), (2, .int (zI (-1))), (3, .int (zI (z + 1)))]) [2, 3, 1, 0] rfl ?_
  refine zw_widen (k' := 0) (n' := 0) (by omega) (by omega) ?_
  exact lp _ t.length (z + 1) (-1) [] ⟨by simp only [List.length_nil]; omega, hpr, by omega⟩ (Nat.lt_succ_self _)
set_option maxHeartbeats 4000000 in
set_option maxRecDepth 100000 in
theorem c_MO_open_ok (h : Nat) (t : List Int) (ws : List (Int32 × Int32 × Int32)) (ts : List (List Int)) (op : List Int) (y r ct wh : Int) (fd fr : Nat → Int32) (z : Int) (hw : ws.length < 16384) (ho : op.length < 64) : zCT zy_MO_brace zm_MO_brace (0) (0) [.ref h, .int (zI z), .int (zI (123))] [zMOd h (t) (ws) (ts) ([]) (op) (y) (r) (ct) (wh) (fd) (fr)] (some (.int (zI (z + 1)))) [zMOd h (t) (ws ++ [(zI 6, zI (-1), zI z)]) (ts) ([]) (op ++ [((ws.length : Nat) : Int)]) (y) (r) (ct) (wh) (fd) (fr)] := by
  refine zCT.of [(0, .ref h), (1, .int (zI (z))), (2, .int (zI (123)))] rfl (by decide) rfl (fun h => by first | rfl | cases h) (Nat.le_of_ble_eq_true rfl) (fun X hR => ?_)
  refine zw_fact 0 rfl (fun G w h => zMOd_fact h) (fun mf => ?_)
  obtain ⟨⟨ht1, hby⟩, hw1, ⟨hs1, hs2, hs3⟩, ho1⟩ := mf
  refine zw_iload_n 2 rfl zd_MO_brace_0 ?_
  refine zw_bipush rfl zd_MO_brace_1 ?_
  refine zw_icmp_ne 58 (by omega) (by omega) zd_MO_brace_3 (by decide) (fun c3 => ?_) (fun c3 => ?_)
  · -- 3 -> 58
    omega
  · -- 3 -> 6
    refine zw_aload_n 0 rfl zd_MO_brace_6 ?_
    refine zw_unp (fun G ws h => h) (fun x0 hx0 => ?_)
    obtain ⟨⟨at_, ak, an, ab, aw, ay, af, ad, ar⟩, ft, fk, fn, fb, fo, fy, ff⟩ := x0
    obtain ⟨m1, m2, m3, m4, m5⟩ := hx0
    simp only [List.cons_append, List.nil_append]
    dsimp only at m1 m2 m3 m4 m5
    refine zw_get zc_MO 0 8 rfl (by decide) zf_MO_156 rfl zd_MO_brace_7 ?_
    refine zw_pack (at0 := zMOd h (t) (ws) (ts) ([]) (op) (y) (r) (ct) (wh) (fd) (fr)) (Ls := [zObj h 6 [.ref at_, .int (zI (((t.length : Nat) : Int))), .int (zI (r)), .int (zI (((ws.length : Nat) : Int))), .ref ak, .ref an, .ref ab, .ref aw, .int (zI (((op.length : Nat) : Int))), .int (zI (((ts.length : Nat) : Int))), .int (zI (((((ts.flatten ++ ([]))).length : Nat) : Int))), .ref ay, .ref af, .ref ad, .int (zI (ct)), .int (zI (wh)), .int (zI (y)), .ref ar], zArB at_ (65536) (ft), zArB ak (16384) (fk), zArI an (16384) (fn), zArI ab (16384) (fb), zArI aw (64) (fo), zArB ay (131072) (fy), zArI af (16385) (ff), zArB ad (400) (fd), zArB ar (420) (fr)]) (L2 := []) rfl (fun G w h => ⟨((at_, ak, an, ab, aw, ay, af, ad, ar), ft, fk, fn, fb, fo, fy, ff), ⟨m1, m2, m3, m4, m5⟩, h⟩) ?_
    refine zw_bipush rfl zd_MO_brace_10 ?_
    refine zw_icmp_ne 23 (by omega) (by omega) zd_MO_brace_12 (by decide) (fun c12 => ?_) (fun c12 => ?_)
    · -- 12 -> 23
      refine zw_unp (fun G ws h => h) (fun x0 hx0 => ?_)
      obtain ⟨⟨at_, ak, an, ab, aw, ay, af, ad, ar⟩, ft, fk, fn, fb, fo, fy, ff⟩ := x0
      obtain ⟨m1, m2, m3, m4, m5⟩ := hx0
      simp only [List.cons_append, List.nil_append]
      dsimp only at m1 m2 m3 m4 m5
      refine zw_aload_n 0 rfl zd_MO_brace_23 ?_
      refine zw_get zc_MO 0 7 rfl (by decide) zf_MO_24 rfl zd_MO_brace_24 ?_
      refine zw_aload_n 0 rfl zd_MO_brace_27 ?_
      refine zw_get zc_MO 0 8 rfl (by decide) zf_MO_156 rfl zd_MO_brace_28 ?_
      refine zw_aload_n 0 rfl zd_MO_brace_31 ?_
      refine zw_get zc_MO 0 3 rfl (by decide) zf_MO_61 rfl zd_MO_brace_32 ?_
      refine zw_astI (L' := [zObj h 6 [.ref at_, .int (zI (((t.length : Nat) : Int))), .int (zI (r)), .int (zI (((ws.length : Nat) : Int))), .ref ak, .ref an, .ref ab, .ref aw, .int (zI (((op.length : Nat) : Int))), .int (zI (((ts.length : Nat) : Int))), .int (zI (((((ts.flatten ++ ([]))).length : Nat) : Int))), .ref ay, .ref af, .ref ad, .int (zI (ct)), .int (zI (wh)), .int (zI (y)), .ref ar], zArB at_ (65536) (ft), zArB ak (16384) (fk), zArI an (16384) (fn), zArI ab (16384) (fb), zArI aw (64) (upd fo (((op.length : Nat) : Int)).toNat (zI (((ws.length : Nat) : Int)))), zArB ay (131072) (fy), zArI af (16385) (ff), zArB ad (400) (fd), zArB ar (420) (fr)]) 5 rfl (by omega) (by omega) rfl zd_MO_brace_35 ?_
      refine zw_aload_n 0 rfl zd_MO_brace_36 ?_
      refine zw_dup rfl zd_MO_brace_37 ?_
      refine zw_get zc_MO 0 8 rfl (by decide) zf_MO_156 rfl zd_MO_brace_38 ?_
      refine zw_iconst zd_MO_brace_41 ?_
      refine zw_iadd zd_MO_brace_42 ?_
      refine zw_put (L' := [zObj h 6 [.ref at_, .int (zI (((t.length : Nat) : Int))), .int (zI (r)), .int (zI (((ws.length : Nat) : Int))), .ref ak, .ref an, .ref ab, .ref aw, .int (zI ((((op.length : Nat) : Int)) + 1)), .int (zI (((ts.length : Nat) : Int))), .int (zI (((((ts.flatten ++ ([]))).length : Nat) : Int))), .ref ay, .ref af, .ref ad, .int (zI (ct)), .int (zI (wh)), .int (zI (y)), .ref ar], zArB at_ (65536) (ft), zArB ak (16384) (fk), zArI an (16384) (fn), zArI ab (16384) (fb), zArI aw (64) (upd fo (((op.length : Nat) : Int)).toNat (zI (((ws.length : Nat) : Int)))), zArB ay (131072) (fy), zArI af (16385) (ff), zArB ad (400) (fd), zArB ar (420) (fr)]) zc_MO 0 8 rfl (by decide) zf_MO_156 rfl rfl rfl (Nat.le_of_ble_eq_true rfl) rfl zd_MO_brace_43 ?_
      refine zw_eqL (L' := [zObj h 6 [.ref at_, .int (zI (((t.length : Nat) : Int))), .int (zI (r)), .int (zI (((ws.length : Nat) : Int))), .ref ak, .ref an, .ref ab, .ref aw, .int (zI ((((op ++ [((ws.length : Nat) : Int)]).length : Nat) : Int))), .int (zI (((ts.length : Nat) : Int))), .int (zI (((((ts.flatten ++ ([]))).length : Nat) : Int))), .ref ay, .ref af, .ref ad, .int (zI (ct)), .int (zI (wh)), .int (zI (y)), .ref ar], zArB at_ (65536) (ft), zArB ak (16384) (fk), zArI an (16384) (fn), zArI ab (16384) (fb), zArI aw (64) (upd fo (((op.length : Nat) : Int)).toNat (zI (((ws.length : Nat) : Int)))), zArB ay (131072) (fy), zArI af (16385) (ff), zArB ad (400) (fd), zArB ar (420) (fr)]) (by rw [show (((op ++ [((ws.length : Nat) : Int)]).length : Nat) : Int) = ((op.length : Nat) : Int) + 1 by rw [List.length_append]; rfl]) ?_
      refine zw_pack (at0 := zMOd h (t) (ws) (ts) ([]) (op ++ [((ws.length : Nat) : Int)]) (y) (r) (ct) (wh) (fd) (fr)) (Ls := [zObj h 6 [.ref at_, .int (zI (((t.length : Nat) : Int))), .int (zI (r)), .int (zI (((ws.length : Nat) : Int))), .ref ak, .ref an, .ref ab, .ref aw, .int (zI ((((op ++ [((ws.length : Nat) : Int)]).length : Nat) : Int))), .int (zI (((ts.length : Nat) : Int))), .int (zI (((((ts.flatten ++ ([]))).length : Nat) : Int))), .ref ay, .ref af, .ref ad, .int (zI (ct)), .int (zI (wh)), .int (zI (y)), .ref ar], zArB at_ (65536) (ft), zArB ak (16384) (fk), zArI an (16384) (fn), zArI ab (16384) (fb), zArI aw (64) (upd fo (((op.length : Nat) : Int)).toNat (zI (((ws.length : Nat) : Int)))), zArB ay (131072) (fy), zArI af (16385) (ff), zArB ad (400) (fd), zArB ar (420) (fr)]) (L2 := []) rfl (fun G w h => ⟨((at_, ak, an, ab, aw, ay, af, ad, ar), ft, fk, fn, fb, upd fo (((op.length : Nat) : Int)).toNat (zI (((ws.length : Nat) : Int))), fy, ff), ⟨m1, m2, m3, mopen_add m4 (by omega), m5⟩, h⟩) ?_
      refine zw_aload_n 0 rfl zd_MO_brace_46 ?_
      refine zw_bipush rfl zd_MO_brace_47 ?_
      refine zw_iconst zd_MO_brace_49 ?_
      refine zw_iload_n 1 rfl zd_MO_brace_50 ?_
      refine zw_callV (As := [.int (zI (6)), .int (zI (-1)), .int (zI (z))]) (rest := []) (L2 := []) (L' := [zMOd h (t) (ws ++ [(zI 6, (zI (-1)), (zI (z)))]) (ts) ([]) (op ++ [((ws.length : Nat) : Int)]) (y) (r) (ct) (wh) (fd) (fr)]) (stk' := []) (c_MO_word h t ws ts ([]) (op ++ [((ws.length : Nat) : Int)]) y r ct wh fd fr 6 (zI (-1)) (zI (z)) (by omega) (by omega)) [0] [] rfl rfl rfl zcal_MO_word zl_MO_110 zin_MO_word zse_MO_word 0 rfl zRv_MOd rfl (Nat.le_of_ble_eq_true rfl) (Nat.le_of_ble_eq_true rfl) (by omega) (by omega) rfl (Nat.le_of_ble_eq_true rfl) rfl rfl zd_MO_brace_51 ?_
      refine zw_iload_n 1 rfl zd_MO_brace_54 ?_
      refine zw_iconst zd_MO_brace_55 ?_
      refine zw_iadd zd_MO_brace_56 ?_
      exact zw_iret hR (rfl) (rfl) rfl (by omega) (by omega) zd_MO_brace_57
    · -- 12 -> 15
      omega
set_option maxHeartbeats 4000000 in
set_option maxRecDepth 100000 in
theorem c_MO_open_bad (h : Nat) (t : List Int) (ws : List (Int32 × Int32 × Int32)) (ts : List (List Int)) (op : List Int) (y r ct wh : Int) (fd fr : Nat → Int32) (z : Int) (hw : ws.length < 16384) (ho : ¬ op.length < 64) : zCT zy_MO_brace zm_MO_brace (0) (0) [.ref h, .int (zI z), .int (zI (123))] [zMOd h (t) (ws) (ts) ([]) (op) (y) (r) (ct) (wh) (fd) (fr)] (some (.int (zI (-1)))) [zMOd h (t) (ws) (ts) ([]) (op) (7) (z) (ct) (wh) (fd) (fr)] := by
  refine zCT.of [(0, .ref h), (1, .int (zI (z))), (2, .int (zI (123)))] rfl (by decide) rfl (fun h => by first | rfl | cases h) (Nat.le_of_ble_eq_true rfl) (fun X hR => ?_)
  refine zw_fact 0 rfl (fun G w h => zMOd_fact h) (fun mf => ?_)
  obtain ⟨⟨ht1, hby⟩, hw1, ⟨hs1, hs2, hs3⟩, ho1⟩ := mf
  refine zw_iload_n 2 rfl zd_MO_brace_0 ?_
  refine zw_bipush rfl zd_MO_brace_1 ?_
  refine zw_icmp_ne 58 (by omega) (by omega) zd_MO_brace_3 (by decide) (fun c3 => ?_) (fun c3 => ?_)
  · -- 3 -> 58
    omega
  · -- 3 -> 6
    refine zw_aload_n 0 rfl zd_MO_brace_6 ?_
    refine zw_unp (fun G ws h => h) (fun x0 hx0 => ?_)
    obtain ⟨⟨at_, ak, an, ab, aw, ay, af, ad, ar⟩, ft, fk, fn, fb, fo, fy, ff⟩ := x0
    obtain ⟨m1, m2, m3, m4, m5⟩ := hx0
    simp only [List.cons_append, List.nil_append]
    dsimp only at m1 m2 m3 m4 m5
    refine zw_get zc_MO 0 8 rfl (by decide) zf_MO_156 rfl zd_MO_brace_7 ?_
    refine zw_pack (at0 := zMOd h (t) (ws) (ts) ([]) (op) (y) (r) (ct) (wh) (fd) (fr)) (Ls := [zObj h 6 [.ref at_, .int (zI (((t.length : Nat) : Int))), .int (zI (r)), .int (zI (((ws.length : Nat) : Int))), .ref ak, .ref an, .ref ab, .ref aw, .int (zI (((op.length : Nat) : Int))), .int (zI (((ts.length : Nat) : Int))), .int (zI (((((ts.flatten ++ ([]))).length : Nat) : Int))), .ref ay, .ref af, .ref ad, .int (zI (ct)), .int (zI (wh)), .int (zI (y)), .ref ar], zArB at_ (65536) (ft), zArB ak (16384) (fk), zArI an (16384) (fn), zArI ab (16384) (fb), zArI aw (64) (fo), zArB ay (131072) (fy), zArI af (16385) (ff), zArB ad (400) (fd), zArB ar (420) (fr)]) (L2 := []) rfl (fun G w h => ⟨((at_, ak, an, ab, aw, ay, af, ad, ar), ft, fk, fn, fb, fo, fy, ff), ⟨m1, m2, m3, m4, m5⟩, h⟩) ?_
    refine zw_bipush rfl zd_MO_brace_10 ?_
    refine zw_icmp_ne 23 (by omega) (by omega) zd_MO_brace_12 (by decide) (fun c12 => ?_) (fun c12 => ?_)
    · -- 12 -> 23
      omega
    · -- 12 -> 15
      refine zw_aload_n 0 rfl zd_MO_brace_15 ?_
      refine zw_bipush rfl zd_MO_brace_16 ?_
      refine zw_iload_n 1 rfl zd_MO_brace_18 ?_
      refine zw_callV (As := [.int (zI (7)), .int (zI (z))]) (rest := []) (L2 := []) (L' := [zMOd h (t) (ws) (ts) ([]) (op) (7) (z) (ct) (wh) (fd) (fr)]) (stk' := [.int (zI (-1))]) (c_MO_fail h t ws ts ([]) op y r ct wh fd fr 7 z) [0] [] rfl rfl rfl zcal_MO_fail zl_MO_80 zin_MO_fail zse_MO_fail 0 rfl zRv_MOd rfl (Nat.le_of_ble_eq_true rfl) (Nat.le_of_ble_eq_true rfl) (by omega) (by omega) rfl (Nat.le_of_ble_eq_true rfl) rfl rfl zd_MO_brace_19 ?_
      exact zw_iret hR (rfl) (rfl) rfl (by omega) (by omega) zd_MO_brace_22
set_option maxHeartbeats 4000000 in
set_option maxRecDepth 100000 in
theorem c_MO_close_ok (h : Nat) (t : List Int) (ws : List (Int32 × Int32 × Int32)) (ts : List (List Int)) (op : List Int) (y r ct wh : Int) (fd fr : Nat → Int32) (z : Int) (hw : ws.length < 16384) (ho : op.length ≠ 0) (hox : ∀ x ∈ op, 0 ≤ x ∧ x < ws.length) : zCT zy_MO_brace zm_MO_brace (0) (0) [.ref h, .int (zI z), .int (zI (125))] [zMOd h (t) (ws) (ts) ([]) (op) (y) (r) (ct) (wh) (fd) (fr)] (some (.int (zI (z + 1)))) [zMOd h (t) (wsetN ws (op.getD (op.length - 1) 0) (zI ((ws.length : Nat) : Int)) ++ [(zI 7, zI (op.getD (op.length - 1) 0), zI z)]) (ts) ([]) (op.take (op.length - 1)) (y) (r) (ct) (wh) (fd) (fr)] := by
  refine zCT.of [(0, .ref h), (1, .int (zI (z))), (2, .int (zI (125)))] rfl (by decide) rfl (fun h => by first | rfl | cases h) (Nat.le_of_ble_eq_true rfl) (fun X hR => ?_)
  refine zw_fact 0 rfl (fun G w h => zMOd_fact h) (fun mf => ?_)
  obtain ⟨⟨ht1, hby⟩, hw1, ⟨hs1, hs2, hs3⟩, ho1⟩ := mf
  have hol := hox (op.getD (op.length - 1) 0) (zmem_getD (by omega))
  refine zw_iload_n 2 rfl zd_MO_brace_0 ?_
  refine zw_bipush rfl zd_MO_brace_1 ?_
  refine zw_icmp_ne 58 (by omega) (by omega) zd_MO_brace_3 (by decide) (fun c3 => ?_) (fun c3 => ?_)
  · -- 3 -> 58
    refine zw_aload_n 0 rfl zd_MO_brace_58 ?_
    refine zw_unp (fun G ws h => h) (fun x0 hx0 => ?_)
    obtain ⟨⟨at_, ak, an, ab, aw, ay, af, ad, ar⟩, ft, fk, fn, fb, fo, fy, ff⟩ := x0
    obtain ⟨m1, m2, m3, m4, m5⟩ := hx0
    simp only [List.cons_append, List.nil_append]
    dsimp only at m1 m2 m3 m4 m5
    refine zw_get zc_MO 0 8 rfl (by decide) zf_MO_156 rfl zd_MO_brace_59 ?_
    refine zw_pack (at0 := zMOd h (t) (ws) (ts) ([]) (op) (y) (r) (ct) (wh) (fd) (fr)) (Ls := [zObj h 6 [.ref at_, .int (zI (((t.length : Nat) : Int))), .int (zI (r)), .int (zI (((ws.length : Nat) : Int))), .ref ak, .ref an, .ref ab, .ref aw, .int (zI (((op.length : Nat) : Int))), .int (zI (((ts.length : Nat) : Int))), .int (zI (((((ts.flatten ++ ([]))).length : Nat) : Int))), .ref ay, .ref af, .ref ad, .int (zI (ct)), .int (zI (wh)), .int (zI (y)), .ref ar], zArB at_ (65536) (ft), zArB ak (16384) (fk), zArI an (16384) (fn), zArI ab (16384) (fb), zArI aw (64) (fo), zArB ay (131072) (fy), zArI af (16385) (ff), zArB ad (400) (fd), zArB ar (420) (fr)]) (L2 := []) rfl (fun G w h => ⟨((at_, ak, an, ab, aw, ay, af, ad, ar), ft, fk, fn, fb, fo, fy, ff), ⟨m1, m2, m3, m4, m5⟩, h⟩) ?_
    refine zw_if_ne 72 (by omega) zd_MO_brace_62 (by decide) (fun c62 => ?_) (fun c62 => ?_)
    · -- 62 -> 72
      refine zw_unp (fun G ws h => h) (fun x0 hx0 => ?_)
      obtain ⟨⟨at_, ak, an, ab, aw, ay, af, ad, ar⟩, ft, fk, fn, fb, fo, fy, ff⟩ := x0
      obtain ⟨m1, m2, m3, m4, m5⟩ := hx0
      simp only [List.cons_append, List.nil_append]
      dsimp only at m1 m2 m3 m4 m5
      refine zw_aload_n 0 rfl zd_MO_brace_72 ?_
      refine zw_dup rfl zd_MO_brace_73 ?_
      refine zw_get zc_MO 0 8 rfl (by decide) zf_MO_156 rfl zd_MO_brace_74 ?_
      refine zw_iconst zd_MO_brace_77 ?_
      refine zw_isub zd_MO_brace_78 ?_
      refine zw_put (L' := [zObj h 6 [.ref at_, .int (zI (((t.length : Nat) : Int))), .int (zI (r)), .int (zI (((ws.length : Nat) : Int))), .ref ak, .ref an, .ref ab, .ref aw, .int (zI ((((op.length : Nat) : Int)) - 1)), .int (zI (((ts.length : Nat) : Int))), .int (zI (((((ts.flatten ++ ([]))).length : Nat) : Int))), .ref ay, .ref af, .ref ad, .int (zI (ct)), .int (zI (wh)), .int (zI (y)), .ref ar], zArB at_ (65536) (ft), zArB ak (16384) (fk), zArI an (16384) (fn), zArI ab (16384) (fb), zArI aw (64) (fo), zArB ay (131072) (fy), zArI af (16385) (ff), zArB ad (400) (fd), zArB ar (420) (fr)]) zc_MO 0 8 rfl (by decide) zf_MO_156 rfl rfl rfl (Nat.le_of_ble_eq_true rfl) rfl zd_MO_brace_79 ?_
      refine zw_aload_n 0 rfl zd_MO_brace_82 ?_
      refine zw_get zc_MO 0 5 rfl (by decide) zf_MO_17 rfl zd_MO_brace_83 ?_
      refine zw_aload_n 0 rfl zd_MO_brace_86 ?_
      refine zw_get zc_MO 0 7 rfl (by decide) zf_MO_24 rfl zd_MO_brace_87 ?_
      refine zw_aload_n 0 rfl zd_MO_brace_90 ?_
      refine zw_get zc_MO 0 8 rfl (by decide) zf_MO_156 rfl zd_MO_brace_91 ?_
      refine zw_aldI 5 rfl (by omega) (by omega) zd_MO_brace_94 ?_
      refine zw_topE (mopen_last m4 (by omega)) ?_
      refine zw_aload_n 0 rfl zd_MO_brace_95 ?_
      refine zw_get zc_MO 0 3 rfl (by decide) zf_MO_61 rfl zd_MO_brace_96 ?_
      refine zw_astI (L' := [zObj h 6 [.ref at_, .int (zI (((t.length : Nat) : Int))), .int (zI (r)), .int (zI (((ws.length : Nat) : Int))), .ref ak, .ref an, .ref ab, .ref aw, .int (zI ((((op.length : Nat) : Int)) - 1)), .int (zI (((ts.length : Nat) : Int))), .int (zI (((((ts.flatten ++ ([]))).length : Nat) : Int))), .ref ay, .ref af, .ref ad, .int (zI (ct)), .int (zI (wh)), .int (zI (y)), .ref ar], zArB at_ (65536) (ft), zArB ak (16384) (fk), zArI an (16384) (upd fn (op.getD (op.length - 1) 0).toNat (zI (((ws.length : Nat) : Int)))), zArI ab (16384) (fb), zArI aw (64) (fo), zArB ay (131072) (fy), zArI af (16385) (ff), zArB ad (400) (fd), zArB ar (420) (fr)]) 3 rfl (by omega) (by omega) rfl zd_MO_brace_99 ?_
      refine zw_aload_n 0 rfl zd_MO_brace_100 ?_
      refine zw_bipush rfl zd_MO_brace_101 ?_
      refine zw_aload_n 0 rfl zd_MO_brace_103 ?_
      refine zw_get zc_MO 0 7 rfl (by decide) zf_MO_24 rfl zd_MO_brace_104 ?_
      refine zw_aload_n 0 rfl zd_MO_brace_107 ?_
      refine zw_get zc_MO 0 8 rfl (by decide) zf_MO_156 rfl zd_MO_brace_108 ?_
      refine zw_aldI 5 rfl (by omega) (by omega) zd_MO_brace_111 ?_
      refine zw_topE (mopen_last m4 (by omega)) ?_
      refine zw_eqL (L' := [zObj h 6 [.ref at_, .int (zI (((t.length : Nat) : Int))), .int (zI (r)), .int (zI ((((wsetN ws (op.getD (op.length - 1) 0) (zI ((ws.length : Nat) : Int))).length : Nat) : Int))), .ref ak, .ref an, .ref ab, .ref aw, .int (zI ((((op.take (op.length - 1)).length : Nat) : Int))), .int (zI (((ts.length : Nat) : Int))), .int (zI (((((ts.flatten ++ ([]))).length : Nat) : Int))), .ref ay, .ref af, .ref ad, .int (zI (ct)), .int (zI (wh)), .int (zI (y)), .ref ar], zArB at_ (65536) (ft), zArB ak (16384) (fk), zArI an (16384) (upd fn (op.getD (op.length - 1) 0).toNat (zI (((ws.length : Nat) : Int)))), zArI ab (16384) (fb), zArI aw (64) (fo), zArB ay (131072) (fy), zArI af (16385) (ff), zArB ad (400) (fd), zArB ar (420) (fr)]) (by rw [wsetN_len, show (((op.take (op.length - 1)).length : Nat) : Int) = ((op.length : Nat) : Int) - 1 by rw [List.length_take]; omega]) ?_
      refine zw_pack (at0 := zMOd h (t) (wsetN ws (op.getD (op.length - 1) 0) (zI ((ws.length : Nat) : Int))) (ts) ([]) (op.take (op.length - 1)) (y) (r) (ct) (wh) (fd) (fr)) (Ls := [zObj h 6 [.ref at_, .int (zI (((t.length : Nat) : Int))), .int (zI (r)), .int (zI ((((wsetN ws (op.getD (op.length - 1) 0) (zI ((ws.length : Nat) : Int))).length : Nat) : Int))), .ref ak, .ref an, .ref ab, .ref aw, .int (zI ((((op.take (op.length - 1)).length : Nat) : Int))), .int (zI (((ts.length : Nat) : Int))), .int (zI (((((ts.flatten ++ ([]))).length : Nat) : Int))), .ref ay, .ref af, .ref ad, .int (zI (ct)), .int (zI (wh)), .int (zI (y)), .ref ar], zArB at_ (65536) (ft), zArB ak (16384) (fk), zArI an (16384) (upd fn (op.getD (op.length - 1) 0).toNat (zI (((ws.length : Nat) : Int)))), zArI ab (16384) (fb), zArI aw (64) (fo), zArB ay (131072) (fy), zArI af (16385) (ff), zArB ad (400) (fd), zArB ar (420) (fr)]) (L2 := []) rfl (fun G w h => ⟨((at_, ak, an, ab, aw, ay, af, ad, ar), ft, fk, upd fn (op.getD (op.length - 1) 0).toNat (zI (((ws.length : Nat) : Int))), fb, fo, fy, ff), ⟨m1, mwords_set m2 (by omega), m3, mopen_pop m4, m5⟩, h⟩) ?_
      refine zw_iload_n 1 rfl zd_MO_brace_112 ?_
      refine zw_callV (As := [.int (zI (7)), .int (zI (op.getD (op.length - 1) 0)), .int (zI (z))]) (rest := []) (L2 := []) (L' := [zMOd h (t) ((wsetN ws (op.getD (op.length - 1) 0) (zI ((ws.length : Nat) : Int))) ++ [(zI 7, (zI (op.getD (op.length - 1) 0)), (zI (z)))]) (ts) ([]) (op.take (op.length - 1)) (y) (r) (ct) (wh) (fd) (fr)]) (stk' := []) (c_MO_word h t (wsetN ws (op.getD (op.length - 1) 0) (zI ((ws.length : Nat) : Int))) ts ([]) (op.take (op.length - 1)) y r ct wh fd fr 7 (zI (op.getD (op.length - 1) 0)) (zI (z)) (by omega) (by rw [wsetN_len]; omega)) [0] [] rfl rfl rfl zcal_MO_word zl_MO_110 zin_MO_word zse_MO_word 0 rfl zRv_MOd rfl (Nat.le_of_ble_eq_true rfl) (Nat.le_of_ble_eq_true rfl) (by omega) (by omega) rfl (Nat.le_of_ble_eq_true rfl) rfl rfl zd_MO_brace_113 ?_
      refine zw_iload_n 1 rfl zd_MO_brace_116 ?_
      refine zw_iconst zd_MO_brace_117 ?_
      refine zw_iadd zd_MO_brace_118 ?_
      exact zw_iret hR (rfl) (rfl) rfl (by omega) (by omega) zd_MO_brace_119
    · -- 62 -> 65
      omega
  · -- 3 -> 6
    omega
set_option maxHeartbeats 4000000 in
set_option maxRecDepth 100000 in
theorem c_MO_close_bad (h : Nat) (t : List Int) (ws : List (Int32 × Int32 × Int32)) (ts : List (List Int)) (op : List Int) (y r ct wh : Int) (fd fr : Nat → Int32) (z : Int) (hw : ws.length < 16384) (ho : op.length = 0) : zCT zy_MO_brace zm_MO_brace (0) (0) [.ref h, .int (zI z), .int (zI (125))] [zMOd h (t) (ws) (ts) ([]) (op) (y) (r) (ct) (wh) (fd) (fr)] (some (.int (zI (-1)))) [zMOd h (t) (ws) (ts) ([]) (op) (4) (z) (ct) (wh) (fd) (fr)] := by
  refine zCT.of [(0, .ref h), (1, .int (zI (z))), (2, .int (zI (125)))] rfl (by decide) rfl (fun h => by first | rfl | cases h) (Nat.le_of_ble_eq_true rfl) (fun X hR => ?_)
  refine zw_fact 0 rfl (fun G w h => zMOd_fact h) (fun mf => ?_)
  obtain ⟨⟨ht1, hby⟩, hw1, ⟨hs1, hs2, hs3⟩, ho1⟩ := mf
  refine zw_iload_n 2 rfl zd_MO_brace_0 ?_
  refine zw_bipush rfl zd_MO_brace_1 ?_
  refine zw_icmp_ne 58 (by omega) (by omega) zd_MO_brace_3 (by decide) (fun c3 => ?_) (fun c3 => ?_)
  · -- 3 -> 58
    refine zw_aload_n 0 rfl zd_MO_brace_58 ?_
    refine zw_unp (fun G ws h => h) (fun x0 hx0 => ?_)
    obtain ⟨⟨at_, ak, an, ab, aw, ay, af, ad, ar⟩, ft, fk, fn, fb, fo, fy, ff⟩ := x0
    obtain ⟨m1, m2, m3, m4, m5⟩ := hx0
    simp only [List.cons_append, List.nil_append]
    dsimp only at m1 m2 m3 m4 m5
    refine zw_get zc_MO 0 8 rfl (by decide) zf_MO_156 rfl zd_MO_brace_59 ?_
    refine zw_pack (at0 := zMOd h (t) (ws) (ts) ([]) (op) (y) (r) (ct) (wh) (fd) (fr)) (Ls := [zObj h 6 [.ref at_, .int (zI (((t.length : Nat) : Int))), .int (zI (r)), .int (zI (((ws.length : Nat) : Int))), .ref ak, .ref an, .ref ab, .ref aw, .int (zI (((op.length : Nat) : Int))), .int (zI (((ts.length : Nat) : Int))), .int (zI (((((ts.flatten ++ ([]))).length : Nat) : Int))), .ref ay, .ref af, .ref ad, .int (zI (ct)), .int (zI (wh)), .int (zI (y)), .ref ar], zArB at_ (65536) (ft), zArB ak (16384) (fk), zArI an (16384) (fn), zArI ab (16384) (fb), zArI aw (64) (fo), zArB ay (131072) (fy), zArI af (16385) (ff), zArB ad (400) (fd), zArB ar (420) (fr)]) (L2 := []) rfl (fun G w h => ⟨((at_, ak, an, ab, aw, ay, af, ad, ar), ft, fk, fn, fb, fo, fy, ff), ⟨m1, m2, m3, m4, m5⟩, h⟩) ?_
    refine zw_if_ne 72 (by omega) zd_MO_brace_62 (by decide) (fun c62 => ?_) (fun c62 => ?_)
    · -- 62 -> 72
      omega
    · -- 62 -> 65
      refine zw_aload_n 0 rfl zd_MO_brace_65 ?_
      refine zw_iconst zd_MO_brace_66 ?_
      refine zw_iload_n 1 rfl zd_MO_brace_67 ?_
      refine zw_callV (As := [.int (zI (4)), .int (zI (z))]) (rest := []) (L2 := []) (L' := [zMOd h (t) (ws) (ts) ([]) (op) (4) (z) (ct) (wh) (fd) (fr)]) (stk' := [.int (zI (-1))]) (c_MO_fail h t ws ts ([]) op y r ct wh fd fr 4 z) [0] [] rfl rfl rfl zcal_MO_fail zl_MO_80 zin_MO_fail zse_MO_fail 0 rfl zRv_MOd rfl (Nat.le_of_ble_eq_true rfl) (Nat.le_of_ble_eq_true rfl) (by omega) (by omega) rfl (Nat.le_of_ble_eq_true rfl) rfl rfl zd_MO_brace_68 ?_
      exact zw_iret hR (rfl) (rfl) rfl (by omega) (by omega) zd_MO_brace_71
  · -- 3 -> 6
    omega
