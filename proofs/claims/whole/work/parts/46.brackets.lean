theorem capN_more {n : Nat} (h0 : 0 < n) (a b : Nat) : capN (capN n a) (a + b) = capN n (a + b) := by rw [capN_capN h0, Nat.max_eq_right (Nat.le_add_right a b)]
theorem brS_len {t : List Int} : ∀ (k : Nat) (q d : Int) (acc : List Int) {xs : List Int} {E : Int}, brS t k q d acc = (xs, E) → acc.length ≤ xs.length
  | 0, q, d, acc, xs, E, h => by
    have h : (acc, (-1 : Int)) = (xs, E) := h
    rw [(Prod.mk.inj h).1]
    exact Nat.le_refl _
  | k + 1, q, d, acc, xs, E, h => by
    unfold brS at h
    by_cases c1 : ¬ q < t.length
    · rw [if_pos c1] at h
      rw [(Prod.mk.inj h).1]; exact Nat.le_refl _
    · rw [if_neg c1] at h
      by_cases c2 : bget t q = 92
      · rw [if_pos c2] at h
        have := brS_len k _ _ _ h
        rw [List.length_append] at this
        omega
      · rw [if_neg c2] at h
        generalize d + (if bget t q = 40 then 1 else if bget t q = 41 then -1 else 0) = d' at h
        by_cases c3 : d' = 0
        · rw [if_pos c3] at h
          rw [(Prod.mk.inj h).1]; exact Nat.le_refl _
        · rw [if_neg c3] at h
          have := brS_len k _ _ _ h
          rw [List.length_append] at this
          omega
set_option maxHeartbeats 4000000 in
set_option maxRecDepth 100000 in
theorem c_PW_bracket_ok (h ht hl hs ho hn : Nat) (t : List Int) (nt : Nat) (p0 w0 r0 : Int) (ws : List (Int32 × Int32 × Int32)) (nw : Nat) (ts : List (List Int)) (nb n : Nat) (hp : 0 ≤ p0 ∧ p0 < t.length) (hF : ts.flatten.length + t.length < 60000) (xs : List Int) (E : Int) (hbr : brS t t.length (p0 + 1) 1 [] = (xs, E)) (hE : 0 ≤ E) (hw : ws.length < 16384) (hs1 : ts.length < 16384) : zCT zy_PW_cutBracketText zm_PW_cutBracketText ((capN nb (ts.flatten.length + xs.length) - nb) + 4 * (capN n (addT ts xs).length - n) + 3 * (capN nw (ws.length + 1) - nw)) (2 * (capN nb (ts.flatten.length + xs.length) - nb) + 8 * (capN n (addT ts xs).length - n) + 6 * (capN nw (ws.length + 1) - nw)) [.ref h] [zObj h 0 [.ref ht, .ref hl, .ref hs, .ref ho, .ref hn, .int (zI (p0)), .int (zI (w0)), .int (zI (r0))], zBRow ht (t) (nt), zWL hl (ws) (nw), zTS hs (ts) ([]) (nb) (n)] (none) [zObj h 0 [.ref ht, .ref hl, .ref hs, .ref ho, .ref hn, .int (zI (E + 1)), .int (zI (w0)), .int (zI (r0))], zBRow ht (t) (nt), zWL hl (ws ++ [(zI 5, zI ((ixOf ts xs : Nat) : Int), zI p0)]) (capN nw (ws.length + 1)), zTS hs (addT ts xs) ([]) (capN nb (ts.flatten.length + xs.length)) (capN n (addT ts xs).length)] := by
  refine zCT.of [(0, .ref h)] rfl (by decide) rfl (fun h => by first | rfl | cases h) (Nat.le_of_ble_eq_true rfl) (fun X hR => ?_)
  refine zw_fact 1 rfl (fun G w h => zBR_fact h) (fun hbr => ?_)
  obtain ⟨⟨ht1, ht2, ht3⟩, hby⟩ := hbr
  refine zw_fact 2 rfl (fun G w h => zWL_fact h) (fun hwl => ?_)
  refine zw_fact 3 rfl (fun G w h => zTS_fact h) (fun hts => ?_)
  obtain ⟨hts1, hts2, hts3, hts4⟩ := hts
  have mW := capN_ge nw (ws.length + 1)
  have mN := capN_ge n (addT ts xs).length
  have mX := capN_ge nb (ts.flatten.length + xs.length)
  have lp : ∀ (fuel : Nat) (kk : Nat) (q : Int) (d : Int) (acc : List Int) (s : Int), (((0 ≤ s ∧ s < q ∧ q ≤ t.length) ∧ (1 ≤ d ∧ d ≤ q) ∧ (acc.length : Int) ≤ q ∧ (kk : Int) + s = t.length) ∧ brS t kk q d acc = (xs, E)) → kk < fuel → zZ X zm_PW_cutBracketText ((capN nb (ts.flatten.length + xs.length) - nb) + 4 * (capN n (addT ts xs).length - n) + 3 * (capN nw (ws.length + 1) - nw)) (2 * (capN nb (ts.flatten.length + xs.length) - nb) + 8 * (capN n (addT ts xs).length - n) + 6 * (capN nw (ws.length + 1) - nw)) (capN nb (ts.flatten.length + acc.length) - nb) (2 * (capN nb (ts.flatten.length + acc.length) - nb)) [zObj h 0 [.ref ht, .ref hl, .ref hs, .ref ho, .ref hn, .int (zI (q)), .int (zI (w0)), .int (zI (r0))], zBRow ht (t) (nt), zWL hl (ws) (nw), zTS hs (ts) (acc) (capN nb (ts.flatten.length + acc.length)) (n)] 28 [(0, .ref h), (1, .int (zI (p0))), (2, .int (zI (((t.length : Nat) : Int)))), (3, .int (zI (d))), (4, .int (zI (s)))] [] := by
    intro fuel
    induction fuel with
    | zero => intro kk q d acc s g0 hm; exact absurd hm (Nat.not_lt_zero _)
    | succ fuel ih =>
      intro kk q d acc s g0 hm
      obtain ⟨⟨i1, i2, i3, i4⟩, i5⟩ := g0
      obtain ⟨k, rfl⟩ : ∃ k, kk = k + 1 := ⟨kk - 1, by omega⟩
      have m1 := capN_ge nb (ts.flatten.length + acc.length)
      have m4 := capN_cov (n := nb) (by omega) (ts.flatten.length + acc.length)
      have cc : (ts.flatten ++ acc).length = ts.flatten.length + acc.length := List.length_append
      have m5 := brS_len (t := t) (k + 1) _ _ _ i5
      have m6 := capN_mono nb (show ts.flatten.length + acc.length ≤ ts.flatten.length + xs.length by omega)
      refine zw_iload 4 rfl zd_PW_cutBracketText_28 ?_
      refine zw_iload_n 2 rfl zd_PW_cutBracketText_30 ?_
      refine zw_icmp_ge 151 (by omega) (by omega) zd_PW_cutBracketText_31 (by decide) (fun c31 => ?_) (fun c31 => ?_)
      · -- 31 -> 151
        exact absurd c31 (by omega)
      · -- 31 -> 34
        refine zw_aload_n 0 rfl zd_PW_cutBracketText_34 ?_
        refine zw_get zc_PW 0 5 rfl (by decide) zf_PW_46 rfl zd_PW_cutBracketText_35 ?_
        refine zw_iload_n 2 rfl zd_PW_cutBracketText_38 ?_
        refine zw_icmp_ge 151 (by omega) (by omega) zd_PW_cutBracketText_39 (by decide) (fun c39 => ?_) (fun c39 => ?_)
        · -- 39 -> 151
          have e0 : (acc, (-1 : Int)) = (xs, E) := by rw [← i5]; show _ = if _ then _ else _; rw [if_pos (by omega)]
          obtain ⟨e1, e2⟩ := Prod.mk.inj e0
          exact absurd hE (by omega)
        · -- 39 -> 42
          refine zw_aload_n 0 rfl zd_PW_cutBracketText_42 ?_
          refine zw_get zc_PW 0 0 rfl (by decide) zf_PW_10 rfl zd_PW_cutBracketText_43 ?_
          refine zw_aload_n 0 rfl zd_PW_cutBracketText_46 ?_
          refine zw_get zc_PW 0 5 rfl (by decide) zf_PW_46 rfl zd_PW_cutBracketText_47 ?_
          refine zw_callV (As := [.int (zI (q))]) (rest := []) (L2 := [zObj h 0 [.ref ht, .ref hl, .ref hs, .ref ho, .ref hn, .int (zI (q)), .int (zI (w0)), .int (zI (r0))], zWL hl (ws) (nw), zTS hs (ts) (acc) (capN nb (ts.flatten.length + acc.length)) (n)]) (L' := [zBRow ht (t) (nt), zObj h 0 [.ref ht, .ref hl, .ref hs, .ref ho, .ref hn, .int (zI (q)), .int (zI (w0)), .int (zI (r0))], zWL hl (ws) (nw), zTS hs (ts) (acc) (capN nb (ts.flatten.length + acc.length)) (n)]) (stk' := [.int (zI (bget t q))]) (c_BR_get ht (t) (nt) (q) (by omega)) [1] [0, 2, 3] rfl rfl rfl zcal_BR_get zl_PW_106 zin_BR_get zse_BR_get 0 rfl zRv_BRow rfl (Nat.le_of_ble_eq_true rfl) (Nat.le_of_ble_eq_true rfl) (by omega) (by omega) rfl (Nat.le_of_ble_eq_true rfl) rfl rfl zd_PW_cutBracketText_50 ?_
          have rg50 := bget_rg hby (q)
          refine zw_istore (lv' := [(5, .int (zI (bget t q))), (0, .ref h), (1, .int (zI (p0))), (2, .int (zI (((t.length : Nat) : Int)))), (3, .int (zI (d))), (4, .int (zI (s)))]) (Nat.le_of_ble_eq_true rfl) rfl zd_PW_cutBracketText_53 ?_
          refine zw_iload_n 4 rfl zd_PW_cutBracketText_55 ?_
          refine zw_iload 0 rfl zd_PW_cutBracketText_56 ?_
          refine zw_bipush rfl zd_PW_cutBracketText_58 ?_
          refine zw_icmp_ne 67 (by omega) (by omega) zd_PW_cutBracketText_60 (by decide) (fun c60 => ?_) (fun c60 => ?_)
          · -- 60 -> 67
            refine zw_iload 0 rfl zd_PW_cutBracketText_67 ?_
            refine zw_bipush rfl zd_PW_cutBracketText_69 ?_
            refine zw_icmp_ne 78 (by omega) (by omega) zd_PW_cutBracketText_71 (by decide) (fun c71 => ?_) (fun c71 => ?_)
            · -- 71 -> 78
              refine zw_iconst zd_PW_cutBracketText_78 ?_
              refine zw_iadd zd_PW_cutBracketText_79 ?_
              refine zw_istore_n (lv' := [(3, .int (zI (d + 0))), (5, .int (zI (bget t q))), (0, .ref h), (1, .int (zI (p0))), (2, .int (zI (((t.length : Nat) : Int)))), (4, .int (zI (s)))]) (Nat.le_of_ble_eq_true rfl) rfl zd_PW_cutBracketText_80 ?_
              refine zw_iload_n 0 rfl zd_PW_cutBracketText_81 ?_
              refine zw_if_ne 88 (by omega) zd_PW_cutBracketText_82 (by decide) (fun c82 => ?_) (fun c82 => ?_)
              · -- 82 -> 88
                refine zw_iload 1 rfl zd_PW_cutBracketText_88 ?_
                refine zw_bipush rfl zd_PW_cutBracketText_90 ?_
                refine zw_icmp_ne 102 (by omega) (by omega) zd_PW_cutBracketText_92 (by decide) (fun c92 => ?_) (fun c92 => ?_)
                · -- 92 -> 102
                  refine zw_iload 1 rfl zd_PW_cutBracketText_102 ?_
                  refine zw_callS (a := 0) (As := [.int (zI (bget t q))]) (rest := []) (L2 := [zBRow ht (t) (nt), zObj h 0 [.ref ht, .ref hl, .ref hs, .ref ho, .ref hn, .int (zI (q)), .int (zI (w0)), .int (zI (r0))], zWL hl (ws) (nw), zTS hs (ts) (acc) (capN nb (ts.flatten.length + acc.length)) (n)]) (L' := [zBRow ht (t) (nt), zObj h 0 [.ref ht, .ref hl, .ref hs, .ref ho, .ref hn, .int (zI (q)), .int (zI (w0)), .int (zI (r0))], zWL hl (ws) (nw), zTS hs (ts) (acc) (capN nb (ts.flatten.length + acc.length)) (n)]) (stk' := [.int (zI (bI (sLine (bget t q))))]) (c_PW_isLineEnd (bget t q) (by omega)) [] [0, 1, 2, 3] rfl rfl rfl zcal_PW_isLineEnd zl_PW_138 zst_PW_isLineEnd (Nat.le_of_ble_eq_true rfl) (Nat.le_of_ble_eq_true rfl) (by omega) (by omega) rfl (Nat.le_of_ble_eq_true rfl) rfl rfl zd_PW_cutBracketText_104 ?_
                  have rb104 := bI_rg (sLine (bget t q))
                  refine zw_if_eq 126 (by omega) zd_PW_cutBracketText_107 (by decide) (fun c107 => ?_) (fun c107 => ?_)
                  · -- 107 -> 126
                    have hln : ¬ (bget t q = 10 ∨ bget t q = 13) := of_decide_eq_false (zbI0 (b := sLine (bget t q)) (by omega))
                    have bb := bget_byte hby (z := q) (by omega)
                    have e7 : brS t k (q + 1) (d + 0) (acc ++ [bget t q]) = (xs, E) := by
                      rw [← i5]
                      show _ = if _ then _ else _
                      rw [if_neg (by omega), if_neg (by omega)]; (first | rw [if_pos (show bget t q = 40 by omega)] | rw [if_neg (show ¬ bget t q = 40 by omega), if_pos (show bget t q = 41 by omega)] | rw [if_neg (show ¬ bget t q = 40 by omega), if_neg (show ¬ bget t q = 41 by omega)]); rw [if_neg (by omega), if_neg (show ¬ (bget t q = 13 ∧ bget t (q + 1) = 10) by omega), if_neg (show ¬ bget t q = 13 by omega)]
                    have m8 := brS_len (t := t) k _ _ _ e7
                    rw [List.length_append, List.length_singleton] at m8
                    have m9 := capN_mono nb (show ts.flatten.length + acc.length + 1 ≤ ts.flatten.length + xs.length by omega)
                    have e6 := capN_next (n := nb) (by omega) (ts.flatten.length + acc.length)
                    have m7 := capN_ge (capN nb (ts.flatten.length + acc.length)) (ts.flatten.length + acc.length + 1)
                    refine zw_aload_n 2 rfl zd_PW_cutBracketText_126 ?_
                    refine zw_dup rfl zd_PW_cutBracketText_127 ?_
                    refine zw_get zc_PW 1 5 rfl (by decide) zf_PW_46 rfl zd_PW_cutBracketText_128 ?_
                    refine zw_iconst zd_PW_cutBracketText_131 ?_
                    refine zw_iadd zd_PW_cutBracketText_132 ?_
                    refine zw_put (L' := [zBRow ht (t) (nt), zObj h 0 [.ref ht, .ref hl, .ref hs, .ref ho, .ref hn, .int (zI (q + 1)), .int (zI (w0)), .int (zI (r0))], zWL hl (ws) (nw), zTS hs (ts) (acc) (capN nb (ts.flatten.length + acc.length)) (n)]) zc_PW 1 5 rfl (by decide) zf_PW_46 rfl rfl rfl (Nat.le_of_ble_eq_true rfl) rfl zd_PW_cutBracketText_133 ?_
                    refine zw_aload_n 2 rfl zd_PW_cutBracketText_136 ?_
                    refine zw_get zc_PW 1 2 rfl (by decide) zf_PW_26 rfl zd_PW_cutBracketText_137 ?_
                    refine zw_iload 1 rfl zd_PW_cutBracketText_140 ?_
                    refine zw_callV (As := [.int (zI (bget t q))]) (rest := []) (L2 := [zBRow ht (t) (nt), zObj h 0 [.ref ht, .ref hl, .ref hs, .ref ho, .ref hn, .int (zI (q + 1)), .int (zI (w0)), .int (zI (r0))], zWL hl (ws) (nw)]) (L' := [zTS hs (ts) (acc ++ [(bget t q) % 256]) (capN (capN nb (ts.flatten.length + acc.length)) (ts.flatten.length + acc.length + 1)) (n), zBRow ht (t) (nt), zObj h 0 [.ref ht, .ref hl, .ref hs, .ref ho, .ref hn, .int (zI (q + 1)), .int (zI (w0)), .int (zI (r0))], zWL hl (ws) (nw)]) (stk' := []) (c_TS_putC hs (ts) (acc) (capN nb (ts.flatten.length + acc.length)) (n) (bget t q) (ts.flatten.length + acc.length) (cc) (by omega) (by omega)) [3] [0, 1, 2] rfl rfl rfl zcal_TS_put zl_PW_160 zin_TS_put zse_TS_put 0 rfl zRv_TS rfl (Nat.le_of_ble_eq_true rfl) (Nat.le_of_ble_eq_true rfl) (by omega) (by omega) rfl (Nat.le_of_ble_eq_true rfl) rfl rfl zd_PW_cutBracketText_142 ?_
                    refine zw_iinc (lv' := [(4, .int (zI (s + 1))), (3, .int (zI (d + 0))), (5, .int (zI (bget t q))), (0, .ref h), (1, .int (zI (p0))), (2, .int (zI (((t.length : Nat) : Int))))]) 5 rfl (Nat.le_of_ble_eq_true rfl) rfl zd_PW_cutBracketText_145 ?_
                    refine zw_goto 28 zd_PW_cutBracketText_148 (by decide) ?_
                    refine zw_sub (L' := [zObj h 0 [.ref ht, .ref hl, .ref hs, .ref ho, .ref hn, .int (zI (q + 1)), .int (zI (w0)), .int (zI (r0))], zBRow ht (t) (nt), zWL hl (ws) (nw), zTS hs (ts) (acc ++ [(bget t q) % 256]) (capN (capN nb (ts.flatten.length + acc.length)) (ts.flatten.length + acc.length + 1)) (n)]) [2, 1, 3, 0] rfl rfl ?_
                    refine zw_lpick (lv' := [(0, .ref h), (1, .int (zI (p0))), (2, .int (zI (((t.length : Nat) : Int)))), (3, .int (zI (d + 0))), (4, .int (zI (s + 1)))]) [3, 4, 5, 1, 0] rfl ?_
                    refine zw_eqL (L' := [zObj h 0 [.ref ht, .ref hl, .ref hs, .ref ho, .ref hn, .int (zI (q + 1)), .int (zI (w0)), .int (zI (r0))], zBRow ht (t) (nt), zWL hl (ws) (nw), zTS hs (ts) (acc ++ [bget t q]) (capN nb (ts.flatten.length + (acc ++ [bget t q]).length)) (n)]) (by rw [e6, Int.emod_eq_of_lt bb.1 (by omega), List.length_append, List.length_singleton, Nat.add_assoc]) ?_
                    refine zw_widen (k' := capN nb (ts.flatten.length + (acc ++ [bget t q]).length) - nb) (n' := 2 * (capN nb (ts.flatten.length + (acc ++ [bget t q]).length) - nb)) (by rw [List.length_append, List.length_singleton, ← Nat.add_assoc]; omega) (by rw [List.length_append, List.length_singleton, ← Nat.add_assoc]; omega) ?_
                    exact ih k _ (d + 0) _ (s + 1) ⟨⟨by omega, by omega, by rw [List.length_append, List.length_singleton]; omega, by omega⟩, e7⟩ (by omega)
                  · -- 107 -> 110
                    have hln : bget t q = 10 ∨ bget t q = 13 := of_decide_eq_true (zbI1 (b := sLine (bget t q)) (by omega))
                    have lr := lnPos_rg (t := t) (p := q) (by omega)
                    have e7 : brS t k (lnPos t q) (d + 0) (acc ++ [10]) = (xs, E) := by
                      rw [← i5]
                      show _ = if _ then _ else _
                      rw [if_neg (by omega), if_neg (by omega)]; (first | rw [if_pos (show bget t q = 40 by omega)] | rw [if_neg (show ¬ bget t q = 40 by omega), if_pos (show bget t q = 41 by omega)] | rw [if_neg (show ¬ bget t q = 40 by omega), if_neg (show ¬ bget t q = 41 by omega)]); rw [if_neg (by omega), show (if bget t q = 13 then (10 : Int) else bget t q) = 10 by split <;> omega]; rfl
                    have m8 := brS_len (t := t) k _ _ _ e7
                    rw [List.length_append, List.length_singleton] at m8
                    have m9 := capN_mono nb (show ts.flatten.length + acc.length + 1 ≤ ts.flatten.length + xs.length by omega)
                    have e6 := capN_next (n := nb) (by omega) (ts.flatten.length + acc.length)
                    have m7 := capN_ge (capN nb (ts.flatten.length + acc.length)) (ts.flatten.length + acc.length + 1)
                    refine zw_aload_n 2 rfl zd_PW_cutBracketText_110 ?_
                    refine zw_callV (As := []) (rest := []) (L2 := [zWL hl (ws) (nw), zTS hs (ts) (acc) (capN nb (ts.flatten.length + acc.length)) (n)]) (L' := [zObj h 0 [.ref ht, .ref hl, .ref hs, .ref ho, .ref hn, .int (zI (lnPos t q)), .int (zI (w0)), .int (zI (r0))], zBRow ht (t) (nt), zWL hl (ws) (nw), zTS hs (ts) (acc) (capN nb (ts.flatten.length + acc.length)) (n)]) (stk' := []) (c_PW_skipLineEnd h ht hl hs ho hn t nt q w0 r0 (by omega)) [1, 0] [2, 3] rfl rfl rfl zcal_PW_skipLineEnd zl_PW_184 zin_PW_skipLineEnd zse_PW_skipLineEnd 0 rfl zRv_obj rfl (Nat.le_of_ble_eq_true rfl) (Nat.le_of_ble_eq_true rfl) (by omega) (by omega) rfl (Nat.le_of_ble_eq_true rfl) rfl rfl zd_PW_cutBracketText_111 ?_
                    refine zw_aload_n 2 rfl zd_PW_cutBracketText_114 ?_
                    refine zw_get zc_PW 0 2 rfl (by decide) zf_PW_26 rfl zd_PW_cutBracketText_115 ?_
                    refine zw_bipush rfl zd_PW_cutBracketText_118 ?_
                    refine zw_callV (As := [.int (zI (10))]) (rest := []) (L2 := [zObj h 0 [.ref ht, .ref hl, .ref hs, .ref ho, .ref hn, .int (zI (lnPos t q)), .int (zI (w0)), .int (zI (r0))], zBRow ht (t) (nt), zWL hl (ws) (nw)]) (L' := [zTS hs (ts) (acc ++ [(10) % 256]) (capN (capN nb (ts.flatten.length + acc.length)) (ts.flatten.length + acc.length + 1)) (n), zObj h 0 [.ref ht, .ref hl, .ref hs, .ref ho, .ref hn, .int (zI (lnPos t q)), .int (zI (w0)), .int (zI (r0))], zBRow ht (t) (nt), zWL hl (ws) (nw)]) (stk' := []) (c_TS_putC hs (ts) (acc) (capN nb (ts.flatten.length + acc.length)) (n) (10) (ts.flatten.length + acc.length) (cc) (by omega) (by omega)) [3] [0, 1, 2] rfl rfl rfl zcal_TS_put zl_PW_160 zin_TS_put zse_TS_put 0 rfl zRv_TS rfl (Nat.le_of_ble_eq_true rfl) (Nat.le_of_ble_eq_true rfl) (by omega) (by omega) rfl (Nat.le_of_ble_eq_true rfl) rfl rfl zd_PW_cutBracketText_120 ?_
                    refine zw_goto 145 zd_PW_cutBracketText_123 (by decide) ?_
                    refine zw_iinc (lv' := [(4, .int (zI (s + 1))), (3, .int (zI (d + 0))), (5, .int (zI (bget t q))), (0, .ref h), (1, .int (zI (p0))), (2, .int (zI (((t.length : Nat) : Int))))]) 5 rfl (Nat.le_of_ble_eq_true rfl) rfl zd_PW_cutBracketText_145 ?_
                    refine zw_goto 28 zd_PW_cutBracketText_148 (by decide) ?_
                    refine zw_sub (L' := [zObj h 0 [.ref ht, .ref hl, .ref hs, .ref ho, .ref hn, .int (zI (lnPos t q)), .int (zI (w0)), .int (zI (r0))], zBRow ht (t) (nt), zWL hl (ws) (nw), zTS hs (ts) (acc ++ [(10) % 256]) (capN (capN nb (ts.flatten.length + acc.length)) (ts.flatten.length + acc.length + 1)) (n)]) [1, 2, 3, 0] rfl rfl ?_
                    refine zw_lpick (lv' := [(0, .ref h), (1, .int (zI (p0))), (2, .int (zI (((t.length : Nat) : Int)))), (3, .int (zI (d + 0))), (4, .int (zI (s + 1)))]) [3, 4, 5, 1, 0] rfl ?_
                    refine zw_eqL (L' := [zObj h 0 [.ref ht, .ref hl, .ref hs, .ref ho, .ref hn, .int (zI (lnPos t q)), .int (zI (w0)), .int (zI (r0))], zBRow ht (t) (nt), zWL hl (ws) (nw), zTS hs (ts) (acc ++ [10]) (capN nb (ts.flatten.length + (acc ++ [10]).length)) (n)]) (by rw [e6, show (10 : Int) % 256 = 10 by decide, List.length_append, List.length_singleton, Nat.add_assoc]) ?_
                    refine zw_widen (k' := capN nb (ts.flatten.length + (acc ++ [10]).length) - nb) (n' := 2 * (capN nb (ts.flatten.length + (acc ++ [10]).length) - nb)) (by rw [List.length_append, List.length_singleton, ← Nat.add_assoc]; omega) (by rw [List.length_append, List.length_singleton, ← Nat.add_assoc]; omega) ?_
                    exact ih k _ (d + 0) _ (s + 1) ⟨⟨by omega, by omega, by rw [List.length_append, List.length_singleton]; omega, by omega⟩, e7⟩ (by omega)
                · -- 92 -> 95
                  have er := escS_rg (t := t) (q := q + 1) (by omega)
                  have m7 := capN_ge (capN nb (ts.flatten.length + acc.length)) ((ts.flatten ++ acc).length + (escS t (q + 1)).1.length)
                  have e6 : capN (capN nb (ts.flatten.length + acc.length)) ((ts.flatten ++ acc).length + (escS t (q + 1)).1.length) = capN nb (ts.flatten.length + (acc ++ (escS t (q + 1)).1).length) := by rw [cc, capN_more (by omega), List.length_append, Nat.add_assoc]
                  have e7 : brS t k (escS t (q + 1)).2 d (acc ++ (escS t (q + 1)).1) = (xs, E) := by rw [← i5]; show _ = if _ then _ else _; rw [if_neg (by omega), if_pos (by omega)]
                  have m8 := brS_len (t := t) k _ _ _ e7
                  have m9 := capN_mono nb (show ts.flatten.length + (acc ++ (escS t (q + 1)).1).length ≤ ts.flatten.length + xs.length by omega)
                  refine zw_aload_n 2 rfl zd_PW_cutBracketText_95 ?_
                  refine zw_callV (As := []) (rest := []) (L2 := [zWL hl (ws) (nw)]) (L' := [zObj h 0 [.ref ht, .ref hl, .ref hs, .ref ho, .ref hn, .int (zI ((escS t (q + 1)).2)), .int (zI (w0)), .int (zI (r0))], zBRow ht (t) (nt), zTS hs (ts) (acc ++ (escS t (q + 1)).1) (capN (capN nb (ts.flatten.length + acc.length)) ((ts.flatten ++ acc).length + (escS t (q + 1)).1.length)) (n), zWL hl (ws) (nw)]) (stk' := []) (c_PW_takeEscaped h ht hl hs ho hn t nt q w0 r0 ts acc (capN nb (ts.flatten.length + acc.length)) n (by omega) (by omega)) [1, 0, 3] [2] rfl rfl rfl zcal_PW_takeEscaped zl_PW_181 zin_PW_takeEscaped zse_PW_takeEscaped 0 rfl zRv_obj rfl (Nat.le_of_ble_eq_true rfl) (Nat.le_of_ble_eq_true rfl) (by omega) (by omega) rfl (Nat.le_of_ble_eq_true rfl) rfl rfl zd_PW_cutBracketText_96 ?_
                  refine zw_goto 145 zd_PW_cutBracketText_99 (by decide) ?_
                  refine zw_iinc (lv' := [(4, .int (zI (s + 1))), (3, .int (zI (d + 0))), (5, .int (zI (bget t q))), (0, .ref h), (1, .int (zI (p0))), (2, .int (zI (((t.length : Nat) : Int))))]) 5 rfl (Nat.le_of_ble_eq_true rfl) rfl zd_PW_cutBracketText_145 ?_
                  refine zw_goto 28 zd_PW_cutBracketText_148 (by decide) ?_
                  refine zw_sub (L' := [zObj h 0 [.ref ht, .ref hl, .ref hs, .ref ho, .ref hn, .int (zI ((escS t (q + 1)).2)), .int (zI (w0)), .int (zI (r0))], zBRow ht (t) (nt), zWL hl (ws) (nw), zTS hs (ts) (acc ++ (escS t (q + 1)).1) (capN (capN nb (ts.flatten.length + acc.length)) ((ts.flatten ++ acc).length + (escS t (q + 1)).1.length)) (n)]) [0, 1, 3, 2] rfl rfl ?_
                  refine zw_lpick (lv' := [(0, .ref h), (1, .int (zI (p0))), (2, .int (zI (((t.length : Nat) : Int)))), (3, .int (zI (d + 0))), (4, .int (zI (s + 1)))]) [3, 4, 5, 1, 0] rfl ?_
                  refine zw_eqL (L' := [zObj h 0 [.ref ht, .ref hl, .ref hs, .ref ho, .ref hn, .int (zI ((escS t (q + 1)).2)), .int (zI (w0)), .int (zI (r0))], zBRow ht (t) (nt), zWL hl (ws) (nw), zTS hs (ts) (acc ++ (escS t (q + 1)).1) (capN nb (ts.flatten.length + (acc ++ (escS t (q + 1)).1).length)) (n)]) (by rw [e6]) ?_
                  refine zw_eqv (lv' := [(0, .ref h), (1, .int (zI (p0))), (2, .int (zI (((t.length : Nat) : Int)))), (3, .int (zI (d))), (4, .int (zI (s + 1)))]) (by rw [Int.add_zero]) ?_
                  refine zw_widen (k' := capN nb (ts.flatten.length + (acc ++ (escS t (q + 1)).1).length) - nb) (n' := 2 * (capN nb (ts.flatten.length + (acc ++ (escS t (q + 1)).1).length) - nb)) (by omega) (by omega) ?_
                  exact ih k _ d _ (s + 1) ⟨⟨by omega, by omega, by rw [List.length_append]; omega, by omega⟩, e7⟩ (by omega)
              · -- 82 -> 85
                refine zw_goto 151 zd_PW_cutBracketText_85 (by decide) ?_
                have e0 : (acc, q) = (xs, E) := by
                  rw [← i5]
                  show _ = if _ then _ else _
                  rw [if_neg (by omega), if_neg (by omega), if_pos (by first | (rw [if_pos (by omega)]; omega) | (rw [if_neg (by omega), if_pos (by omega)]; omega) | (rw [if_neg (by omega), if_neg (by omega)]; omega))]
                obtain ⟨e1, e2⟩ := Prod.mk.inj e0
                have mN1 : capN n (addT ts acc).length = capN n (addT ts xs).length := by rw [e1]
                have mN2 : capN nb (ts.flatten.length + acc.length) = capN nb (ts.flatten.length + xs.length) := by rw [e1]
                refine zw_aload_n 2 rfl zd_PW_cutBracketText_151 ?_
                refine zw_iload_n 3 rfl zd_PW_cutBracketText_152 ?_
                refine zw_iload_n 0 rfl zd_PW_cutBracketText_153 ?_
                refine zw_if_ne 161 (by omega) zd_PW_cutBracketText_154 (by decide) (fun c154 => ?_) (fun c154 => ?_)
                · -- 154 -> 161
                  exact absurd c154 (by omega)
                · -- 154 -> 157
                  refine zw_iconst zd_PW_cutBracketText_157 ?_
                  refine zw_goto 162 zd_PW_cutBracketText_158 (by decide) ?_
                  refine zw_callV (As := [.int (zI (p0)), .int (zI (1))]) (rest := []) (L2 := [zBRow ht (t) (nt)]) (L' := [zObj h 0 [.ref ht, .ref hl, .ref hs, .ref ho, .ref hn, .int (zI (q + 1)), .int (zI (w0)), .int (zI (r0))], zWL hl (ws ++ [(zI 5, zI ((ixOf ts acc : Nat) : Int), zI p0)]) (capN nw ((ws).length + 1)), zTS hs (addT ts acc) ([]) (capN nb (ts.flatten.length + acc.length)) (capN n (addT ts acc).length), zBRow ht (t) (nt)]) (stk' := []) (c_PW_endText1 h ht hl hs ho hn q w0 r0 ws nw ts acc (capN nb (ts.flatten.length + acc.length)) n p0 (by omega) (by omega)) [1, 2, 3] [0] rfl rfl rfl zcal_PW_endText zl_PW_177 zin_PW_endText zse_PW_endText 0 rfl zRv_obj rfl (Nat.le_of_ble_eq_true rfl) (Nat.le_of_ble_eq_true rfl) (by omega) (by omega) rfl (Nat.le_of_ble_eq_true rfl) rfl rfl zd_PW_cutBracketText_162 ?_
                  refine zw_sub (L' := [zObj h 0 [.ref ht, .ref hl, .ref hs, .ref ho, .ref hn, .int (zI (q + 1)), .int (zI (w0)), .int (zI (r0))], zBRow ht (t) (nt), zWL hl (ws ++ [(zI 5, zI ((ixOf ts acc : Nat) : Int), zI p0)]) (capN nw ((ws).length + 1)), zTS hs (addT ts acc) ([]) (capN nb (ts.flatten.length + acc.length)) (capN n (addT ts acc).length)]) [0, 3, 1, 2] rfl rfl ?_
                  exact zw_vret hR rfl (by rw [← e1, ← e2]) rfl (by rw [← e1]; omega) (by rw [← e1]; omega) zd_PW_cutBracketText_165
            · -- 71 -> 74
              refine zw_iconst zd_PW_cutBracketText_74 ?_
              refine zw_goto 79 zd_PW_cutBracketText_75 (by decide) ?_
              refine zw_iadd zd_PW_cutBracketText_79 ?_
              refine zw_istore_n (lv' := [(3, .int (zI (d + (-1)))), (5, .int (zI (bget t q))), (0, .ref h), (1, .int (zI (p0))), (2, .int (zI (((t.length : Nat) : Int)))), (4, .int (zI (s)))]) (Nat.le_of_ble_eq_true rfl) rfl zd_PW_cutBracketText_80 ?_
              refine zw_iload_n 0 rfl zd_PW_cutBracketText_81 ?_
              refine zw_if_ne 88 (by omega) zd_PW_cutBracketText_82 (by decide) (fun c82 => ?_) (fun c82 => ?_)
              · -- 82 -> 88
                refine zw_iload 1 rfl zd_PW_cutBracketText_88 ?_
                refine zw_bipush rfl zd_PW_cutBracketText_90 ?_
                refine zw_icmp_ne 102 (by omega) (by omega) zd_PW_cutBracketText_92 (by decide) (fun c92 => ?_) (fun c92 => ?_)
                · -- 92 -> 102
                  refine zw_iload 1 rfl zd_PW_cutBracketText_102 ?_
                  refine zw_callS (a := 0) (As := [.int (zI (bget t q))]) (rest := []) (L2 := [zBRow ht (t) (nt), zObj h 0 [.ref ht, .ref hl, .ref hs, .ref ho, .ref hn, .int (zI (q)), .int (zI (w0)), .int (zI (r0))], zWL hl (ws) (nw), zTS hs (ts) (acc) (capN nb (ts.flatten.length + acc.length)) (n)]) (L' := [zBRow ht (t) (nt), zObj h 0 [.ref ht, .ref hl, .ref hs, .ref ho, .ref hn, .int (zI (q)), .int (zI (w0)), .int (zI (r0))], zWL hl (ws) (nw), zTS hs (ts) (acc) (capN nb (ts.flatten.length + acc.length)) (n)]) (stk' := [.int (zI (bI (sLine (bget t q))))]) (c_PW_isLineEnd (bget t q) (by omega)) [] [0, 1, 2, 3] rfl rfl rfl zcal_PW_isLineEnd zl_PW_138 zst_PW_isLineEnd (Nat.le_of_ble_eq_true rfl) (Nat.le_of_ble_eq_true rfl) (by omega) (by omega) rfl (Nat.le_of_ble_eq_true rfl) rfl rfl zd_PW_cutBracketText_104 ?_
                  have rb104 := bI_rg (sLine (bget t q))
                  refine zw_if_eq 126 (by omega) zd_PW_cutBracketText_107 (by decide) (fun c107 => ?_) (fun c107 => ?_)
                  · -- 107 -> 126
                    have hln : ¬ (bget t q = 10 ∨ bget t q = 13) := of_decide_eq_false (zbI0 (b := sLine (bget t q)) (by omega))
                    have bb := bget_byte hby (z := q) (by omega)
                    have e7 : brS t k (q + 1) (d + (-1)) (acc ++ [bget t q]) = (xs, E) := by
                      rw [← i5]
                      show _ = if _ then _ else _
                      rw [if_neg (by omega), if_neg (by omega)]; (first | rw [if_pos (show bget t q = 40 by omega)] | rw [if_neg (show ¬ bget t q = 40 by omega), if_pos (show bget t q = 41 by omega)] | rw [if_neg (show ¬ bget t q = 40 by omega), if_neg (show ¬ bget t q = 41 by omega)]); rw [if_neg (by omega), if_neg (show ¬ (bget t q = 13 ∧ bget t (q + 1) = 10) by omega), if_neg (show ¬ bget t q = 13 by omega)]
                    have m8 := brS_len (t := t) k _ _ _ e7
                    rw [List.length_append, List.length_singleton] at m8
                    have m9 := capN_mono nb (show ts.flatten.length + acc.length + 1 ≤ ts.flatten.length + xs.length by omega)
                    have e6 := capN_next (n := nb) (by omega) (ts.flatten.length + acc.length)
                    have m7 := capN_ge (capN nb (ts.flatten.length + acc.length)) (ts.flatten.length + acc.length + 1)
                    refine zw_aload_n 2 rfl zd_PW_cutBracketText_126 ?_
                    refine zw_dup rfl zd_PW_cutBracketText_127 ?_
                    refine zw_get zc_PW 1 5 rfl (by decide) zf_PW_46 rfl zd_PW_cutBracketText_128 ?_
                    refine zw_iconst zd_PW_cutBracketText_131 ?_
                    refine zw_iadd zd_PW_cutBracketText_132 ?_
                    refine zw_put (L' := [zBRow ht (t) (nt), zObj h 0 [.ref ht, .ref hl, .ref hs, .ref ho, .ref hn, .int (zI (q + 1)), .int (zI (w0)), .int (zI (r0))], zWL hl (ws) (nw), zTS hs (ts) (acc) (capN nb (ts.flatten.length + acc.length)) (n)]) zc_PW 1 5 rfl (by decide) zf_PW_46 rfl rfl rfl (Nat.le_of_ble_eq_true rfl) rfl zd_PW_cutBracketText_133 ?_
                    refine zw_aload_n 2 rfl zd_PW_cutBracketText_136 ?_
                    refine zw_get zc_PW 1 2 rfl (by decide) zf_PW_26 rfl zd_PW_cutBracketText_137 ?_
                    refine zw_iload 1 rfl zd_PW_cutBracketText_140 ?_
                    refine zw_callV (As := [.int (zI (bget t q))]) (rest := []) (L2 := [zBRow ht (t) (nt), zObj h 0 [.ref ht, .ref hl, .ref hs, .ref ho, .ref hn, .int (zI (q + 1)), .int (zI (w0)), .int (zI (r0))], zWL hl (ws) (nw)]) (L' := [zTS hs (ts) (acc ++ [(bget t q) % 256]) (capN (capN nb (ts.flatten.length + acc.length)) (ts.flatten.length + acc.length + 1)) (n), zBRow ht (t) (nt), zObj h 0 [.ref ht, .ref hl, .ref hs, .ref ho, .ref hn, .int (zI (q + 1)), .int (zI (w0)), .int (zI (r0))], zWL hl (ws) (nw)]) (stk' := []) (c_TS_putC hs (ts) (acc) (capN nb (ts.flatten.length + acc.length)) (n) (bget t q) (ts.flatten.length + acc.length) (cc) (by omega) (by omega)) [3] [0, 1, 2] rfl rfl rfl zcal_TS_put zl_PW_160 zin_TS_put zse_TS_put 0 rfl zRv_TS rfl (Nat.le_of_ble_eq_true rfl) (Nat.le_of_ble_eq_true rfl) (by omega) (by omega) rfl (Nat.le_of_ble_eq_true rfl) rfl rfl zd_PW_cutBracketText_142 ?_
                    refine zw_iinc (lv' := [(4, .int (zI (s + 1))), (3, .int (zI (d + (-1)))), (5, .int (zI (bget t q))), (0, .ref h), (1, .int (zI (p0))), (2, .int (zI (((t.length : Nat) : Int))))]) 5 rfl (Nat.le_of_ble_eq_true rfl) rfl zd_PW_cutBracketText_145 ?_
                    refine zw_goto 28 zd_PW_cutBracketText_148 (by decide) ?_
                    refine zw_sub (L' := [zObj h 0 [.ref ht, .ref hl, .ref hs, .ref ho, .ref hn, .int (zI (q + 1)), .int (zI (w0)), .int (zI (r0))], zBRow ht (t) (nt), zWL hl (ws) (nw), zTS hs (ts) (acc ++ [(bget t q) % 256]) (capN (capN nb (ts.flatten.length + acc.length)) (ts.flatten.length + acc.length + 1)) (n)]) [2, 1, 3, 0] rfl rfl ?_
                    refine zw_lpick (lv' := [(0, .ref h), (1, .int (zI (p0))), (2, .int (zI (((t.length : Nat) : Int)))), (3, .int (zI (d + (-1)))), (4, .int (zI (s + 1)))]) [3, 4, 5, 1, 0] rfl ?_
                    refine zw_eqL (L' := [zObj h 0 [.ref ht, .ref hl, .ref hs, .ref ho, .ref hn, .int (zI (q + 1)), .int (zI (w0)), .int (zI (r0))], zBRow ht (t) (nt), zWL hl (ws) (nw), zTS hs (ts) (acc ++ [bget t q]) (capN nb (ts.flatten.length + (acc ++ [bget t q]).length)) (n)]) (by rw [e6, Int.emod_eq_of_lt bb.1 (by omega), List.length_append, List.length_singleton, Nat.add_assoc]) ?_
                    refine zw_widen (k' := capN nb (ts.flatten.length + (acc ++ [bget t q]).length) - nb) (n' := 2 * (capN nb (ts.flatten.length + (acc ++ [bget t q]).length) - nb)) (by rw [List.length_append, List.length_singleton, ← Nat.add_assoc]; omega) (by rw [List.length_append, List.length_singleton, ← Nat.add_assoc]; omega) ?_
                    exact ih k _ (d + (-1)) _ (s + 1) ⟨⟨by omega, by omega, by rw [List.length_append, List.length_singleton]; omega, by omega⟩, e7⟩ (by omega)
                  · -- 107 -> 110
                    have hln : bget t q = 10 ∨ bget t q = 13 := of_decide_eq_true (zbI1 (b := sLine (bget t q)) (by omega))
                    omega
                · -- 92 -> 95
                  exact absurd c92 (by omega)
              · -- 82 -> 85
                refine zw_goto 151 zd_PW_cutBracketText_85 (by decide) ?_
                have e0 : (acc, q) = (xs, E) := by
                  rw [← i5]
                  show _ = if _ then _ else _
                  rw [if_neg (by omega), if_neg (by omega), if_pos (by first | (rw [if_pos (by omega)]; omega) | (rw [if_neg (by omega), if_pos (by omega)]; omega) | (rw [if_neg (by omega), if_neg (by omega)]; omega))]
                obtain ⟨e1, e2⟩ := Prod.mk.inj e0
                have mN1 : capN n (addT ts acc).length = capN n (addT ts xs).length := by rw [e1]
                have mN2 : capN nb (ts.flatten.length + acc.length) = capN nb (ts.flatten.length + xs.length) := by rw [e1]
                refine zw_aload_n 2 rfl zd_PW_cutBracketText_151 ?_
                refine zw_iload_n 3 rfl zd_PW_cutBracketText_152 ?_
                refine zw_iload_n 0 rfl zd_PW_cutBracketText_153 ?_
                refine zw_if_ne 161 (by omega) zd_PW_cutBracketText_154 (by decide) (fun c154 => ?_) (fun c154 => ?_)
                · -- 154 -> 161
                  exact absurd c154 (by omega)
                · -- 154 -> 157
                  refine zw_iconst zd_PW_cutBracketText_157 ?_
                  refine zw_goto 162 zd_PW_cutBracketText_158 (by decide) ?_
                  refine zw_callV (As := [.int (zI (p0)), .int (zI (1))]) (rest := []) (L2 := [zBRow ht (t) (nt)]) (L' := [zObj h 0 [.ref ht, .ref hl, .ref hs, .ref ho, .ref hn, .int (zI (q + 1)), .int (zI (w0)), .int (zI (r0))], zWL hl (ws ++ [(zI 5, zI ((ixOf ts acc : Nat) : Int), zI p0)]) (capN nw ((ws).length + 1)), zTS hs (addT ts acc) ([]) (capN nb (ts.flatten.length + acc.length)) (capN n (addT ts acc).length), zBRow ht (t) (nt)]) (stk' := []) (c_PW_endText1 h ht hl hs ho hn q w0 r0 ws nw ts acc (capN nb (ts.flatten.length + acc.length)) n p0 (by omega) (by omega)) [1, 2, 3] [0] rfl rfl rfl zcal_PW_endText zl_PW_177 zin_PW_endText zse_PW_endText 0 rfl zRv_obj rfl (Nat.le_of_ble_eq_true rfl) (Nat.le_of_ble_eq_true rfl) (by omega) (by omega) rfl (Nat.le_of_ble_eq_true rfl) rfl rfl zd_PW_cutBracketText_162 ?_
                  refine zw_sub (L' := [zObj h 0 [.ref ht, .ref hl, .ref hs, .ref ho, .ref hn, .int (zI (q + 1)), .int (zI (w0)), .int (zI (r0))], zBRow ht (t) (nt), zWL hl (ws ++ [(zI 5, zI ((ixOf ts acc : Nat) : Int), zI p0)]) (capN nw ((ws).length + 1)), zTS hs (addT ts acc) ([]) (capN nb (ts.flatten.length + acc.length)) (capN n (addT ts acc).length)]) [0, 3, 1, 2] rfl rfl ?_
                  exact zw_vret hR rfl (by rw [← e1, ← e2]) rfl (by rw [← e1]; omega) (by rw [← e1]; omega) zd_PW_cutBracketText_165
          · -- 60 -> 63
            refine zw_iconst zd_PW_cutBracketText_63 ?_
            refine zw_goto 79 zd_PW_cutBracketText_64 (by decide) ?_
            refine zw_iadd zd_PW_cutBracketText_79 ?_
            refine zw_istore_n (lv' := [(3, .int (zI (d + 1))), (5, .int (zI (bget t q))), (0, .ref h), (1, .int (zI (p0))), (2, .int (zI (((t.length : Nat) : Int)))), (4, .int (zI (s)))]) (Nat.le_of_ble_eq_true rfl) rfl zd_PW_cutBracketText_80 ?_
            refine zw_iload_n 0 rfl zd_PW_cutBracketText_81 ?_
            refine zw_if_ne 88 (by omega) zd_PW_cutBracketText_82 (by decide) (fun c82 => ?_) (fun c82 => ?_)
            · -- 82 -> 88
              refine zw_iload 1 rfl zd_PW_cutBracketText_88 ?_
              refine zw_bipush rfl zd_PW_cutBracketText_90 ?_
              refine zw_icmp_ne 102 (by omega) (by omega) zd_PW_cutBracketText_92 (by decide) (fun c92 => ?_) (fun c92 => ?_)
              · -- 92 -> 102
                refine zw_iload 1 rfl zd_PW_cutBracketText_102 ?_
                refine zw_callS (a := 0) (As := [.int (zI (bget t q))]) (rest := []) (L2 := [zBRow ht (t) (nt), zObj h 0 [.ref ht, .ref hl, .ref hs, .ref ho, .ref hn, .int (zI (q)), .int (zI (w0)), .int (zI (r0))], zWL hl (ws) (nw), zTS hs (ts) (acc) (capN nb (ts.flatten.length + acc.length)) (n)]) (L' := [zBRow ht (t) (nt), zObj h 0 [.ref ht, .ref hl, .ref hs, .ref ho, .ref hn, .int (zI (q)), .int (zI (w0)), .int (zI (r0))], zWL hl (ws) (nw), zTS hs (ts) (acc) (capN nb (ts.flatten.length + acc.length)) (n)]) (stk' := [.int (zI (bI (sLine (bget t q))))]) (c_PW_isLineEnd (bget t q) (by omega)) [] [0, 1, 2, 3] rfl rfl rfl zcal_PW_isLineEnd zl_PW_138 zst_PW_isLineEnd (Nat.le_of_ble_eq_true rfl) (Nat.le_of_ble_eq_true rfl) (by omega) (by omega) rfl (Nat.le_of_ble_eq_true rfl) rfl rfl zd_PW_cutBracketText_104 ?_
                have rb104 := bI_rg (sLine (bget t q))
                refine zw_if_eq 126 (by omega) zd_PW_cutBracketText_107 (by decide) (fun c107 => ?_) (fun c107 => ?_)
                · -- 107 -> 126
                  have hln : ¬ (bget t q = 10 ∨ bget t q = 13) := of_decide_eq_false (zbI0 (b := sLine (bget t q)) (by omega))
                  have bb := bget_byte hby (z := q) (by omega)
                  have e7 : brS t k (q + 1) (d + 1) (acc ++ [bget t q]) = (xs, E) := by
                    rw [← i5]
                    show _ = if _ then _ else _
                    rw [if_neg (by omega), if_neg (by omega)]; (first | rw [if_pos (show bget t q = 40 by omega)] | rw [if_neg (show ¬ bget t q = 40 by omega), if_pos (show bget t q = 41 by omega)] | rw [if_neg (show ¬ bget t q = 40 by omega), if_neg (show ¬ bget t q = 41 by omega)]); rw [if_neg (by omega), if_neg (show ¬ (bget t q = 13 ∧ bget t (q + 1) = 10) by omega), if_neg (show ¬ bget t q = 13 by omega)]
                  have m8 := brS_len (t := t) k _ _ _ e7
                  rw [List.length_append, List.length_singleton] at m8
                  have m9 := capN_mono nb (show ts.flatten.length + acc.length + 1 ≤ ts.flatten.length + xs.length by omega)
                  have e6 := capN_next (n := nb) (by omega) (ts.flatten.length + acc.length)
                  have m7 := capN_ge (capN nb (ts.flatten.length + acc.length)) (ts.flatten.length + acc.length + 1)
                  refine zw_aload_n 2 rfl zd_PW_cutBracketText_126 ?_
                  refine zw_dup rfl zd_PW_cutBracketText_127 ?_
                  refine zw_get zc_PW 1 5 rfl (by decide) zf_PW_46 rfl zd_PW_cutBracketText_128 ?_
                  refine zw_iconst zd_PW_cutBracketText_131 ?_
                  refine zw_iadd zd_PW_cutBracketText_132 ?_
                  refine zw_put (L' := [zBRow ht (t) (nt), zObj h 0 [.ref ht, .ref hl, .ref hs, .ref ho, .ref hn, .int (zI (q + 1)), .int (zI (w0)), .int (zI (r0))], zWL hl (ws) (nw), zTS hs (ts) (acc) (capN nb (ts.flatten.length + acc.length)) (n)]) zc_PW 1 5 rfl (by decide) zf_PW_46 rfl rfl rfl (Nat.le_of_ble_eq_true rfl) rfl zd_PW_cutBracketText_133 ?_
                  refine zw_aload_n 2 rfl zd_PW_cutBracketText_136 ?_
                  refine zw_get zc_PW 1 2 rfl (by decide) zf_PW_26 rfl zd_PW_cutBracketText_137 ?_
                  refine zw_iload 1 rfl zd_PW_cutBracketText_140 ?_
                  refine zw_callV (As := [.int (zI (bget t q))]) (rest := []) (L2 := [zBRow ht (t) (nt), zObj h 0 [.ref ht, .ref hl, .ref hs, .ref ho, .ref hn, .int (zI (q + 1)), .int (zI (w0)), .int (zI (r0))], zWL hl (ws) (nw)]) (L' := [zTS hs (ts) (acc ++ [(bget t q) % 256]) (capN (capN nb (ts.flatten.length + acc.length)) (ts.flatten.length + acc.length + 1)) (n), zBRow ht (t) (nt), zObj h 0 [.ref ht, .ref hl, .ref hs, .ref ho, .ref hn, .int (zI (q + 1)), .int (zI (w0)), .int (zI (r0))], zWL hl (ws) (nw)]) (stk' := []) (c_TS_putC hs (ts) (acc) (capN nb (ts.flatten.length + acc.length)) (n) (bget t q) (ts.flatten.length + acc.length) (cc) (by omega) (by omega)) [3] [0, 1, 2] rfl rfl rfl zcal_TS_put zl_PW_160 zin_TS_put zse_TS_put 0 rfl zRv_TS rfl (Nat.le_of_ble_eq_true rfl) (Nat.le_of_ble_eq_true rfl) (by omega) (by omega) rfl (Nat.le_of_ble_eq_true rfl) rfl rfl zd_PW_cutBracketText_142 ?_
                  refine zw_iinc (lv' := [(4, .int (zI (s + 1))), (3, .int (zI (d + 1))), (5, .int (zI (bget t q))), (0, .ref h), (1, .int (zI (p0))), (2, .int (zI (((t.length : Nat) : Int))))]) 5 rfl (Nat.le_of_ble_eq_true rfl) rfl zd_PW_cutBracketText_145 ?_
                  refine zw_goto 28 zd_PW_cutBracketText_148 (by decide) ?_
                  refine zw_sub (L' := [zObj h 0 [.ref ht, .ref hl, .ref hs, .ref ho, .ref hn, .int (zI (q + 1)), .int (zI (w0)), .int (zI (r0))], zBRow ht (t) (nt), zWL hl (ws) (nw), zTS hs (ts) (acc ++ [(bget t q) % 256]) (capN (capN nb (ts.flatten.length + acc.length)) (ts.flatten.length + acc.length + 1)) (n)]) [2, 1, 3, 0] rfl rfl ?_
                  refine zw_lpick (lv' := [(0, .ref h), (1, .int (zI (p0))), (2, .int (zI (((t.length : Nat) : Int)))), (3, .int (zI (d + 1))), (4, .int (zI (s + 1)))]) [3, 4, 5, 1, 0] rfl ?_
                  refine zw_eqL (L' := [zObj h 0 [.ref ht, .ref hl, .ref hs, .ref ho, .ref hn, .int (zI (q + 1)), .int (zI (w0)), .int (zI (r0))], zBRow ht (t) (nt), zWL hl (ws) (nw), zTS hs (ts) (acc ++ [bget t q]) (capN nb (ts.flatten.length + (acc ++ [bget t q]).length)) (n)]) (by rw [e6, Int.emod_eq_of_lt bb.1 (by omega), List.length_append, List.length_singleton, Nat.add_assoc]) ?_
                  refine zw_widen (k' := capN nb (ts.flatten.length + (acc ++ [bget t q]).length) - nb) (n' := 2 * (capN nb (ts.flatten.length + (acc ++ [bget t q]).length) - nb)) (by rw [List.length_append, List.length_singleton, ← Nat.add_assoc]; omega) (by rw [List.length_append, List.length_singleton, ← Nat.add_assoc]; omega) ?_
                  exact ih k _ (d + 1) _ (s + 1) ⟨⟨by omega, by omega, by rw [List.length_append, List.length_singleton]; omega, by omega⟩, e7⟩ (by omega)
                · -- 107 -> 110
                  have hln : bget t q = 10 ∨ bget t q = 13 := of_decide_eq_true (zbI1 (b := sLine (bget t q)) (by omega))
                  omega
              · -- 92 -> 95
                exact absurd c92 (by omega)
            · -- 82 -> 85
              refine zw_goto 151 zd_PW_cutBracketText_85 (by decide) ?_
              have e0 : (acc, q) = (xs, E) := by
                rw [← i5]
                show _ = if _ then _ else _
                rw [if_neg (by omega), if_neg (by omega), if_pos (by first | (rw [if_pos (by omega)]; omega) | (rw [if_neg (by omega), if_pos (by omega)]; omega) | (rw [if_neg (by omega), if_neg (by omega)]; omega))]
              obtain ⟨e1, e2⟩ := Prod.mk.inj e0
              have mN1 : capN n (addT ts acc).length = capN n (addT ts xs).length := by rw [e1]
              have mN2 : capN nb (ts.flatten.length + acc.length) = capN nb (ts.flatten.length + xs.length) := by rw [e1]
              refine zw_aload_n 2 rfl zd_PW_cutBracketText_151 ?_
              refine zw_iload_n 3 rfl zd_PW_cutBracketText_152 ?_
              refine zw_iload_n 0 rfl zd_PW_cutBracketText_153 ?_
              refine zw_if_ne 161 (by omega) zd_PW_cutBracketText_154 (by decide) (fun c154 => ?_) (fun c154 => ?_)
              · -- 154 -> 161
                exact absurd c154 (by omega)
              · -- 154 -> 157
                refine zw_iconst zd_PW_cutBracketText_157 ?_
                refine zw_goto 162 zd_PW_cutBracketText_158 (by decide) ?_
                refine zw_callV (As := [.int (zI (p0)), .int (zI (1))]) (rest := []) (L2 := [zBRow ht (t) (nt)]) (L' := [zObj h 0 [.ref ht, .ref hl, .ref hs, .ref ho, .ref hn, .int (zI (q + 1)), .int (zI (w0)), .int (zI (r0))], zWL hl (ws ++ [(zI 5, zI ((ixOf ts acc : Nat) : Int), zI p0)]) (capN nw ((ws).length + 1)), zTS hs (addT ts acc) ([]) (capN nb (ts.flatten.length + acc.length)) (capN n (addT ts acc).length), zBRow ht (t) (nt)]) (stk' := []) (c_PW_endText1 h ht hl hs ho hn q w0 r0 ws nw ts acc (capN nb (ts.flatten.length + acc.length)) n p0 (by omega) (by omega)) [1, 2, 3] [0] rfl rfl rfl zcal_PW_endText zl_PW_177 zin_PW_endText zse_PW_endText 0 rfl zRv_obj rfl (Nat.le_of_ble_eq_true rfl) (Nat.le_of_ble_eq_true rfl) (by omega) (by omega) rfl (Nat.le_of_ble_eq_true rfl) rfl rfl zd_PW_cutBracketText_162 ?_
                refine zw_sub (L' := [zObj h 0 [.ref ht, .ref hl, .ref hs, .ref ho, .ref hn, .int (zI (q + 1)), .int (zI (w0)), .int (zI (r0))], zBRow ht (t) (nt), zWL hl (ws ++ [(zI 5, zI ((ixOf ts acc : Nat) : Int), zI p0)]) (capN nw ((ws).length + 1)), zTS hs (addT ts acc) ([]) (capN nb (ts.flatten.length + acc.length)) (capN n (addT ts acc).length)]) [0, 3, 1, 2] rfl rfl ?_
                exact zw_vret hR rfl (by rw [← e1, ← e2]) rfl (by rw [← e1]; omega) (by rw [← e1]; omega) zd_PW_cutBracketText_165
  refine zw_aload_n 0 rfl zd_PW_cutBracketText_0 ?_
  refine zw_get zc_PW 0 5 rfl (by decide) zf_PW_46 rfl zd_PW_cutBracketText_1 ?_
  refine zw_istore_n (lv' := [(1, .int (zI (p0))), (0, .ref h)]) (Nat.le_of_ble_eq_true rfl) rfl zd_PW_cutBracketText_4 ?_
  refine zw_aload_n 1 rfl zd_PW_cutBracketText_5 ?_
  refine zw_get zc_PW 0 0 rfl (by decide) zf_PW_10 rfl zd_PW_cutBracketText_6 ?_
  refine zw_callV (As := []) (rest := []) (L2 := [zObj h 0 [.ref ht, .ref hl, .ref hs, .ref ho, .ref hn, .int (zI (p0)), .int (zI (w0)), .int (zI (r0))], zWL hl (ws) (nw), zTS hs (ts) ([]) (nb) (n)]) (L' := [zBRow ht (t) (nt), zObj h 0 [.ref ht, .ref hl, .ref hs, .ref ho, .ref hn, .int (zI (p0)), .int (zI (w0)), .int (zI (r0))], zWL hl (ws) (nw), zTS hs (ts) ([]) (nb) (n)]) (stk' := [.int (zI ((((t).length : Nat) : Int)))]) (c_BR_count ht (t) (nt) ((t).length) (rfl)) [1] [0, 2, 3] rfl rfl rfl zcal_BR_count zl_PW_56 zin_BR_count zse_BR_count 0 rfl zRv_BRow rfl (Nat.le_of_ble_eq_true rfl) (Nat.le_of_ble_eq_true rfl) (by omega) (by omega) rfl (Nat.le_of_ble_eq_true rfl) rfl rfl zd_PW_cutBracketText_9 ?_
  refine zw_istore_n (lv' := [(2, .int (zI ((((t).length : Nat) : Int)))), (1, .int (zI (p0))), (0, .ref h)]) (Nat.le_of_ble_eq_true rfl) rfl zd_PW_cutBracketText_12 ?_
  refine zw_iconst zd_PW_cutBracketText_13 ?_
  refine zw_istore_n (lv' := [(3, .int (zI (1))), (2, .int (zI ((((t).length : Nat) : Int)))), (1, .int (zI (p0))), (0, .ref h)]) (Nat.le_of_ble_eq_true rfl) rfl zd_PW_cutBracketText_14 ?_
  refine zw_aload_n 3 rfl zd_PW_cutBracketText_15 ?_
  refine zw_dup rfl zd_PW_cutBracketText_16 ?_
  refine zw_get zc_PW 1 5 rfl (by decide) zf_PW_46 rfl zd_PW_cutBracketText_17 ?_
  refine zw_iconst zd_PW_cutBracketText_20 ?_
  refine zw_iadd zd_PW_cutBracketText_21 ?_
  refine zw_put (L' := [zBRow ht (t) (nt), zObj h 0 [.ref ht, .ref hl, .ref hs, .ref ho, .ref hn, .int (zI (p0 + 1)), .int (zI (w0)), .int (zI (r0))], zWL hl (ws) (nw), zTS hs (ts) ([]) (nb) (n)]) zc_PW 1 5 rfl (by decide) zf_PW_46 rfl rfl rfl (Nat.le_of_ble_eq_true rfl) rfl zd_PW_cutBracketText_22 ?_
  refine zw_iconst zd_PW_cutBracketText_25 ?_
  refine zw_istore (lv' := [(4, .int (zI (0))), (3, .int (zI (1))), (2, .int (zI ((((t).length : Nat) : Int)))), (1, .int (zI (p0))), (0, .ref h)]) (Nat.le_of_ble_eq_true rfl) rfl zd_PW_cutBracketText_26 ?_
  refine zw_sub (L' := [zObj h 0 [.ref ht, .ref hl, .ref hs, .ref ho, .ref hn, .int (zI (p0 + 1)), .int (zI (w0)), .int (zI (r0))], zBRow ht (t) (nt), zWL hl (ws) (nw), zTS hs (ts) ([]) (nb) (n)]) [1, 0, 2, 3] rfl rfl ?_
  refine zw_lpick (lv' := [(0, .ref h), (1, .int (zI (p0))), (2, .int (zI ((((t).length : Nat) : Int)))), (3, .int (zI (1))), (4, .int (zI (0)))]) [4, 3, 2, 1, 0] rfl ?_
  have c0 : capN nb (ts.flatten.length + ([] : List Int).length) = nb := capN_id (by have := hts2.1; rw [List.append_nil] at this; simpa using this)
  refine zw_eqL (L' := [zObj h 0 [.ref ht, .ref hl, .ref hs, .ref ho, .ref hn, .int (zI (p0 + 1)), .int (zI (w0)), .int (zI (r0))], zBRow ht (t) (nt), zWL hl (ws) (nw), zTS hs (ts) (([] : List Int)) (capN nb (ts.flatten.length + ([] : List Int).length)) (n)]) (by rw [c0]) ?_
  refine zw_widen (k' := capN nb (ts.flatten.length + ([] : List Int).length) - nb) (n' := 2 * (capN nb (ts.flatten.length + ([] : List Int).length) - nb)) (by omega) (by omega) ?_
  exact lp _ t.length (p0 + 1) 1 [] 0 ⟨⟨by omega, by omega, by simp; omega, by omega⟩, hbr⟩ (Nat.lt_succ_self _)
set_option maxHeartbeats 4000000 in
set_option maxRecDepth 100000 in
theorem c_PW_bracket_bad (h ht hl hs ho hn : Nat) (t : List Int) (nt : Nat) (p0 w0 r0 : Int) (ws : List (Int32 × Int32 × Int32)) (nw : Nat) (ts : List (List Int)) (nb n : Nat) (hp : 0 ≤ p0 ∧ p0 < t.length) (hF : ts.flatten.length + t.length < 60000) (xs : List Int) (E : Int) (hbr : brS t t.length (p0 + 1) 1 [] = (xs, E)) (hE : E = -1) : zCT zy_PW_cutBracketText zm_PW_cutBracketText ((capN nb (ts.flatten.length + xs.length) - nb)) (2 * (capN nb (ts.flatten.length + xs.length) - nb)) [.ref h] [zObj h 0 [.ref ht, .ref hl, .ref hs, .ref ho, .ref hn, .int (zI (p0)), .int (zI (w0)), .int (zI (r0))], zBRow ht (t) (nt), zWL hl (ws) (nw), zTS hs (ts) ([]) (nb) (n)] (none) [zObj h 0 [.ref ht, .ref hl, .ref hs, .ref ho, .ref hn, .int (zI (((t.length : Nat) : Int))), .int (zI (2)), .int (zI (((t.length : Nat) : Int)))], zBRow ht (t) (nt), zWL hl (ws) (nw), zTS hs (ts) (xs) (capN nb (ts.flatten.length + xs.length)) (n)] := by
  refine zCT.of [(0, .ref h)] rfl (by decide) rfl (fun h => by first | rfl | cases h) (Nat.le_of_ble_eq_true rfl) (fun X hR => ?_)
  refine zw_fact 1 rfl (fun G w h => zBR_fact h) (fun hbr => ?_)
  obtain ⟨⟨ht1, ht2, ht3⟩, hby⟩ := hbr
  refine zw_fact 2 rfl (fun G w h => zWL_fact h) (fun hwl => ?_)
  refine zw_fact 3 rfl (fun G w h => zTS_fact h) (fun hts => ?_)
  obtain ⟨hts1, hts2, hts3, hts4⟩ := hts
  have mX := capN_ge nb (ts.flatten.length + xs.length)
  have lp : ∀ (fuel : Nat) (kk : Nat) (q : Int) (d : Int) (acc : List Int) (s : Int), (((0 ≤ s ∧ s < q ∧ q ≤ t.length) ∧ (1 ≤ d ∧ d ≤ q) ∧ (acc.length : Int) ≤ q ∧ (kk : Int) + s = t.length) ∧ brS t kk q d acc = (xs, E)) → kk < fuel → zZ X zm_PW_cutBracketText ((capN nb (ts.flatten.length + xs.length) - nb)) (2 * (capN nb (ts.flatten.length + xs.length) - nb)) (capN nb (ts.flatten.length + acc.length) - nb) (2 * (capN nb (ts.flatten.length + acc.length) - nb)) [zObj h 0 [.ref ht, .ref hl, .ref hs, .ref ho, .ref hn, .int (zI (q)), .int (zI (w0)), .int (zI (r0))], zBRow ht (t) (nt), zWL hl (ws) (nw), zTS hs (ts) (acc) (capN nb (ts.flatten.length + acc.length)) (n)] 28 [(0, .ref h), (1, .int (zI (p0))), (2, .int (zI (((t.length : Nat) : Int)))), (3, .int (zI (d))), (4, .int (zI (s)))] [] := by
    intro fuel
    induction fuel with
    | zero => intro kk q d acc s g0 hm; exact absurd hm (Nat.not_lt_zero _)
    | succ fuel ih =>
      intro kk q d acc s g0 hm
      obtain ⟨⟨i1, i2, i3, i4⟩, i5⟩ := g0
      obtain ⟨k, rfl⟩ : ∃ k, kk = k + 1 := ⟨kk - 1, by omega⟩
      have m1 := capN_ge nb (ts.flatten.length + acc.length)
      have m4 := capN_cov (n := nb) (by omega) (ts.flatten.length + acc.length)
      have cc : (ts.flatten ++ acc).length = ts.flatten.length + acc.length := List.length_append
      have m5 := brS_len (t := t) (k + 1) _ _ _ i5
      have m6 := capN_mono nb (show ts.flatten.length + acc.length ≤ ts.flatten.length + xs.length by omega)
      refine zw_iload 4 rfl zd_PW_cutBracketText_28 ?_
      refine zw_iload_n 2 rfl zd_PW_cutBracketText_30 ?_
      refine zw_icmp_ge 151 (by omega) (by omega) zd_PW_cutBracketText_31 (by decide) (fun c31 => ?_) (fun c31 => ?_)
      · -- 31 -> 151
        exact absurd c31 (by omega)
      · -- 31 -> 34
        refine zw_aload_n 0 rfl zd_PW_cutBracketText_34 ?_
        refine zw_get zc_PW 0 5 rfl (by decide) zf_PW_46 rfl zd_PW_cutBracketText_35 ?_
        refine zw_iload_n 2 rfl zd_PW_cutBracketText_38 ?_
        refine zw_icmp_ge 151 (by omega) (by omega) zd_PW_cutBracketText_39 (by decide) (fun c39 => ?_) (fun c39 => ?_)
        · -- 39 -> 151
          have e0 : (acc, (-1 : Int)) = (xs, E) := by rw [← i5]; show _ = if _ then _ else _; rw [if_pos (by omega)]
          obtain ⟨e1, e2⟩ := Prod.mk.inj e0
          refine zw_aload_n 0 rfl zd_PW_cutBracketText_151 ?_
          refine zw_iload_n 1 rfl zd_PW_cutBracketText_152 ?_
          refine zw_iload_n 3 rfl zd_PW_cutBracketText_153 ?_
          refine zw_if_ne 161 (by omega) zd_PW_cutBracketText_154 (by decide) (fun c154 => ?_) (fun c154 => ?_)
          · -- 154 -> 161
            refine zw_iconst zd_PW_cutBracketText_161 ?_
            refine zw_callV (As := [.int (zI (p0)), .int (zI (0))]) (rest := []) (L2 := [zWL hl (ws) (nw), zTS hs (ts) (acc) (capN nb (ts.flatten.length + acc.length)) (n)]) (L' := [zObj h 0 [.ref ht, .ref hl, .ref hs, .ref ho, .ref hn, .int (zI (q)), .int (zI (2)), .int (zI (((t.length : Nat) : Int)))], zBRow ht (t) (nt), zWL hl (ws) (nw), zTS hs (ts) (acc) (capN nb (ts.flatten.length + acc.length)) (n)]) (stk' := []) (c_PW_endText0 h ht hl hs ho hn t nt q w0 r0 p0) [0, 1] [2, 3] rfl rfl rfl zcal_PW_endText zl_PW_177 zin_PW_endText zse_PW_endText 0 rfl zRv_obj rfl (Nat.le_of_ble_eq_true rfl) (Nat.le_of_ble_eq_true rfl) (by omega) (by omega) rfl (Nat.le_of_ble_eq_true rfl) rfl rfl zd_PW_cutBracketText_162 ?_
            exact zw_vret hR rfl (by rw [← e1, show q = ((t.length : Nat) : Int) by omega]) rfl (by rw [← e1]; omega) (by rw [← e1]; omega) zd_PW_cutBracketText_165
          · -- 154 -> 157
            exact absurd c154 (by omega)
        · -- 39 -> 42
          refine zw_aload_n 0 rfl zd_PW_cutBracketText_42 ?_
          refine zw_get zc_PW 0 0 rfl (by decide) zf_PW_10 rfl zd_PW_cutBracketText_43 ?_
          refine zw_aload_n 0 rfl zd_PW_cutBracketText_46 ?_
          refine zw_get zc_PW 0 5 rfl (by decide) zf_PW_46 rfl zd_PW_cutBracketText_47 ?_
          refine zw_callV (As := [.int (zI (q))]) (rest := []) (L2 := [zObj h 0 [.ref ht, .ref hl, .ref hs, .ref ho, .ref hn, .int (zI (q)), .int (zI (w0)), .int (zI (r0))], zWL hl (ws) (nw), zTS hs (ts) (acc) (capN nb (ts.flatten.length + acc.length)) (n)]) (L' := [zBRow ht (t) (nt), zObj h 0 [.ref ht, .ref hl, .ref hs, .ref ho, .ref hn, .int (zI (q)), .int (zI (w0)), .int (zI (r0))], zWL hl (ws) (nw), zTS hs (ts) (acc) (capN nb (ts.flatten.length + acc.length)) (n)]) (stk' := [.int (zI (bget t q))]) (c_BR_get ht (t) (nt) (q) (by omega)) [1] [0, 2, 3] rfl rfl rfl zcal_BR_get zl_PW_106 zin_BR_get zse_BR_get 0 rfl zRv_BRow rfl (Nat.le_of_ble_eq_true rfl) (Nat.le_of_ble_eq_true rfl) (by omega) (by omega) rfl (Nat.le_of_ble_eq_true rfl) rfl rfl zd_PW_cutBracketText_50 ?_
          have rg50 := bget_rg hby (q)
          refine zw_istore (lv' := [(5, .int (zI (bget t q))), (0, .ref h), (1, .int (zI (p0))), (2, .int (zI (((t.length : Nat) : Int)))), (3, .int (zI (d))), (4, .int (zI (s)))]) (Nat.le_of_ble_eq_true rfl) rfl zd_PW_cutBracketText_53 ?_
          refine zw_iload_n 4 rfl zd_PW_cutBracketText_55 ?_
          refine zw_iload 0 rfl zd_PW_cutBracketText_56 ?_
          refine zw_bipush rfl zd_PW_cutBracketText_58 ?_
          refine zw_icmp_ne 67 (by omega) (by omega) zd_PW_cutBracketText_60 (by decide) (fun c60 => ?_) (fun c60 => ?_)
          · -- 60 -> 67
            refine zw_iload 0 rfl zd_PW_cutBracketText_67 ?_
            refine zw_bipush rfl zd_PW_cutBracketText_69 ?_
            refine zw_icmp_ne 78 (by omega) (by omega) zd_PW_cutBracketText_71 (by decide) (fun c71 => ?_) (fun c71 => ?_)
            · -- 71 -> 78
              refine zw_iconst zd_PW_cutBracketText_78 ?_
              refine zw_iadd zd_PW_cutBracketText_79 ?_
              refine zw_istore_n (lv' := [(3, .int (zI (d + 0))), (5, .int (zI (bget t q))), (0, .ref h), (1, .int (zI (p0))), (2, .int (zI (((t.length : Nat) : Int)))), (4, .int (zI (s)))]) (Nat.le_of_ble_eq_true rfl) rfl zd_PW_cutBracketText_80 ?_
              refine zw_iload_n 0 rfl zd_PW_cutBracketText_81 ?_
              refine zw_if_ne 88 (by omega) zd_PW_cutBracketText_82 (by decide) (fun c82 => ?_) (fun c82 => ?_)
              · -- 82 -> 88
                refine zw_iload 1 rfl zd_PW_cutBracketText_88 ?_
                refine zw_bipush rfl zd_PW_cutBracketText_90 ?_
                refine zw_icmp_ne 102 (by omega) (by omega) zd_PW_cutBracketText_92 (by decide) (fun c92 => ?_) (fun c92 => ?_)
                · -- 92 -> 102
                  refine zw_iload 1 rfl zd_PW_cutBracketText_102 ?_
                  refine zw_callS (a := 0) (As := [.int (zI (bget t q))]) (rest := []) (L2 := [zBRow ht (t) (nt), zObj h 0 [.ref ht, .ref hl, .ref hs, .ref ho, .ref hn, .int (zI (q)), .int (zI (w0)), .int (zI (r0))], zWL hl (ws) (nw), zTS hs (ts) (acc) (capN nb (ts.flatten.length + acc.length)) (n)]) (L' := [zBRow ht (t) (nt), zObj h 0 [.ref ht, .ref hl, .ref hs, .ref ho, .ref hn, .int (zI (q)), .int (zI (w0)), .int (zI (r0))], zWL hl (ws) (nw), zTS hs (ts) (acc) (capN nb (ts.flatten.length + acc.length)) (n)]) (stk' := [.int (zI (bI (sLine (bget t q))))]) (c_PW_isLineEnd (bget t q) (by omega)) [] [0, 1, 2, 3] rfl rfl rfl zcal_PW_isLineEnd zl_PW_138 zst_PW_isLineEnd (Nat.le_of_ble_eq_true rfl) (Nat.le_of_ble_eq_true rfl) (by omega) (by omega) rfl (Nat.le_of_ble_eq_true rfl) rfl rfl zd_PW_cutBracketText_104 ?_
                  have rb104 := bI_rg (sLine (bget t q))
                  refine zw_if_eq 126 (by omega) zd_PW_cutBracketText_107 (by decide) (fun c107 => ?_) (fun c107 => ?_)
                  · -- 107 -> 126
                    have hln : ¬ (bget t q = 10 ∨ bget t q = 13) := of_decide_eq_false (zbI0 (b := sLine (bget t q)) (by omega))
                    have bb := bget_byte hby (z := q) (by omega)
                    have e7 : brS t k (q + 1) (d + 0) (acc ++ [bget t q]) = (xs, E) := by
                      rw [← i5]
                      show _ = if _ then _ else _
                      rw [if_neg (by omega), if_neg (by omega)]; (first | rw [if_pos (show bget t q = 40 by omega)] | rw [if_neg (show ¬ bget t q = 40 by omega), if_pos (show bget t q = 41 by omega)] | rw [if_neg (show ¬ bget t q = 40 by omega), if_neg (show ¬ bget t q = 41 by omega)]); rw [if_neg (by omega), if_neg (show ¬ (bget t q = 13 ∧ bget t (q + 1) = 10) by omega), if_neg (show ¬ bget t q = 13 by omega)]
                    have m8 := brS_len (t := t) k _ _ _ e7
                    rw [List.length_append, List.length_singleton] at m8
                    have m9 := capN_mono nb (show ts.flatten.length + acc.length + 1 ≤ ts.flatten.length + xs.length by omega)
                    have e6 := capN_next (n := nb) (by omega) (ts.flatten.length + acc.length)
                    have m7 := capN_ge (capN nb (ts.flatten.length + acc.length)) (ts.flatten.length + acc.length + 1)
                    refine zw_aload_n 2 rfl zd_PW_cutBracketText_126 ?_
                    refine zw_dup rfl zd_PW_cutBracketText_127 ?_
                    refine zw_get zc_PW 1 5 rfl (by decide) zf_PW_46 rfl zd_PW_cutBracketText_128 ?_
                    refine zw_iconst zd_PW_cutBracketText_131 ?_
                    refine zw_iadd zd_PW_cutBracketText_132 ?_
                    refine zw_put (L' := [zBRow ht (t) (nt), zObj h 0 [.ref ht, .ref hl, .ref hs, .ref ho, .ref hn, .int (zI (q + 1)), .int (zI (w0)), .int (zI (r0))], zWL hl (ws) (nw), zTS hs (ts) (acc) (capN nb (ts.flatten.length + acc.length)) (n)]) zc_PW 1 5 rfl (by decide) zf_PW_46 rfl rfl rfl (Nat.le_of_ble_eq_true rfl) rfl zd_PW_cutBracketText_133 ?_
                    refine zw_aload_n 2 rfl zd_PW_cutBracketText_136 ?_
                    refine zw_get zc_PW 1 2 rfl (by decide) zf_PW_26 rfl zd_PW_cutBracketText_137 ?_
                    refine zw_iload 1 rfl zd_PW_cutBracketText_140 ?_
                    refine zw_callV (As := [.int (zI (bget t q))]) (rest := []) (L2 := [zBRow ht (t) (nt), zObj h 0 [.ref ht, .ref hl, .ref hs, .ref ho, .ref hn, .int (zI (q + 1)), .int (zI (w0)), .int (zI (r0))], zWL hl (ws) (nw)]) (L' := [zTS hs (ts) (acc ++ [(bget t q) % 256]) (capN (capN nb (ts.flatten.length + acc.length)) (ts.flatten.length + acc.length + 1)) (n), zBRow ht (t) (nt), zObj h 0 [.ref ht, .ref hl, .ref hs, .ref ho, .ref hn, .int (zI (q + 1)), .int (zI (w0)), .int (zI (r0))], zWL hl (ws) (nw)]) (stk' := []) (c_TS_putC hs (ts) (acc) (capN nb (ts.flatten.length + acc.length)) (n) (bget t q) (ts.flatten.length + acc.length) (cc) (by omega) (by omega)) [3] [0, 1, 2] rfl rfl rfl zcal_TS_put zl_PW_160 zin_TS_put zse_TS_put 0 rfl zRv_TS rfl (Nat.le_of_ble_eq_true rfl) (Nat.le_of_ble_eq_true rfl) (by omega) (by omega) rfl (Nat.le_of_ble_eq_true rfl) rfl rfl zd_PW_cutBracketText_142 ?_
                    refine zw_iinc (lv' := [(4, .int (zI (s + 1))), (3, .int (zI (d + 0))), (5, .int (zI (bget t q))), (0, .ref h), (1, .int (zI (p0))), (2, .int (zI (((t.length : Nat) : Int))))]) 5 rfl (Nat.le_of_ble_eq_true rfl) rfl zd_PW_cutBracketText_145 ?_
                    refine zw_goto 28 zd_PW_cutBracketText_148 (by decide) ?_
                    refine zw_sub (L' := [zObj h 0 [.ref ht, .ref hl, .ref hs, .ref ho, .ref hn, .int (zI (q + 1)), .int (zI (w0)), .int (zI (r0))], zBRow ht (t) (nt), zWL hl (ws) (nw), zTS hs (ts) (acc ++ [(bget t q) % 256]) (capN (capN nb (ts.flatten.length + acc.length)) (ts.flatten.length + acc.length + 1)) (n)]) [2, 1, 3, 0] rfl rfl ?_
                    refine zw_lpick (lv' := [(0, .ref h), (1, .int (zI (p0))), (2, .int (zI (((t.length : Nat) : Int)))), (3, .int (zI (d + 0))), (4, .int (zI (s + 1)))]) [3, 4, 5, 1, 0] rfl ?_
                    refine zw_eqL (L' := [zObj h 0 [.ref ht, .ref hl, .ref hs, .ref ho, .ref hn, .int (zI (q + 1)), .int (zI (w0)), .int (zI (r0))], zBRow ht (t) (nt), zWL hl (ws) (nw), zTS hs (ts) (acc ++ [bget t q]) (capN nb (ts.flatten.length + (acc ++ [bget t q]).length)) (n)]) (by rw [e6, Int.emod_eq_of_lt bb.1 (by omega), List.length_append, List.length_singleton, Nat.add_assoc]) ?_
                    refine zw_widen (k' := capN nb (ts.flatten.length + (acc ++ [bget t q]).length) - nb) (n' := 2 * (capN nb (ts.flatten.length + (acc ++ [bget t q]).length) - nb)) (by rw [List.length_append, List.length_singleton, ← Nat.add_assoc]; omega) (by rw [List.length_append, List.length_singleton, ← Nat.add_assoc]; omega) ?_
                    exact ih k _ (d + 0) _ (s + 1) ⟨⟨by omega, by omega, by rw [List.length_append, List.length_singleton]; omega, by omega⟩, e7⟩ (by omega)
                  · -- 107 -> 110
                    have hln : bget t q = 10 ∨ bget t q = 13 := of_decide_eq_true (zbI1 (b := sLine (bget t q)) (by omega))
                    have lr := lnPos_rg (t := t) (p := q) (by omega)
                    have e7 : brS t k (lnPos t q) (d + 0) (acc ++ [10]) = (xs, E) := by
                      rw [← i5]
                      show _ = if _ then _ else _
                      rw [if_neg (by omega), if_neg (by omega)]; (first | rw [if_pos (show bget t q = 40 by omega)] | rw [if_neg (show ¬ bget t q = 40 by omega), if_pos (show bget t q = 41 by omega)] | rw [if_neg (show ¬ bget t q = 40 by omega), if_neg (show ¬ bget t q = 41 by omega)]); rw [if_neg (by omega), show (if bget t q = 13 then (10 : Int) else bget t q) = 10 by split <;> omega]; rfl
                    have m8 := brS_len (t := t) k _ _ _ e7
                    rw [List.length_append, List.length_singleton] at m8
                    have m9 := capN_mono nb (show ts.flatten.length + acc.length + 1 ≤ ts.flatten.length + xs.length by omega)
                    have e6 := capN_next (n := nb) (by omega) (ts.flatten.length + acc.length)
                    have m7 := capN_ge (capN nb (ts.flatten.length + acc.length)) (ts.flatten.length + acc.length + 1)
                    refine zw_aload_n 2 rfl zd_PW_cutBracketText_110 ?_
                    refine zw_callV (As := []) (rest := []) (L2 := [zWL hl (ws) (nw), zTS hs (ts) (acc) (capN nb (ts.flatten.length + acc.length)) (n)]) (L' := [zObj h 0 [.ref ht, .ref hl, .ref hs, .ref ho, .ref hn, .int (zI (lnPos t q)), .int (zI (w0)), .int (zI (r0))], zBRow ht (t) (nt), zWL hl (ws) (nw), zTS hs (ts) (acc) (capN nb (ts.flatten.length + acc.length)) (n)]) (stk' := []) (c_PW_skipLineEnd h ht hl hs ho hn t nt q w0 r0 (by omega)) [1, 0] [2, 3] rfl rfl rfl zcal_PW_skipLineEnd zl_PW_184 zin_PW_skipLineEnd zse_PW_skipLineEnd 0 rfl zRv_obj rfl (Nat.le_of_ble_eq_true rfl) (Nat.le_of_ble_eq_true rfl) (by omega) (by omega) rfl (Nat.le_of_ble_eq_true rfl) rfl rfl zd_PW_cutBracketText_111 ?_
                    refine zw_aload_n 2 rfl zd_PW_cutBracketText_114 ?_
                    refine zw_get zc_PW 0 2 rfl (by decide) zf_PW_26 rfl zd_PW_cutBracketText_115 ?_
                    refine zw_bipush rfl zd_PW_cutBracketText_118 ?_
                    refine zw_callV (As := [.int (zI (10))]) (rest := []) (L2 := [zObj h 0 [.ref ht, .ref hl, .ref hs, .ref ho, .ref hn, .int (zI (lnPos t q)), .int (zI (w0)), .int (zI (r0))], zBRow ht (t) (nt), zWL hl (ws) (nw)]) (L' := [zTS hs (ts) (acc ++ [(10) % 256]) (capN (capN nb (ts.flatten.length + acc.length)) (ts.flatten.length + acc.length + 1)) (n), zObj h 0 [.ref ht, .ref hl, .ref hs, .ref ho, .ref hn, .int (zI (lnPos t q)), .int (zI (w0)), .int (zI (r0))], zBRow ht (t) (nt), zWL hl (ws) (nw)]) (stk' := []) (c_TS_putC hs (ts) (acc) (capN nb (ts.flatten.length + acc.length)) (n) (10) (ts.flatten.length + acc.length) (cc) (by omega) (by omega)) [3] [0, 1, 2] rfl rfl rfl zcal_TS_put zl_PW_160 zin_TS_put zse_TS_put 0 rfl zRv_TS rfl (Nat.le_of_ble_eq_true rfl) (Nat.le_of_ble_eq_true rfl) (by omega) (by omega) rfl (Nat.le_of_ble_eq_true rfl) rfl rfl zd_PW_cutBracketText_120 ?_
                    refine zw_goto 145 zd_PW_cutBracketText_123 (by decide) ?_
                    refine zw_iinc (lv' := [(4, .int (zI (s + 1))), (3, .int (zI (d + 0))), (5, .int (zI (bget t q))), (0, .ref h), (1, .int (zI (p0))), (2, .int (zI (((t.length : Nat) : Int))))]) 5 rfl (Nat.le_of_ble_eq_true rfl) rfl zd_PW_cutBracketText_145 ?_
                    refine zw_goto 28 zd_PW_cutBracketText_148 (by decide) ?_
                    refine zw_sub (L' := [zObj h 0 [.ref ht, .ref hl, .ref hs, .ref ho, .ref hn, .int (zI (lnPos t q)), .int (zI (w0)), .int (zI (r0))], zBRow ht (t) (nt), zWL hl (ws) (nw), zTS hs (ts) (acc ++ [(10) % 256]) (capN (capN nb (ts.flatten.length + acc.length)) (ts.flatten.length + acc.length + 1)) (n)]) [1, 2, 3, 0] rfl rfl ?_
                    refine zw_lpick (lv' := [(0, .ref h), (1, .int (zI (p0))), (2, .int (zI (((t.length : Nat) : Int)))), (3, .int (zI (d + 0))), (4, .int (zI (s + 1)))]) [3, 4, 5, 1, 0] rfl ?_
                    refine zw_eqL (L' := [zObj h 0 [.ref ht, .ref hl, .ref hs, .ref ho, .ref hn, .int (zI (lnPos t q)), .int (zI (w0)), .int (zI (r0))], zBRow ht (t) (nt), zWL hl (ws) (nw), zTS hs (ts) (acc ++ [10]) (capN nb (ts.flatten.length + (acc ++ [10]).length)) (n)]) (by rw [e6, show (10 : Int) % 256 = 10 by decide, List.length_append, List.length_singleton, Nat.add_assoc]) ?_
                    refine zw_widen (k' := capN nb (ts.flatten.length + (acc ++ [10]).length) - nb) (n' := 2 * (capN nb (ts.flatten.length + (acc ++ [10]).length) - nb)) (by rw [List.length_append, List.length_singleton, ← Nat.add_assoc]; omega) (by rw [List.length_append, List.length_singleton, ← Nat.add_assoc]; omega) ?_
                    exact ih k _ (d + 0) _ (s + 1) ⟨⟨by omega, by omega, by rw [List.length_append, List.length_singleton]; omega, by omega⟩, e7⟩ (by omega)
                · -- 92 -> 95
                  have er := escS_rg (t := t) (q := q + 1) (by omega)
                  have m7 := capN_ge (capN nb (ts.flatten.length + acc.length)) ((ts.flatten ++ acc).length + (escS t (q + 1)).1.length)
                  have e6 : capN (capN nb (ts.flatten.length + acc.length)) ((ts.flatten ++ acc).length + (escS t (q + 1)).1.length) = capN nb (ts.flatten.length + (acc ++ (escS t (q + 1)).1).length) := by rw [cc, capN_more (by omega), List.length_append, Nat.add_assoc]
                  have e7 : brS t k (escS t (q + 1)).2 d (acc ++ (escS t (q + 1)).1) = (xs, E) := by rw [← i5]; show _ = if _ then _ else _; rw [if_neg (by omega), if_pos (by omega)]
                  have m8 := brS_len (t := t) k _ _ _ e7
                  have m9 := capN_mono nb (show ts.flatten.length + (acc ++ (escS t (q + 1)).1).length ≤ ts.flatten.length + xs.length by omega)
                  refine zw_aload_n 2 rfl zd_PW_cutBracketText_95 ?_
                  refine zw_callV (As := []) (rest := []) (L2 := [zWL hl (ws) (nw)]) (L' := [zObj h 0 [.ref ht, .ref hl, .ref hs, .ref ho, .ref hn, .int (zI ((escS t (q + 1)).2)), .int (zI (w0)), .int (zI (r0))], zBRow ht (t) (nt), zTS hs (ts) (acc ++ (escS t (q + 1)).1) (capN (capN nb (ts.flatten.length + acc.length)) ((ts.flatten ++ acc).length + (escS t (q + 1)).1.length)) (n), zWL hl (ws) (nw)]) (stk' := []) (c_PW_takeEscaped h ht hl hs ho hn t nt q w0 r0 ts acc (capN nb (ts.flatten.length + acc.length)) n (by omega) (by omega)) [1, 0, 3] [2] rfl rfl rfl zcal_PW_takeEscaped zl_PW_181 zin_PW_takeEscaped zse_PW_takeEscaped 0 rfl zRv_obj rfl (Nat.le_of_ble_eq_true rfl) (Nat.le_of_ble_eq_true rfl) (by omega) (by omega) rfl (Nat.le_of_ble_eq_true rfl) rfl rfl zd_PW_cutBracketText_96 ?_
                  refine zw_goto 145 zd_PW_cutBracketText_99 (by decide) ?_
                  refine zw_iinc (lv' := [(4, .int (zI (s + 1))), (3, .int (zI (d + 0))), (5, .int (zI (bget t q))), (0, .ref h), (1, .int (zI (p0))), (2, .int (zI (((t.length : Nat) : Int))))]) 5 rfl (Nat.le_of_ble_eq_true rfl) rfl zd_PW_cutBracketText_145 ?_
                  refine zw_goto 28 zd_PW_cutBracketText_148 (by decide) ?_
                  refine zw_sub (L' := [zObj h 0 [.ref ht, .ref hl, .ref hs, .ref ho, .ref hn, .int (zI ((escS t (q + 1)).2)), .int (zI (w0)), .int (zI (r0))], zBRow ht (t) (nt), zWL hl (ws) (nw), zTS hs (ts) (acc ++ (escS t (q + 1)).1) (capN (capN nb (ts.flatten.length + acc.length)) ((ts.flatten ++ acc).length + (escS t (q + 1)).1.length)) (n)]) [0, 1, 3, 2] rfl rfl ?_
                  refine zw_lpick (lv' := [(0, .ref h), (1, .int (zI (p0))), (2, .int (zI (((t.length : Nat) : Int)))), (3, .int (zI (d + 0))), (4, .int (zI (s + 1)))]) [3, 4, 5, 1, 0] rfl ?_
                  refine zw_eqL (L' := [zObj h 0 [.ref ht, .ref hl, .ref hs, .ref ho, .ref hn, .int (zI ((escS t (q + 1)).2)), .int (zI (w0)), .int (zI (r0))], zBRow ht (t) (nt), zWL hl (ws) (nw), zTS hs (ts) (acc ++ (escS t (q + 1)).1) (capN nb (ts.flatten.length + (acc ++ (escS t (q + 1)).1).length)) (n)]) (by rw [e6]) ?_
                  refine zw_eqv (lv' := [(0, .ref h), (1, .int (zI (p0))), (2, .int (zI (((t.length : Nat) : Int)))), (3, .int (zI (d))), (4, .int (zI (s + 1)))]) (by rw [Int.add_zero]) ?_
                  refine zw_widen (k' := capN nb (ts.flatten.length + (acc ++ (escS t (q + 1)).1).length) - nb) (n' := 2 * (capN nb (ts.flatten.length + (acc ++ (escS t (q + 1)).1).length) - nb)) (by omega) (by omega) ?_
                  exact ih k _ d _ (s + 1) ⟨⟨by omega, by omega, by rw [List.length_append]; omega, by omega⟩, e7⟩ (by omega)
              · -- 82 -> 85
                refine zw_goto 151 zd_PW_cutBracketText_85 (by decide) ?_
                have e0 : (acc, q) = (xs, E) := by
                  rw [← i5]
                  show _ = if _ then _ else _
                  rw [if_neg (by omega), if_neg (by omega), if_pos (by first | (rw [if_pos (by omega)]; omega) | (rw [if_neg (by omega), if_pos (by omega)]; omega) | (rw [if_neg (by omega), if_neg (by omega)]; omega))]
                obtain ⟨e1, e2⟩ := Prod.mk.inj e0
                exact absurd hE (by omega)
            · -- 71 -> 74
              refine zw_iconst zd_PW_cutBracketText_74 ?_
              refine zw_goto 79 zd_PW_cutBracketText_75 (by decide) ?_
              refine zw_iadd zd_PW_cutBracketText_79 ?_
              refine zw_istore_n (lv' := [(3, .int (zI (d + (-1)))), (5, .int (zI (bget t q))), (0, .ref h), (1, .int (zI (p0))), (2, .int (zI (((t.length : Nat) : Int)))), (4, .int (zI (s)))]) (Nat.le_of_ble_eq_true rfl) rfl zd_PW_cutBracketText_80 ?_
              refine zw_iload_n 0 rfl zd_PW_cutBracketText_81 ?_
              refine zw_if_ne 88 (by omega) zd_PW_cutBracketText_82 (by decide) (fun c82 => ?_) (fun c82 => ?_)
              · -- 82 -> 88
                refine zw_iload 1 rfl zd_PW_cutBracketText_88 ?_
                refine zw_bipush rfl zd_PW_cutBracketText_90 ?_
                refine zw_icmp_ne 102 (by omega) (by omega) zd_PW_cutBracketText_92 (by decide) (fun c92 => ?_) (fun c92 => ?_)
                · -- 92 -> 102
                  refine zw_iload 1 rfl zd_PW_cutBracketText_102 ?_
                  refine zw_callS (a := 0) (As := [.int (zI (bget t q))]) (rest := []) (L2 := [zBRow ht (t) (nt), zObj h 0 [.ref ht, .ref hl, .ref hs, .ref ho, .ref hn, .int (zI (q)), .int (zI (w0)), .int (zI (r0))], zWL hl (ws) (nw), zTS hs (ts) (acc) (capN nb (ts.flatten.length + acc.length)) (n)]) (L' := [zBRow ht (t) (nt), zObj h 0 [.ref ht, .ref hl, .ref hs, .ref ho, .ref hn, .int (zI (q)), .int (zI (w0)), .int (zI (r0))], zWL hl (ws) (nw), zTS hs (ts) (acc) (capN nb (ts.flatten.length + acc.length)) (n)]) (stk' := [.int (zI (bI (sLine (bget t q))))]) (c_PW_isLineEnd (bget t q) (by omega)) [] [0, 1, 2, 3] rfl rfl rfl zcal_PW_isLineEnd zl_PW_138 zst_PW_isLineEnd (Nat.le_of_ble_eq_true rfl) (Nat.le_of_ble_eq_true rfl) (by omega) (by omega) rfl (Nat.le_of_ble_eq_true rfl) rfl rfl zd_PW_cutBracketText_104 ?_
                  have rb104 := bI_rg (sLine (bget t q))
                  refine zw_if_eq 126 (by omega) zd_PW_cutBracketText_107 (by decide) (fun c107 => ?_) (fun c107 => ?_)
                  · -- 107 -> 126
                    have hln : ¬ (bget t q = 10 ∨ bget t q = 13) := of_decide_eq_false (zbI0 (b := sLine (bget t q)) (by omega))
                    have bb := bget_byte hby (z := q) (by omega)
                    have e7 : brS t k (q + 1) (d + (-1)) (acc ++ [bget t q]) = (xs, E) := by
                      rw [← i5]
                      show _ = if _ then _ else _
                      rw [if_neg (by omega), if_neg (by omega)]; (first | rw [if_pos (show bget t q = 40 by omega)] | rw [if_neg (show ¬ bget t q = 40 by omega), if_pos (show bget t q = 41 by omega)] | rw [if_neg (show ¬ bget t q = 40 by omega), if_neg (show ¬ bget t q = 41 by omega)]); rw [if_neg (by omega), if_neg (show ¬ (bget t q = 13 ∧ bget t (q + 1) = 10) by omega), if_neg (show ¬ bget t q = 13 by omega)]
                    have m8 := brS_len (t := t) k _ _ _ e7
                    rw [List.length_append, List.length_singleton] at m8
                    have m9 := capN_mono nb (show ts.flatten.length + acc.length + 1 ≤ ts.flatten.length + xs.length by omega)
                    have e6 := capN_next (n := nb) (by omega) (ts.flatten.length + acc.length)
                    have m7 := capN_ge (capN nb (ts.flatten.length + acc.length)) (ts.flatten.length + acc.length + 1)
                    refine zw_aload_n 2 rfl zd_PW_cutBracketText_126 ?_
                    refine zw_dup rfl zd_PW_cutBracketText_127 ?_
                    refine zw_get zc_PW 1 5 rfl (by decide) zf_PW_46 rfl zd_PW_cutBracketText_128 ?_
                    refine zw_iconst zd_PW_cutBracketText_131 ?_
                    refine zw_iadd zd_PW_cutBracketText_132 ?_
                    refine zw_put (L' := [zBRow ht (t) (nt), zObj h 0 [.ref ht, .ref hl, .ref hs, .ref ho, .ref hn, .int (zI (q + 1)), .int (zI (w0)), .int (zI (r0))], zWL hl (ws) (nw), zTS hs (ts) (acc) (capN nb (ts.flatten.length + acc.length)) (n)]) zc_PW 1 5 rfl (by decide) zf_PW_46 rfl rfl rfl (Nat.le_of_ble_eq_true rfl) rfl zd_PW_cutBracketText_133 ?_
                    refine zw_aload_n 2 rfl zd_PW_cutBracketText_136 ?_
                    refine zw_get zc_PW 1 2 rfl (by decide) zf_PW_26 rfl zd_PW_cutBracketText_137 ?_
                    refine zw_iload 1 rfl zd_PW_cutBracketText_140 ?_
                    refine zw_callV (As := [.int (zI (bget t q))]) (rest := []) (L2 := [zBRow ht (t) (nt), zObj h 0 [.ref ht, .ref hl, .ref hs, .ref ho, .ref hn, .int (zI (q + 1)), .int (zI (w0)), .int (zI (r0))], zWL hl (ws) (nw)]) (L' := [zTS hs (ts) (acc ++ [(bget t q) % 256]) (capN (capN nb (ts.flatten.length + acc.length)) (ts.flatten.length + acc.length + 1)) (n), zBRow ht (t) (nt), zObj h 0 [.ref ht, .ref hl, .ref hs, .ref ho, .ref hn, .int (zI (q + 1)), .int (zI (w0)), .int (zI (r0))], zWL hl (ws) (nw)]) (stk' := []) (c_TS_putC hs (ts) (acc) (capN nb (ts.flatten.length + acc.length)) (n) (bget t q) (ts.flatten.length + acc.length) (cc) (by omega) (by omega)) [3] [0, 1, 2] rfl rfl rfl zcal_TS_put zl_PW_160 zin_TS_put zse_TS_put 0 rfl zRv_TS rfl (Nat.le_of_ble_eq_true rfl) (Nat.le_of_ble_eq_true rfl) (by omega) (by omega) rfl (Nat.le_of_ble_eq_true rfl) rfl rfl zd_PW_cutBracketText_142 ?_
                    refine zw_iinc (lv' := [(4, .int (zI (s + 1))), (3, .int (zI (d + (-1)))), (5, .int (zI (bget t q))), (0, .ref h), (1, .int (zI (p0))), (2, .int (zI (((t.length : Nat) : Int))))]) 5 rfl (Nat.le_of_ble_eq_true rfl) rfl zd_PW_cutBracketText_145 ?_
                    refine zw_goto 28 zd_PW_cutBracketText_148 (by decide) ?_
                    refine zw_sub (L' := [zObj h 0 [.ref ht, .ref hl, .ref hs, .ref ho, .ref hn, .int (zI (q + 1)), .int (zI (w0)), .int (zI (r0))], zBRow ht (t) (nt), zWL hl (ws) (nw), zTS hs (ts) (acc ++ [(bget t q) % 256]) (capN (capN nb (ts.flatten.length + acc.length)) (ts.flatten.length + acc.length + 1)) (n)]) [2, 1, 3, 0] rfl rfl ?_
                    refine zw_lpick (lv' := [(0, .ref h), (1, .int (zI (p0))), (2, .int (zI (((t.length : Nat) : Int)))), (3, .int (zI (d + (-1)))), (4, .int (zI (s + 1)))]) [3, 4, 5, 1, 0] rfl ?_
                    refine zw_eqL (L' := [zObj h 0 [.ref ht, .ref hl, .ref hs, .ref ho, .ref hn, .int (zI (q + 1)), .int (zI (w0)), .int (zI (r0))], zBRow ht (t) (nt), zWL hl (ws) (nw), zTS hs (ts) (acc ++ [bget t q]) (capN nb (ts.flatten.length + (acc ++ [bget t q]).length)) (n)]) (by rw [e6, Int.emod_eq_of_lt bb.1 (by omega), List.length_append, List.length_singleton, Nat.add_assoc]) ?_
                    refine zw_widen (k' := capN nb (ts.flatten.length + (acc ++ [bget t q]).length) - nb) (n' := 2 * (capN nb (ts.flatten.length + (acc ++ [bget t q]).length) - nb)) (by rw [List.length_append, List.length_singleton, ← Nat.add_assoc]; omega) (by rw [List.length_append, List.length_singleton, ← Nat.add_assoc]; omega) ?_
                    exact ih k _ (d + (-1)) _ (s + 1) ⟨⟨by omega, by omega, by rw [List.length_append, List.length_singleton]; omega, by omega⟩, e7⟩ (by omega)
                  · -- 107 -> 110
                    have hln : bget t q = 10 ∨ bget t q = 13 := of_decide_eq_true (zbI1 (b := sLine (bget t q)) (by omega))
                    omega
                · -- 92 -> 95
                  exact absurd c92 (by omega)
              · -- 82 -> 85
                refine zw_goto 151 zd_PW_cutBracketText_85 (by decide) ?_
                have e0 : (acc, q) = (xs, E) := by
                  rw [← i5]
                  show _ = if _ then _ else _
                  rw [if_neg (by omega), if_neg (by omega), if_pos (by first | (rw [if_pos (by omega)]; omega) | (rw [if_neg (by omega), if_pos (by omega)]; omega) | (rw [if_neg (by omega), if_neg (by omega)]; omega))]
                obtain ⟨e1, e2⟩ := Prod.mk.inj e0
                exact absurd hE (by omega)
          · -- 60 -> 63
            refine zw_iconst zd_PW_cutBracketText_63 ?_
            refine zw_goto 79 zd_PW_cutBracketText_64 (by decide) ?_
            refine zw_iadd zd_PW_cutBracketText_79 ?_
            refine zw_istore_n (lv' := [(3, .int (zI (d + 1))), (5, .int (zI (bget t q))), (0, .ref h), (1, .int (zI (p0))), (2, .int (zI (((t.length : Nat) : Int)))), (4, .int (zI (s)))]) (Nat.le_of_ble_eq_true rfl) rfl zd_PW_cutBracketText_80 ?_
            refine zw_iload_n 0 rfl zd_PW_cutBracketText_81 ?_
            refine zw_if_ne 88 (by omega) zd_PW_cutBracketText_82 (by decide) (fun c82 => ?_) (fun c82 => ?_)
            · -- 82 -> 88
              refine zw_iload 1 rfl zd_PW_cutBracketText_88 ?_
              refine zw_bipush rfl zd_PW_cutBracketText_90 ?_
              refine zw_icmp_ne 102 (by omega) (by omega) zd_PW_cutBracketText_92 (by decide) (fun c92 => ?_) (fun c92 => ?_)
              · -- 92 -> 102
                refine zw_iload 1 rfl zd_PW_cutBracketText_102 ?_
                refine zw_callS (a := 0) (As := [.int (zI (bget t q))]) (rest := []) (L2 := [zBRow ht (t) (nt), zObj h 0 [.ref ht, .ref hl, .ref hs, .ref ho, .ref hn, .int (zI (q)), .int (zI (w0)), .int (zI (r0))], zWL hl (ws) (nw), zTS hs (ts) (acc) (capN nb (ts.flatten.length + acc.length)) (n)]) (L' := [zBRow ht (t) (nt), zObj h 0 [.ref ht, .ref hl, .ref hs, .ref ho, .ref hn, .int (zI (q)), .int (zI (w0)), .int (zI (r0))], zWL hl (ws) (nw), zTS hs (ts) (acc) (capN nb (ts.flatten.length + acc.length)) (n)]) (stk' := [.int (zI (bI (sLine (bget t q))))]) (c_PW_isLineEnd (bget t q) (by omega)) [] [0, 1, 2, 3] rfl rfl rfl zcal_PW_isLineEnd zl_PW_138 zst_PW_isLineEnd (Nat.le_of_ble_eq_true rfl) (Nat.le_of_ble_eq_true rfl) (by omega) (by omega) rfl (Nat.le_of_ble_eq_true rfl) rfl rfl zd_PW_cutBracketText_104 ?_
                have rb104 := bI_rg (sLine (bget t q))
                refine zw_if_eq 126 (by omega) zd_PW_cutBracketText_107 (by decide) (fun c107 => ?_) (fun c107 => ?_)
                · -- 107 -> 126
                  have hln : ¬ (bget t q = 10 ∨ bget t q = 13) := of_decide_eq_false (zbI0 (b := sLine (bget t q)) (by omega))
                  have bb := bget_byte hby (z := q) (by omega)
                  have e7 : brS t k (q + 1) (d + 1) (acc ++ [bget t q]) = (xs, E) := by
                    rw [← i5]
                    show _ = if _ then _ else _
                    rw [if_neg (by omega), if_neg (by omega)]; (first | rw [if_pos (show bget t q = 40 by omega)] | rw [if_neg (show ¬ bget t q = 40 by omega), if_pos (show bget t q = 41 by omega)] | rw [if_neg (show ¬ bget t q = 40 by omega), if_neg (show ¬ bget t q = 41 by omega)]); rw [if_neg (by omega), if_neg (show ¬ (bget t q = 13 ∧ bget t (q + 1) = 10) by omega), if_neg (show ¬ bget t q = 13 by omega)]
                  have m8 := brS_len (t := t) k _ _ _ e7
                  rw [List.length_append, List.length_singleton] at m8
                  have m9 := capN_mono nb (show ts.flatten.length + acc.length + 1 ≤ ts.flatten.length + xs.length by omega)
                  have e6 := capN_next (n := nb) (by omega) (ts.flatten.length + acc.length)
                  have m7 := capN_ge (capN nb (ts.flatten.length + acc.length)) (ts.flatten.length + acc.length + 1)
                  refine zw_aload_n 2 rfl zd_PW_cutBracketText_126 ?_
                  refine zw_dup rfl zd_PW_cutBracketText_127 ?_
                  refine zw_get zc_PW 1 5 rfl (by decide) zf_PW_46 rfl zd_PW_cutBracketText_128 ?_
                  refine zw_iconst zd_PW_cutBracketText_131 ?_
                  refine zw_iadd zd_PW_cutBracketText_132 ?_
                  refine zw_put (L' := [zBRow ht (t) (nt), zObj h 0 [.ref ht, .ref hl, .ref hs, .ref ho, .ref hn, .int (zI (q + 1)), .int (zI (w0)), .int (zI (r0))], zWL hl (ws) (nw), zTS hs (ts) (acc) (capN nb (ts.flatten.length + acc.length)) (n)]) zc_PW 1 5 rfl (by decide) zf_PW_46 rfl rfl rfl (Nat.le_of_ble_eq_true rfl) rfl zd_PW_cutBracketText_133 ?_
                  refine zw_aload_n 2 rfl zd_PW_cutBracketText_136 ?_
                  refine zw_get zc_PW 1 2 rfl (by decide) zf_PW_26 rfl zd_PW_cutBracketText_137 ?_
                  refine zw_iload 1 rfl zd_PW_cutBracketText_140 ?_
                  refine zw_callV (As := [.int (zI (bget t q))]) (rest := []) (L2 := [zBRow ht (t) (nt), zObj h 0 [.ref ht, .ref hl, .ref hs, .ref ho, .ref hn, .int (zI (q + 1)), .int (zI (w0)), .int (zI (r0))], zWL hl (ws) (nw)]) (L' := [zTS hs (ts) (acc ++ [(bget t q) % 256]) (capN (capN nb (ts.flatten.length + acc.length)) (ts.flatten.length + acc.length + 1)) (n), zBRow ht (t) (nt), zObj h 0 [.ref ht, .ref hl, .ref hs, .ref ho, .ref hn, .int (zI (q + 1)), .int (zI (w0)), .int (zI (r0))], zWL hl (ws) (nw)]) (stk' := []) (c_TS_putC hs (ts) (acc) (capN nb (ts.flatten.length + acc.length)) (n) (bget t q) (ts.flatten.length + acc.length) (cc) (by omega) (by omega)) [3] [0, 1, 2] rfl rfl rfl zcal_TS_put zl_PW_160 zin_TS_put zse_TS_put 0 rfl zRv_TS rfl (Nat.le_of_ble_eq_true rfl) (Nat.le_of_ble_eq_true rfl) (by omega) (by omega) rfl (Nat.le_of_ble_eq_true rfl) rfl rfl zd_PW_cutBracketText_142 ?_
                  refine zw_iinc (lv' := [(4, .int (zI (s + 1))), (3, .int (zI (d + 1))), (5, .int (zI (bget t q))), (0, .ref h), (1, .int (zI (p0))), (2, .int (zI (((t.length : Nat) : Int))))]) 5 rfl (Nat.le_of_ble_eq_true rfl) rfl zd_PW_cutBracketText_145 ?_
                  refine zw_goto 28 zd_PW_cutBracketText_148 (by decide) ?_
                  refine zw_sub (L' := [zObj h 0 [.ref ht, .ref hl, .ref hs, .ref ho, .ref hn, .int (zI (q + 1)), .int (zI (w0)), .int (zI (r0))], zBRow ht (t) (nt), zWL hl (ws) (nw), zTS hs (ts) (acc ++ [(bget t q) % 256]) (capN (capN nb (ts.flatten.length + acc.length)) (ts.flatten.length + acc.length + 1)) (n)]) [2, 1, 3, 0] rfl rfl ?_
                  refine zw_lpick (lv' := [(0, .ref h), (1, .int (zI (p0))), (2, .int (zI (((t.length : Nat) : Int)))), (3, .int (zI (d + 1))), (4, .int (zI (s + 1)))]) [3, 4, 5, 1, 0] rfl ?_
                  refine zw_eqL (L' := [zObj h 0 [.ref ht, .ref hl, .ref hs, .ref ho, .ref hn, .int (zI (q + 1)), .int (zI (w0)), .int (zI (r0))], zBRow ht (t) (nt), zWL hl (ws) (nw), zTS hs (ts) (acc ++ [bget t q]) (capN nb (ts.flatten.length + (acc ++ [bget t q]).length)) (n)]) (by rw [e6, Int.emod_eq_of_lt bb.1 (by omega), List.length_append, List.length_singleton, Nat.add_assoc]) ?_
                  refine zw_widen (k' := capN nb (ts.flatten.length + (acc ++ [bget t q]).length) - nb) (n' := 2 * (capN nb (ts.flatten.length + (acc ++ [bget t q]).length) - nb)) (by rw [List.length_append, List.length_singleton, ← Nat.add_assoc]; omega) (by rw [List.length_append, List.length_singleton, ← Nat.add_assoc]; omega) ?_
                  exact ih k _ (d + 1) _ (s + 1) ⟨⟨by omega, by omega, by rw [List.length_append, List.length_singleton]; omega, by omega⟩, e7⟩ (by omega)
                · -- 107 -> 110
                  have hln : bget t q = 10 ∨ bget t q = 13 := of_decide_eq_true (zbI1 (b := sLine (bget t q)) (by omega))
                  omega
              · -- 92 -> 95
                exact absurd c92 (by omega)
            · -- 82 -> 85
              refine zw_goto 151 zd_PW_cutBracketText_85 (by decide) ?_
              have e0 : (acc, q) = (xs, E) := by
                rw [← i5]
                show _ = if _ then _ else _
                rw [if_neg (by omega), if_neg (by omega), if_pos (by first | (rw [if_pos (by omega)]; omega) | (rw [if_neg (by omega), if_pos (by omega)]; omega) | (rw [if_neg (by omega), if_neg (by omega)]; omega))]
              obtain ⟨e1, e2⟩ := Prod.mk.inj e0
              exact absurd hE (by omega)
  refine zw_aload_n 0 rfl zd_PW_cutBracketText_0 ?_
  refine zw_get zc_PW 0 5 rfl (by decide) zf_PW_46 rfl zd_PW_cutBracketText_1 ?_
  refine zw_istore_n (lv' := [(1, .int (zI (p0))), (0, .ref h)]) (Nat.le_of_ble_eq_true rfl) rfl zd_PW_cutBracketText_4 ?_
  refine zw_aload_n 1 rfl zd_PW_cutBracketText_5 ?_
  refine zw_get zc_PW 0 0 rfl (by decide) zf_PW_10 rfl zd_PW_cutBracketText_6 ?_
  refine zw_callV (As := []) (rest := []) (L2 := [zObj h 0 [.ref ht, .ref hl, .ref hs, .ref ho, .ref hn, .int (zI (p0)), .int (zI (w0)), .int (zI (r0))], zWL hl (ws) (nw), zTS hs (ts) ([]) (nb) (n)]) (L' := [zBRow ht (t) (nt), zObj h 0 [.ref ht, .ref hl, .ref hs, .ref ho, .ref hn, .int (zI (p0)), .int (zI (w0)), .int (zI (r0))], zWL hl (ws) (nw), zTS hs (ts) ([]) (nb) (n)]) (stk' := [.int (zI ((((t).length : Nat) : Int)))]) (c_BR_count ht (t) (nt) ((t).length) (rfl)) [1] [0, 2, 3] rfl rfl rfl zcal_BR_count zl_PW_56 zin_BR_count zse_BR_count 0 rfl zRv_BRow rfl (Nat.le_of_ble_eq_true rfl) (Nat.le_of_ble_eq_true rfl) (by omega) (by omega) rfl (Nat.le_of_ble_eq_true rfl) rfl rfl zd_PW_cutBracketText_9 ?_
  refine zw_istore_n (lv' := [(2, .int (zI ((((t).length : Nat) : Int)))), (1, .int (zI (p0))), (0, .ref h)]) (Nat.le_of_ble_eq_true rfl) rfl zd_PW_cutBracketText_12 ?_
  refine zw_iconst zd_PW_cutBracketText_13 ?_
  refine zw_istore_n (lv' := [(3, .int (zI (1))), (2, .int (zI ((((t).length : Nat) : Int)))), (1, .int (zI (p0))), (0, .ref h)]) (Nat.le_of_ble_eq_true rfl) rfl zd_PW_cutBracketText_14 ?_
  refine zw_aload_n 3 rfl zd_PW_cutBracketText_15 ?_
  refine zw_dup rfl zd_PW_cutBracketText_16 ?_
  refine zw_get zc_PW 1 5 rfl (by decide) zf_PW_46 rfl zd_PW_cutBracketText_17 ?_
  refine zw_iconst zd_PW_cutBracketText_20 ?_
  refine zw_iadd zd_PW_cutBracketText_21 ?_
  refine zw_put (L' := [zBRow ht (t) (nt), zObj h 0 [.ref ht, .ref hl, .ref hs, .ref ho, .ref hn, .int (zI (p0 + 1)), .int (zI (w0)), .int (zI (r0))], zWL hl (ws) (nw), zTS hs (ts) ([]) (nb) (n)]) zc_PW 1 5 rfl (by decide) zf_PW_46 rfl rfl rfl (Nat.le_of_ble_eq_true rfl) rfl zd_PW_cutBracketText_22 ?_
  refine zw_iconst zd_PW_cutBracketText_25 ?_
  refine zw_istore (lv' := [(4, .int (zI (0))), (3, .int (zI (1))), (2, .int (zI ((((t).length : Nat) : Int)))), (1, .int (zI (p0))), (0, .ref h)]) (Nat.le_of_ble_eq_true rfl) rfl zd_PW_cutBracketText_26 ?_
  refine zw_sub (L' := [zObj h 0 [.ref ht, .ref hl, .ref hs, .ref ho, .ref hn, .int (zI (p0 + 1)), .int (zI (w0)), .int (zI (r0))], zBRow ht (t) (nt), zWL hl (ws) (nw), zTS hs (ts) ([]) (nb) (n)]) [1, 0, 2, 3] rfl rfl ?_
  refine zw_lpick (lv' := [(0, .ref h), (1, .int (zI (p0))), (2, .int (zI ((((t).length : Nat) : Int)))), (3, .int (zI (1))), (4, .int (zI (0)))]) [4, 3, 2, 1, 0] rfl ?_
  have c0 : capN nb (ts.flatten.length + ([] : List Int).length) = nb := capN_id (by have := hts2.1; rw [List.append_nil] at this; simpa using this)
  refine zw_eqL (L' := [zObj h 0 [.ref ht, .ref hl, .ref hs, .ref ho, .ref hn, .int (zI (p0 + 1)), .int (zI (w0)), .int (zI (r0))], zBRow ht (t) (nt), zWL hl (ws) (nw), zTS hs (ts) (([] : List Int)) (capN nb (ts.flatten.length + ([] : List Int).length)) (n)]) (by rw [c0]) ?_
  refine zw_widen (k' := capN nb (ts.flatten.length + ([] : List Int).length) - nb) (n' := 2 * (capN nb (ts.flatten.length + ([] : List Int).length) - nb)) (by omega) (by omega) ?_
  exact lp _ t.length (p0 + 1) 1 [] 0 ⟨⟨by omega, by omega, by simp; omega, by omega⟩, hbr⟩ (Nat.lt_succ_self _)
