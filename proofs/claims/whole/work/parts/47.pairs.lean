/-- the bytes of a text of digits, with the digit that stands alone -/
def prX (xs : List Int) (hf : Int) : List Int := if hf = -1 then xs else xs ++ [16 * hf]
theorem prX_len (xs : List Int) (hf : Int) : xs.length ≤ (prX xs hf).length ∧ (prX xs hf).length ≤ xs.length + 1 := by
  unfold prX
  split
  · omega
  · rw [List.length_append, List.length_singleton]
    omega
theorem prS_len {t : List Int} : ∀ (k : Nat) (q hf : Int) (acc : List Int) {xs : List Int} {h1 wy E : Int}, prS t k q hf acc = (xs, h1, wy, E) → acc.length ≤ xs.length
  | 0, q, hf, acc, xs, h1, wy, E, h => by
    have h : (acc, hf, (2 : Int), q) = (xs, h1, wy, E) := h
    rw [(Prod.mk.inj h).1]
    exact Nat.le_refl _
  | k + 1, q, hf, acc, xs, h1, wy, E, h => by
    unfold prS at h
    by_cases c1 : ¬ q < t.length
    · rw [if_pos c1] at h
      rw [(Prod.mk.inj h).1]; exact Nat.le_refl _
    · rw [if_neg c1] at h
      by_cases c2 : bget t q = 62
      · rw [if_pos c2] at h
        rw [(Prod.mk.inj h).1]; exact Nat.le_refl _
      · rw [if_neg c2] at h
        by_cases c3 : sBlank (bget t q) = true
        · rw [if_pos c3] at h
          exact prS_len k _ _ _ h
        · rw [if_neg c3] at h
          by_cases c4 : digV (bget t q) < 0 ∨ 15 < digV (bget t q)
          · rw [if_pos c4] at h
            rw [(Prod.mk.inj h).1]; exact Nat.le_refl _
          · rw [if_neg c4] at h
            by_cases c5 : hf = -1
            · rw [if_pos c5] at h
              exact prS_len k _ _ _ h
            · rw [if_neg c5] at h
              have := prS_len k _ _ _ h
              rw [List.length_append] at this
              omega
set_option maxHeartbeats 4000000 in
set_option maxRecDepth 100000 in
theorem c_PW_pairs_ok (h ht hl hs ho hn : Nat) (t : List Int) (nt : Nat) (p0 w0 r0 : Int) (ws : List (Int32 × Int32 × Int32)) (nw : Nat) (ts : List (List Int)) (nb n : Nat) (hp : 0 ≤ p0 ∧ p0 < t.length) (hF : ts.flatten.length + t.length < 60000) (xs : List Int) (h1 wy E : Int) (hpr : prS t t.length (p0 + 1) (-1) [] = (xs, h1, wy, E)) (hy : wy = 0) (hw : ws.length < 16384) (hs1 : ts.length < 16384) : zCT zy_PW_cutDigitText zm_PW_cutDigitText ((capN nb (ts.flatten.length + (prX xs h1).length) - nb) + 4 * (capN n (addT ts (prX xs h1)).length - n) + 3 * (capN nw (ws.length + 1) - nw)) (2 * (capN nb (ts.flatten.length + (prX xs h1).length) - nb) + 8 * (capN n (addT ts (prX xs h1)).length - n) + 6 * (capN nw (ws.length + 1) - nw)) [.ref h] [zObj h 0 [.ref ht, .ref hl, .ref hs, .ref ho, .ref hn, .int (zI (p0)), .int (zI (w0)), .int (zI (r0))], zBRow ht (t) (nt), zWL hl (ws) (nw), zTS hs (ts) ([]) (nb) (n)] (none) [zObj h 0 [.ref ht, .ref hl, .ref hs, .ref ho, .ref hn, .int (zI (E + 1)), .int (zI (w0)), .int (zI (r0))], zBRow ht (t) (nt), zWL hl (ws ++ [(zI 5, zI ((ixOf ts (prX xs h1) : Nat) : Int), zI p0)]) (capN nw (ws.length + 1)), zTS hs (addT ts (prX xs h1)) ([]) (capN nb (ts.flatten.length + (prX xs h1).length)) (capN n (addT ts (prX xs h1)).length)] := by
  refine zCT.of [(0, .ref h)] rfl (by decide) rfl (fun h => by first | rfl | cases h) (Nat.le_of_ble_eq_true rfl) (fun X hR => ?_)
  refine zw_fact 1 rfl (fun G w h => zBR_fact h) (fun hbr => ?_)
  obtain ⟨⟨ht1, ht2, ht3⟩, hby⟩ := hbr
  refine zw_fact 2 rfl (fun G w h => zWL_fact h) (fun hwl => ?_)
  refine zw_fact 3 rfl (fun G w h => zTS_fact h) (fun hts => ?_)
  obtain ⟨hts1, hts2, hts3, hts4⟩ := hts
  have mW := capN_ge nw (ws.length + 1)
  have mN := capN_ge n (addT ts (prX xs h1)).length
  have mX := capN_ge nb (ts.flatten.length + (prX xs h1).length)
  have mP := prX_len xs h1
  have mQ := capN_mono nb (show ts.flatten.length + xs.length ≤ ts.flatten.length + (prX xs h1).length by omega)
  have lp : ∀ (fuel : Nat) (kk : Nat) (q : Int) (hf : Int) (acc : List Int), (((p0 < q ∧ q ≤ t.length) ∧ (-1 ≤ hf ∧ hf ≤ 15) ∧ (acc.length : Int) ≤ q ∧ (t.length : Int) - q ≤ kk) ∧ prS t kk q hf acc = (xs, h1, wy, E)) → kk < fuel → zZ X zm_PW_cutDigitText ((capN nb (ts.flatten.length + (prX xs h1).length) - nb) + 4 * (capN n (addT ts (prX xs h1)).length - n) + 3 * (capN nw (ws.length + 1) - nw)) (2 * (capN nb (ts.flatten.length + (prX xs h1).length) - nb) + 8 * (capN n (addT ts (prX xs h1)).length - n) + 6 * (capN nw (ws.length + 1) - nw)) (capN nb (ts.flatten.length + acc.length) - nb) (2 * (capN nb (ts.flatten.length + acc.length) - nb)) [zObj h 0 [.ref ht, .ref hl, .ref hs, .ref ho, .ref hn, .int (zI (q)), .int (zI (w0)), .int (zI (r0))], zBRow ht (t) (nt), zWL hl (ws) (nw), zTS hs (ts) (acc) (capN nb (ts.flatten.length + acc.length)) (n)] 25 [(0, .ref h), (1, .int (zI (p0))), (2, .int (zI (((t.length : Nat) : Int)))), (3, .int (zI (hf)))] [] := by
    intro fuel
    induction fuel with
    | zero => intro kk q hf acc g0 hm; exact absurd hm (Nat.not_lt_zero _)
    | succ fuel ih =>
      intro kk q hf acc g0 hm
      obtain ⟨⟨i1, i2, i3, i4⟩, i5⟩ := g0
      have m1 := capN_ge nb (ts.flatten.length + acc.length)
      have m4 := capN_cov (n := nb) (by omega) (ts.flatten.length + acc.length)
      have cc : (ts.flatten ++ acc).length = ts.flatten.length + acc.length := List.length_append
      have m5 := prS_len (t := t) kk _ _ _ i5
      have m6 := capN_mono nb (show ts.flatten.length + acc.length ≤ ts.flatten.length + xs.length by omega)
      refine zw_aload_n 0 rfl zd_PW_cutDigitText_25 ?_
      refine zw_get zc_PW 0 5 rfl (by decide) zf_PW_46 rfl zd_PW_cutDigitText_26 ?_
      refine zw_iload_n 2 rfl zd_PW_cutDigitText_29 ?_
      refine zw_icmp_ge 142 (by omega) (by omega) zd_PW_cutDigitText_30 (by decide) (fun c30 => ?_) (fun c30 => ?_)
      · -- 30 -> 142
        have e0 : (acc, hf, (2 : Int), q) = (xs, h1, wy, E) := by
          rw [← i5]
          cases kk with
          | zero => rfl
          | succ k => show _ = if _ then _ else _; rw [if_pos (by omega)]
        obtain ⟨e1, e2⟩ := Prod.mk.inj e0
        obtain ⟨e2, e3⟩ := Prod.mk.inj e2
        obtain ⟨e3, e4⟩ := Prod.mk.inj e3
        exact absurd hy (by omega)
      · -- 30 -> 33
        refine zw_aload_n 0 rfl zd_PW_cutDigitText_33 ?_
        refine zw_get zc_PW 0 0 rfl (by decide) zf_PW_10 rfl zd_PW_cutDigitText_34 ?_
        refine zw_aload_n 0 rfl zd_PW_cutDigitText_37 ?_
        refine zw_get zc_PW 0 5 rfl (by decide) zf_PW_46 rfl zd_PW_cutDigitText_38 ?_
        refine zw_callV (As := [.int (zI (q))]) (rest := []) (L2 := [zObj h 0 [.ref ht, .ref hl, .ref hs, .ref ho, .ref hn, .int (zI (q)), .int (zI (w0)), .int (zI (r0))], zWL hl (ws) (nw), zTS hs (ts) (acc) (capN nb (ts.flatten.length + acc.length)) (n)]) (L' := [zBRow ht (t) (nt), zObj h 0 [.ref ht, .ref hl, .ref hs, .ref ho, .ref hn, .int (zI (q)), .int (zI (w0)), .int (zI (r0))], zWL hl (ws) (nw), zTS hs (ts) (acc) (capN nb (ts.flatten.length + acc.length)) (n)]) (stk' := [.int (zI (bget t q))]) (c_BR_get ht (t) (nt) (q) (by omega)) [1] [0, 2, 3] rfl rfl rfl zcal_BR_get zl_PW_106 zin_BR_get zse_BR_get 0 rfl zRv_BRow rfl (Nat.le_of_ble_eq_true rfl) (Nat.le_of_ble_eq_true rfl) (by omega) (by omega) rfl (Nat.le_of_ble_eq_true rfl) rfl rfl zd_PW_cutDigitText_41 ?_
        have rg41 := bget_rg hby (q)
        refine zw_bipush rfl zd_PW_cutDigitText_44 ?_
        refine zw_icmp_eq 142 (by omega) (by omega) zd_PW_cutDigitText_46 (by decide) (fun c46 => ?_) (fun c46 => ?_)
        · -- 46 -> 142
          obtain ⟨k, rfl⟩ : ∃ k, kk = k + 1 := ⟨kk - 1, by omega⟩
          have e0 : (acc, hf, (0 : Int), q) = (xs, h1, wy, E) := by rw [← i5]; show _ = if _ then _ else _; rw [if_neg (by omega), if_pos (by omega)]
          obtain ⟨e1, e2⟩ := Prod.mk.inj e0
          obtain ⟨e2, e3⟩ := Prod.mk.inj e2
          obtain ⟨e3, e4⟩ := Prod.mk.inj e3
          refine zw_iload_n 3 rfl zd_PW_cutDigitText_142 ?_
          refine zw_iconst zd_PW_cutDigitText_143 ?_
          refine zw_icmp_eq 158 (by omega) (by omega) zd_PW_cutDigitText_144 (by decide) (fun c144 => ?_) (fun c144 => ?_)
          · -- 144 -> 158
            have e5 : acc = prX xs h1 := by rw [prX, ← e1, ← e2, if_pos (by omega)]
            have e6 : capN nb (ts.flatten.length + acc.length) = capN nb (ts.flatten.length + (prX xs h1).length) := by rw [← e5]
            refine zw_sub (L' := [zObj h 0 [.ref ht, .ref hl, .ref hs, .ref ho, .ref hn, .int (zI (q)), .int (zI (w0)), .int (zI (r0))], zBRow ht (t) (nt), zWL hl (ws) (nw), zTS hs (ts) (acc) (capN nb (ts.flatten.length + acc.length)) (n)]) [1, 0, 2, 3] rfl rfl ?_
            refine zw_eqL (L' := [zObj h 0 [.ref ht, .ref hl, .ref hs, .ref ho, .ref hn, .int (zI (q)), .int (zI (w0)), .int (zI (r0))], zBRow ht (t) (nt), zWL hl (ws) (nw), zTS hs (ts) (prX xs h1) (capN nb (ts.flatten.length + (prX xs h1).length)) (n)]) (by rw [← e5]) ?_
            refine zw_widen (k' := capN nb (ts.flatten.length + (prX xs h1).length) - nb) (n' := 2 * (capN nb (ts.flatten.length + (prX xs h1).length) - nb)) (by omega) (by omega) ?_
            refine zw_aload_n 0 rfl zd_PW_cutDigitText_158 ?_
            refine zw_iload_n 1 rfl zd_PW_cutDigitText_159 ?_
            refine zw_aload_n 0 rfl zd_PW_cutDigitText_160 ?_
            refine zw_get zc_PW 0 5 rfl (by decide) zf_PW_46 rfl zd_PW_cutDigitText_161 ?_
            refine zw_iload_n 2 rfl zd_PW_cutDigitText_164 ?_
            refine zw_icmp_ge 172 (by omega) (by omega) zd_PW_cutDigitText_165 (by decide) (fun c165 => ?_) (fun c165 => ?_)
            · -- 165 -> 172
              exact absurd c165 (by omega)
            · -- 165 -> 168
              refine zw_iconst zd_PW_cutDigitText_168 ?_
              refine zw_goto 173 zd_PW_cutDigitText_169 (by decide) ?_
              refine zw_callV (As := [.int (zI (p0)), .int (zI (1))]) (rest := []) (L2 := [zBRow ht (t) (nt)]) (L' := [zObj h 0 [.ref ht, .ref hl, .ref hs, .ref ho, .ref hn, .int (zI (q + 1)), .int (zI (w0)), .int (zI (r0))], zWL hl (ws ++ [(zI 5, zI ((ixOf ts (prX xs h1) : Nat) : Int), zI p0)]) (capN nw ((ws).length + 1)), zTS hs (addT ts (prX xs h1)) ([]) (capN nb (ts.flatten.length + (prX xs h1).length)) (capN n (addT ts (prX xs h1)).length), zBRow ht (t) (nt)]) (stk' := []) (c_PW_endText1 h ht hl hs ho hn q w0 r0 ws nw ts (prX xs h1) (capN nb (ts.flatten.length + (prX xs h1).length)) n p0 (by omega) (by omega)) [0, 2, 3] [1] rfl rfl rfl zcal_PW_endText zl_PW_177 zin_PW_endText zse_PW_endText 0 rfl zRv_obj rfl (Nat.le_of_ble_eq_true rfl) (Nat.le_of_ble_eq_true rfl) (by omega) (by omega) rfl (Nat.le_of_ble_eq_true rfl) rfl rfl zd_PW_cutDigitText_173 ?_
              refine zw_sub (L' := [zObj h 0 [.ref ht, .ref hl, .ref hs, .ref ho, .ref hn, .int (zI (q + 1)), .int (zI (w0)), .int (zI (r0))], zBRow ht (t) (nt), zWL hl (ws ++ [(zI 5, zI ((ixOf ts (prX xs h1) : Nat) : Int), zI p0)]) (capN nw ((ws).length + 1)), zTS hs (addT ts (prX xs h1)) ([]) (capN nb (ts.flatten.length + (prX xs h1).length)) (capN n (addT ts (prX xs h1)).length)]) [0, 3, 1, 2] rfl rfl ?_
              exact zw_vret hR rfl (by rw [← e4]) rfl (by omega) (by omega) zd_PW_cutDigitText_176
          · -- 144 -> 147
            have m7 := capN_ge (capN nb (ts.flatten.length + acc.length)) (ts.flatten.length + acc.length + 1)
            have e7 : prX xs h1 = acc ++ [16 * hf] := by rw [prX, ← e1, ← e2, if_neg (by omega)]
            have e8 : capN (capN nb (ts.flatten.length + acc.length)) (ts.flatten.length + acc.length + 1) = capN nb (ts.flatten.length + (prX xs h1).length) := by rw [e7, capN_next (by omega), List.length_append, List.length_singleton, Nat.add_assoc]
            refine zw_aload_n 0 rfl zd_PW_cutDigitText_147 ?_
            refine zw_get zc_PW 1 2 rfl (by decide) zf_PW_26 rfl zd_PW_cutDigitText_148 ?_
            refine zw_bipush rfl zd_PW_cutDigitText_151 ?_
            refine zw_iload_n 3 rfl zd_PW_cutDigitText_153 ?_
            refine zw_imul zd_PW_cutDigitText_154 ?_
            refine zw_callV (As := [.int (zI (16 * hf))]) (rest := []) (L2 := [zBRow ht (t) (nt), zObj h 0 [.ref ht, .ref hl, .ref hs, .ref ho, .ref hn, .int (zI (q)), .int (zI (w0)), .int (zI (r0))], zWL hl (ws) (nw)]) (L' := [zTS hs (ts) (acc ++ [(16 * hf) % 256]) (capN (capN nb (ts.flatten.length + acc.length)) (ts.flatten.length + acc.length + 1)) (n), zBRow ht (t) (nt), zObj h 0 [.ref ht, .ref hl, .ref hs, .ref ho, .ref hn, .int (zI (q)), .int (zI (w0)), .int (zI (r0))], zWL hl (ws) (nw)]) (stk' := []) (c_TS_putC hs (ts) (acc) (capN nb (ts.flatten.length + acc.length)) (n) (16 * hf) (ts.flatten.length + acc.length) (cc) (by omega) (by omega)) [3] [0, 1, 2] rfl rfl rfl zcal_TS_put zl_PW_160 zin_TS_put zse_TS_put 0 rfl zRv_TS rfl (Nat.le_of_ble_eq_true rfl) (Nat.le_of_ble_eq_true rfl) (by omega) (by omega) rfl (Nat.le_of_ble_eq_true rfl) rfl rfl zd_PW_cutDigitText_155 ?_
            have e5 : acc ++ [(16 * hf) % 256] = prX xs h1 := by rw [prX, ← e1, ← e2, if_neg (by omega), Int.emod_eq_of_lt (by omega) (by omega)]
            have e6 : capN (capN nb (ts.flatten.length + acc.length)) (ts.flatten.length + acc.length + 1) = capN nb (ts.flatten.length + (prX xs h1).length) := by rw [← e5, capN_next (by omega), List.length_append, List.length_singleton, Nat.add_assoc]
            refine zw_sub (L' := [zObj h 0 [.ref ht, .ref hl, .ref hs, .ref ho, .ref hn, .int (zI (q)), .int (zI (w0)), .int (zI (r0))], zBRow ht (t) (nt), zWL hl (ws) (nw), zTS hs (ts) (acc ++ [(16 * hf) % 256]) (capN (capN nb (ts.flatten.length + acc.length)) (ts.flatten.length + acc.length + 1)) (n)]) [2, 1, 3, 0] rfl rfl ?_
            refine zw_eqL (L' := [zObj h 0 [.ref ht, .ref hl, .ref hs, .ref ho, .ref hn, .int (zI (q)), .int (zI (w0)), .int (zI (r0))], zBRow ht (t) (nt), zWL hl (ws) (nw), zTS hs (ts) (prX xs h1) (capN nb (ts.flatten.length + (prX xs h1).length)) (n)]) (by rw [e6, e5]) ?_
            refine zw_widen (k' := capN nb (ts.flatten.length + (prX xs h1).length) - nb) (n' := 2 * (capN nb (ts.flatten.length + (prX xs h1).length) - nb)) (by omega) (by omega) ?_
            refine zw_aload_n 0 rfl zd_PW_cutDigitText_158 ?_
            refine zw_iload_n 1 rfl zd_PW_cutDigitText_159 ?_
            refine zw_aload_n 0 rfl zd_PW_cutDigitText_160 ?_
            refine zw_get zc_PW 0 5 rfl (by decide) zf_PW_46 rfl zd_PW_cutDigitText_161 ?_
            refine zw_iload_n 2 rfl zd_PW_cutDigitText_164 ?_
            refine zw_icmp_ge 172 (by omega) (by omega) zd_PW_cutDigitText_165 (by decide) (fun c165 => ?_) (fun c165 => ?_)
            · -- 165 -> 172
              exact absurd c165 (by omega)
            · -- 165 -> 168
              refine zw_iconst zd_PW_cutDigitText_168 ?_
              refine zw_goto 173 zd_PW_cutDigitText_169 (by decide) ?_
              refine zw_callV (As := [.int (zI (p0)), .int (zI (1))]) (rest := []) (L2 := [zBRow ht (t) (nt)]) (L' := [zObj h 0 [.ref ht, .ref hl, .ref hs, .ref ho, .ref hn, .int (zI (q + 1)), .int (zI (w0)), .int (zI (r0))], zWL hl (ws ++ [(zI 5, zI ((ixOf ts (prX xs h1) : Nat) : Int), zI p0)]) (capN nw ((ws).length + 1)), zTS hs (addT ts (prX xs h1)) ([]) (capN nb (ts.flatten.length + (prX xs h1).length)) (capN n (addT ts (prX xs h1)).length), zBRow ht (t) (nt)]) (stk' := []) (c_PW_endText1 h ht hl hs ho hn q w0 r0 ws nw ts (prX xs h1) (capN nb (ts.flatten.length + (prX xs h1).length)) n p0 (by omega) (by omega)) [0, 2, 3] [1] rfl rfl rfl zcal_PW_endText zl_PW_177 zin_PW_endText zse_PW_endText 0 rfl zRv_obj rfl (Nat.le_of_ble_eq_true rfl) (Nat.le_of_ble_eq_true rfl) (by omega) (by omega) rfl (Nat.le_of_ble_eq_true rfl) rfl rfl zd_PW_cutDigitText_173 ?_
              refine zw_sub (L' := [zObj h 0 [.ref ht, .ref hl, .ref hs, .ref ho, .ref hn, .int (zI (q + 1)), .int (zI (w0)), .int (zI (r0))], zBRow ht (t) (nt), zWL hl (ws ++ [(zI 5, zI ((ixOf ts (prX xs h1) : Nat) : Int), zI p0)]) (capN nw ((ws).length + 1)), zTS hs (addT ts (prX xs h1)) ([]) (capN nb (ts.flatten.length + (prX xs h1).length)) (capN n (addT ts (prX xs h1)).length)]) [0, 3, 1, 2] rfl rfl ?_
              exact zw_vret hR rfl (by rw [← e4]) rfl (by omega) (by omega) zd_PW_cutDigitText_176
        · -- 46 -> 49
          refine zw_aload_n 0 rfl zd_PW_cutDigitText_49 ?_
          refine zw_get zc_PW 1 0 rfl (by decide) zf_PW_10 rfl zd_PW_cutDigitText_50 ?_
          refine zw_aload_n 0 rfl zd_PW_cutDigitText_53 ?_
          refine zw_get zc_PW 1 5 rfl (by decide) zf_PW_46 rfl zd_PW_cutDigitText_54 ?_
          refine zw_callV (As := [.int (zI (q))]) (rest := []) (L2 := [zObj h 0 [.ref ht, .ref hl, .ref hs, .ref ho, .ref hn, .int (zI (q)), .int (zI (w0)), .int (zI (r0))], zWL hl (ws) (nw), zTS hs (ts) (acc) (capN nb (ts.flatten.length + acc.length)) (n)]) (L' := [zBRow ht (t) (nt), zObj h 0 [.ref ht, .ref hl, .ref hs, .ref ho, .ref hn, .int (zI (q)), .int (zI (w0)), .int (zI (r0))], zWL hl (ws) (nw), zTS hs (ts) (acc) (capN nb (ts.flatten.length + acc.length)) (n)]) (stk' := [.int (zI (bget t q))]) (c_BR_get ht (t) (nt) (q) (by omega)) [0] [1, 2, 3] rfl rfl rfl zcal_BR_get zl_PW_106 zin_BR_get zse_BR_get 0 rfl zRv_BRow rfl (Nat.le_of_ble_eq_true rfl) (Nat.le_of_ble_eq_true rfl) (by omega) (by omega) rfl (Nat.le_of_ble_eq_true rfl) rfl rfl zd_PW_cutDigitText_57 ?_
          have rg57 := bget_rg hby (q)
          refine zw_istore (lv' := [(4, .int (zI (bget t q))), (0, .ref h), (1, .int (zI (p0))), (2, .int (zI (((t.length : Nat) : Int)))), (3, .int (zI (hf)))]) (Nat.le_of_ble_eq_true rfl) rfl zd_PW_cutDigitText_60 ?_
          have dr := digV_rg (bget t q)
          obtain ⟨k, rfl⟩ : ∃ k, kk = k + 1 := ⟨kk - 1, by omega⟩
          refine zw_iload 0 rfl zd_PW_cutDigitText_62 ?_
          refine zw_callS (a := 0) (As := [.int (zI (bget t q))]) (rest := []) (L2 := [zBRow ht (t) (nt), zObj h 0 [.ref ht, .ref hl, .ref hs, .ref ho, .ref hn, .int (zI (q)), .int (zI (w0)), .int (zI (r0))], zWL hl (ws) (nw), zTS hs (ts) (acc) (capN nb (ts.flatten.length + acc.length)) (n)]) (L' := [zBRow ht (t) (nt), zObj h 0 [.ref ht, .ref hl, .ref hs, .ref ho, .ref hn, .int (zI (q)), .int (zI (w0)), .int (zI (r0))], zWL hl (ws) (nw), zTS hs (ts) (acc) (capN nb (ts.flatten.length + acc.length)) (n)]) (stk' := [.int (zI (digV (bget t q)))]) (c_PW_digitValue (bget t q) (by omega)) [] [0, 1, 2, 3] rfl rfl rfl zcal_PW_digitValue zl_PW_174 zst_PW_digitValue (Nat.le_of_ble_eq_true rfl) (Nat.le_of_ble_eq_true rfl) (by omega) (by omega) rfl (Nat.le_of_ble_eq_true rfl) rfl rfl zd_PW_cutDigitText_64 ?_
          refine zw_istore (lv' := [(5, .int (zI (digV (bget t q)))), (4, .int (zI (bget t q))), (0, .ref h), (1, .int (zI (p0))), (2, .int (zI (((t.length : Nat) : Int)))), (3, .int (zI (hf)))]) (Nat.le_of_ble_eq_true rfl) rfl zd_PW_cutDigitText_67 ?_
          refine zw_iload 1 rfl zd_PW_cutDigitText_69 ?_
          refine zw_callS (a := 0) (As := [.int (zI (bget t q))]) (rest := []) (L2 := [zBRow ht (t) (nt), zObj h 0 [.ref ht, .ref hl, .ref hs, .ref ho, .ref hn, .int (zI (q)), .int (zI (w0)), .int (zI (r0))], zWL hl (ws) (nw), zTS hs (ts) (acc) (capN nb (ts.flatten.length + acc.length)) (n)]) (L' := [zBRow ht (t) (nt), zObj h 0 [.ref ht, .ref hl, .ref hs, .ref ho, .ref hn, .int (zI (q)), .int (zI (w0)), .int (zI (r0))], zWL hl (ws) (nw), zTS hs (ts) (acc) (capN nb (ts.flatten.length + acc.length)) (n)]) (stk' := [.int (zI (bI (sBlank (bget t q))))]) (c_PW_isBlank (bget t q) (by omega)) [] [0, 1, 2, 3] rfl rfl rfl zcal_PW_isBlank zl_PW_109 zst_PW_isBlank (Nat.le_of_ble_eq_true rfl) (Nat.le_of_ble_eq_true rfl) (by omega) (by omega) rfl (Nat.le_of_ble_eq_true rfl) rfl rfl zd_PW_cutDigitText_71 ?_
          have rb71 := bI_rg (sBlank (bget t q))
          refine zw_if_eq 80 (by omega) zd_PW_cutDigitText_74 (by decide) (fun c74 => ?_) (fun c74 => ?_)
          · -- 74 -> 80
            refine zw_iload 0 rfl zd_PW_cutDigitText_80 ?_
            refine zw_if_lt 92 (by omega) zd_PW_cutDigitText_82 (by decide) (fun c82 => ?_) (fun c82 => ?_)
            · -- 82 -> 92
              have hbl : ¬ sBlank (bget t q) = true := by rw [zbI0 (b := sBlank (bget t q)) (by omega)]; decide
              have e0 : (acc, hf, (3 : Int), q) = (xs, h1, wy, E) := by rw [← i5]; show _ = if _ then _ else _; rw [if_neg (by omega), if_neg (by omega), if_neg hbl, if_pos (by omega)]
              obtain ⟨e1, e2⟩ := Prod.mk.inj e0
              obtain ⟨e2, e3⟩ := Prod.mk.inj e2
              obtain ⟨e3, e4⟩ := Prod.mk.inj e3
              exact absurd hy (by omega)
            · -- 82 -> 85
              refine zw_iload 0 rfl zd_PW_cutDigitText_85 ?_
              refine zw_bipush rfl zd_PW_cutDigitText_87 ?_
              refine zw_icmp_le 102 (by omega) (by omega) zd_PW_cutDigitText_89 (by decide) (fun c89 => ?_) (fun c89 => ?_)
              · -- 89 -> 102
                refine zw_iload_n 5 rfl zd_PW_cutDigitText_102 ?_
                refine zw_iconst zd_PW_cutDigitText_103 ?_
                refine zw_icmp_ne 113 (by omega) (by omega) zd_PW_cutDigitText_104 (by decide) (fun c104 => ?_) (fun c104 => ?_)
                · -- 104 -> 113
                  have hbl : ¬ sBlank (bget t q) = true := by rw [zbI0 (b := sBlank (bget t q)) (by omega)]; decide
                  have e7 : prS t k (q + 1) (-1) (acc ++ [16 * hf + digV (bget t q)]) = (xs, h1, wy, E) := by
                    rw [← i5]
                    show _ = if _ then _ else _
                    rw [if_neg (by omega), if_neg (by omega), if_neg hbl, if_neg (by omega), if_neg (by omega)]
                  have m8 := prS_len (t := t) k _ _ _ e7
                  rw [List.length_append, List.length_singleton] at m8
                  have m9 := capN_mono nb (show ts.flatten.length + acc.length + 1 ≤ ts.flatten.length + xs.length by omega)
                  have e6 := capN_next (n := nb) (by omega) (ts.flatten.length + acc.length)
                  have m7 := capN_ge (capN nb (ts.flatten.length + acc.length)) (ts.flatten.length + acc.length + 1)
                  refine zw_aload_n 2 rfl zd_PW_cutDigitText_113 ?_
                  refine zw_get zc_PW 1 2 rfl (by decide) zf_PW_26 rfl zd_PW_cutDigitText_114 ?_
                  refine zw_bipush rfl zd_PW_cutDigitText_117 ?_
                  refine zw_iload_n 5 rfl zd_PW_cutDigitText_119 ?_
                  refine zw_imul zd_PW_cutDigitText_120 ?_
                  refine zw_iload 0 rfl zd_PW_cutDigitText_121 ?_
                  refine zw_iadd zd_PW_cutDigitText_123 ?_
                  refine zw_callV (As := [.int (zI ((16 * hf) + (digV (bget t q))))]) (rest := []) (L2 := [zBRow ht (t) (nt), zObj h 0 [.ref ht, .ref hl, .ref hs, .ref ho, .ref hn, .int (zI (q)), .int (zI (w0)), .int (zI (r0))], zWL hl (ws) (nw)]) (L' := [zTS hs (ts) (acc ++ [((16 * hf) + (digV (bget t q))) % 256]) (capN (capN nb (ts.flatten.length + acc.length)) (ts.flatten.length + acc.length + 1)) (n), zBRow ht (t) (nt), zObj h 0 [.ref ht, .ref hl, .ref hs, .ref ho, .ref hn, .int (zI (q)), .int (zI (w0)), .int (zI (r0))], zWL hl (ws) (nw)]) (stk' := []) (c_TS_putC hs (ts) (acc) (capN nb (ts.flatten.length + acc.length)) (n) ((16 * hf) + (digV (bget t q))) (ts.flatten.length + acc.length) (cc) (by omega) (by omega)) [3] [0, 1, 2] rfl rfl rfl zcal_TS_put zl_PW_160 zin_TS_put zse_TS_put 0 rfl zRv_TS rfl (Nat.le_of_ble_eq_true rfl) (Nat.le_of_ble_eq_true rfl) (by omega) (by omega) rfl (Nat.le_of_ble_eq_true rfl) rfl rfl zd_PW_cutDigitText_124 ?_
                  refine zw_iconst zd_PW_cutDigitText_127 ?_
                  refine zw_istore_n (lv' := [(3, .int (zI (-1))), (5, .int (zI (digV (bget t q)))), (4, .int (zI (bget t q))), (0, .ref h), (1, .int (zI (p0))), (2, .int (zI (((t.length : Nat) : Int))))]) (Nat.le_of_ble_eq_true rfl) rfl zd_PW_cutDigitText_128 ?_
                  refine zw_aload_n 3 rfl zd_PW_cutDigitText_129 ?_
                  refine zw_dup rfl zd_PW_cutDigitText_130 ?_
                  refine zw_get zc_PW 2 5 rfl (by decide) zf_PW_46 rfl zd_PW_cutDigitText_131 ?_
                  refine zw_iconst zd_PW_cutDigitText_134 ?_
                  refine zw_iadd zd_PW_cutDigitText_135 ?_
                  refine zw_put (L' := [zTS hs (ts) (acc ++ [((16 * hf) + (digV (bget t q))) % 256]) (capN (capN nb (ts.flatten.length + acc.length)) (ts.flatten.length + acc.length + 1)) (n), zBRow ht (t) (nt), zObj h 0 [.ref ht, .ref hl, .ref hs, .ref ho, .ref hn, .int (zI (q + 1)), .int (zI (w0)), .int (zI (r0))], zWL hl (ws) (nw)]) zc_PW 2 5 rfl (by decide) zf_PW_46 rfl rfl rfl (Nat.le_of_ble_eq_true rfl) rfl zd_PW_cutDigitText_136 ?_
                  refine zw_goto 25 zd_PW_cutDigitText_139 (by decide) ?_
                  refine zw_sub (L' := [zObj h 0 [.ref ht, .ref hl, .ref hs, .ref ho, .ref hn, .int (zI (q + 1)), .int (zI (w0)), .int (zI (r0))], zBRow ht (t) (nt), zWL hl (ws) (nw), zTS hs (ts) (acc ++ [((16 * hf) + (digV (bget t q))) % 256]) (capN (capN nb (ts.flatten.length + acc.length)) (ts.flatten.length + acc.length + 1)) (n)]) [2, 1, 3, 0] rfl rfl ?_
                  refine zw_lpick (lv' := [(0, .ref h), (1, .int (zI (p0))), (2, .int (zI (((t.length : Nat) : Int)))), (3, .int (zI (-1)))]) [3, 4, 5, 0] rfl ?_
                  refine zw_eqL (L' := [zObj h 0 [.ref ht, .ref hl, .ref hs, .ref ho, .ref hn, .int (zI (q + 1)), .int (zI (w0)), .int (zI (r0))], zBRow ht (t) (nt), zWL hl (ws) (nw), zTS hs (ts) (acc ++ [16 * hf + digV (bget t q)]) (capN nb (ts.flatten.length + (acc ++ [16 * hf + digV (bget t q)]).length)) (n)]) (by rw [e6, Int.emod_eq_of_lt (by omega) (by omega), List.length_append, List.length_singleton, Nat.add_assoc]) ?_
                  refine zw_widen (k' := capN nb (ts.flatten.length + (acc ++ [16 * hf + digV (bget t q)]).length) - nb) (n' := 2 * (capN nb (ts.flatten.length + (acc ++ [16 * hf + digV (bget t q)]).length) - nb)) (by rw [List.length_append, List.length_singleton, ← Nat.add_assoc]; omega) (by rw [List.length_append, List.length_singleton, ← Nat.add_assoc]; omega) ?_
                  exact ih k (q + 1) (-1) _ ⟨⟨by omega, by omega, by rw [List.length_append, List.length_singleton]; omega, by omega⟩, e7⟩ (by omega)
                · -- 104 -> 107
                  have hbl : ¬ sBlank (bget t q) = true := by rw [zbI0 (b := sBlank (bget t q)) (by omega)]; decide
                  have e7 : prS t k (q + 1) (digV (bget t q)) (acc) = (xs, h1, wy, E) := by
                    rw [← i5]
                    show _ = if _ then _ else _
                    rw [if_neg (by omega), if_neg (by omega), if_neg hbl, if_neg (by omega), if_pos (by omega)]
                  have m8 := prS_len (t := t) k _ _ _ e7
                  refine zw_iload 0 rfl zd_PW_cutDigitText_107 ?_
                  refine zw_istore_n (lv' := [(3, .int (zI (digV (bget t q)))), (5, .int (zI (digV (bget t q)))), (4, .int (zI (bget t q))), (0, .ref h), (1, .int (zI (p0))), (2, .int (zI (((t.length : Nat) : Int))))]) (Nat.le_of_ble_eq_true rfl) rfl zd_PW_cutDigitText_109 ?_
                  refine zw_goto 129 zd_PW_cutDigitText_110 (by decide) ?_
                  refine zw_aload_n 3 rfl zd_PW_cutDigitText_129 ?_
                  refine zw_dup rfl zd_PW_cutDigitText_130 ?_
                  refine zw_get zc_PW 1 5 rfl (by decide) zf_PW_46 rfl zd_PW_cutDigitText_131 ?_
                  refine zw_iconst zd_PW_cutDigitText_134 ?_
                  refine zw_iadd zd_PW_cutDigitText_135 ?_
                  refine zw_put (L' := [zBRow ht (t) (nt), zObj h 0 [.ref ht, .ref hl, .ref hs, .ref ho, .ref hn, .int (zI (q + 1)), .int (zI (w0)), .int (zI (r0))], zWL hl (ws) (nw), zTS hs (ts) (acc) (capN nb (ts.flatten.length + acc.length)) (n)]) zc_PW 1 5 rfl (by decide) zf_PW_46 rfl rfl rfl (Nat.le_of_ble_eq_true rfl) rfl zd_PW_cutDigitText_136 ?_
                  refine zw_goto 25 zd_PW_cutDigitText_139 (by decide) ?_
                  refine zw_sub (L' := [zObj h 0 [.ref ht, .ref hl, .ref hs, .ref ho, .ref hn, .int (zI (q + 1)), .int (zI (w0)), .int (zI (r0))], zBRow ht (t) (nt), zWL hl (ws) (nw), zTS hs (ts) (acc) (capN nb (ts.flatten.length + acc.length)) (n)]) [1, 0, 2, 3] rfl rfl ?_
                  refine zw_lpick (lv' := [(0, .ref h), (1, .int (zI (p0))), (2, .int (zI (((t.length : Nat) : Int)))), (3, .int (zI (digV (bget t q))))]) [3, 4, 5, 0] rfl ?_
                  refine zw_widen (k' := capN nb (ts.flatten.length + acc.length) - nb) (n' := 2 * (capN nb (ts.flatten.length + acc.length) - nb)) (by omega) (by omega) ?_
                  exact ih k (q + 1) (digV (bget t q)) _ ⟨⟨by omega, by omega, by omega, by omega⟩, e7⟩ (by omega)
              · -- 89 -> 92
                have hbl : ¬ sBlank (bget t q) = true := by rw [zbI0 (b := sBlank (bget t q)) (by omega)]; decide
                have e0 : (acc, hf, (3 : Int), q) = (xs, h1, wy, E) := by rw [← i5]; show _ = if _ then _ else _; rw [if_neg (by omega), if_neg (by omega), if_neg hbl, if_pos (by omega)]
                obtain ⟨e1, e2⟩ := Prod.mk.inj e0
                obtain ⟨e2, e3⟩ := Prod.mk.inj e2
                obtain ⟨e3, e4⟩ := Prod.mk.inj e3
                exact absurd hy (by omega)
          · -- 74 -> 77
            have hbl : sBlank (bget t q) = true := zbI1 (by omega)
            have e7 : prS t k (q + 1) (hf) (acc) = (xs, h1, wy, E) := by
              rw [← i5]
              show _ = if _ then _ else _
              rw [if_neg (by omega), if_neg (by omega), if_pos hbl]
            have m8 := prS_len (t := t) k _ _ _ e7
            refine zw_goto 129 zd_PW_cutDigitText_77 (by decide) ?_
            refine zw_aload_n 2 rfl zd_PW_cutDigitText_129 ?_
            refine zw_dup rfl zd_PW_cutDigitText_130 ?_
            refine zw_get zc_PW 1 5 rfl (by decide) zf_PW_46 rfl zd_PW_cutDigitText_131 ?_
            refine zw_iconst zd_PW_cutDigitText_134 ?_
            refine zw_iadd zd_PW_cutDigitText_135 ?_
            refine zw_put (L' := [zBRow ht (t) (nt), zObj h 0 [.ref ht, .ref hl, .ref hs, .ref ho, .ref hn, .int (zI (q + 1)), .int (zI (w0)), .int (zI (r0))], zWL hl (ws) (nw), zTS hs (ts) (acc) (capN nb (ts.flatten.length + acc.length)) (n)]) zc_PW 1 5 rfl (by decide) zf_PW_46 rfl rfl rfl (Nat.le_of_ble_eq_true rfl) rfl zd_PW_cutDigitText_136 ?_
            refine zw_goto 25 zd_PW_cutDigitText_139 (by decide) ?_
            refine zw_sub (L' := [zObj h 0 [.ref ht, .ref hl, .ref hs, .ref ho, .ref hn, .int (zI (q + 1)), .int (zI (w0)), .int (zI (r0))], zBRow ht (t) (nt), zWL hl (ws) (nw), zTS hs (ts) (acc) (capN nb (ts.flatten.length + acc.length)) (n)]) [1, 0, 2, 3] rfl rfl ?_
            refine zw_lpick (lv' := [(0, .ref h), (1, .int (zI (p0))), (2, .int (zI (((t.length : Nat) : Int)))), (3, .int (zI (hf)))]) [2, 3, 4, 5] rfl ?_
            refine zw_widen (k' := capN nb (ts.flatten.length + acc.length) - nb) (n' := 2 * (capN nb (ts.flatten.length + acc.length) - nb)) (by omega) (by omega) ?_
            exact ih k (q + 1) (hf) _ ⟨⟨by omega, by omega, by omega, by omega⟩, e7⟩ (by omega)
  refine zw_aload_n 0 rfl zd_PW_cutDigitText_0 ?_
  refine zw_get zc_PW 0 5 rfl (by decide) zf_PW_46 rfl zd_PW_cutDigitText_1 ?_
  refine zw_istore_n (lv' := [(1, .int (zI (p0))), (0, .ref h)]) (Nat.le_of_ble_eq_true rfl) rfl zd_PW_cutDigitText_4 ?_
  refine zw_aload_n 1 rfl zd_PW_cutDigitText_5 ?_
  refine zw_get zc_PW 0 0 rfl (by decide) zf_PW_10 rfl zd_PW_cutDigitText_6 ?_
  refine zw_callV (As := []) (rest := []) (L2 := [zObj h 0 [.ref ht, .ref hl, .ref hs, .ref ho, .ref hn, .int (zI (p0)), .int (zI (w0)), .int (zI (r0))], zWL hl (ws) (nw), zTS hs (ts) ([]) (nb) (n)]) (L' := [zBRow ht (t) (nt), zObj h 0 [.ref ht, .ref hl, .ref hs, .ref ho, .ref hn, .int (zI (p0)), .int (zI (w0)), .int (zI (r0))], zWL hl (ws) (nw), zTS hs (ts) ([]) (nb) (n)]) (stk' := [.int (zI ((((t).length : Nat) : Int)))]) (c_BR_count ht (t) (nt) ((t).length) (rfl)) [1] [0, 2, 3] rfl rfl rfl zcal_BR_count zl_PW_56 zin_BR_count zse_BR_count 0 rfl zRv_BRow rfl (Nat.le_of_ble_eq_true rfl) (Nat.le_of_ble_eq_true rfl) (by omega) (by omega) rfl (Nat.le_of_ble_eq_true rfl) rfl rfl zd_PW_cutDigitText_9 ?_
  refine zw_istore_n (lv' := [(2, .int (zI ((((t).length : Nat) : Int)))), (1, .int (zI (p0))), (0, .ref h)]) (Nat.le_of_ble_eq_true rfl) rfl zd_PW_cutDigitText_12 ?_
  refine zw_iconst zd_PW_cutDigitText_13 ?_
  refine zw_istore_n (lv' := [(3, .int (zI (-1))), (2, .int (zI ((((t).length : Nat) : Int)))), (1, .int (zI (p0))), (0, .ref h)]) (Nat.le_of_ble_eq_true rfl) rfl zd_PW_cutDigitText_14 ?_
  refine zw_aload_n 3 rfl zd_PW_cutDigitText_15 ?_
  refine zw_dup rfl zd_PW_cutDigitText_16 ?_
  refine zw_get zc_PW 1 5 rfl (by decide) zf_PW_46 rfl zd_PW_cutDigitText_17 ?_
  refine zw_iconst zd_PW_cutDigitText_20 ?_
  refine zw_iadd zd_PW_cutDigitText_21 ?_
  refine zw_put (L' := [zBRow ht (t) (nt), zObj h 0 [.ref ht, .ref hl, .ref hs, .ref ho, .ref hn, .int (zI (p0 + 1)), .int (zI (w0)), .int (zI (r0))], zWL hl (ws) (nw), zTS hs (ts) ([]) (nb) (n)]) zc_PW 1 5 rfl (by decide) zf_PW_46 rfl rfl rfl (Nat.le_of_ble_eq_true rfl) rfl zd_PW_cutDigitText_22 ?_
  refine zw_sub (L' := [zObj h 0 [.ref ht, .ref hl, .ref hs, .ref ho, .ref hn, .int (zI (p0 + 1)), .int (zI (w0)), .int (zI (r0))], zBRow ht (t) (nt), zWL hl (ws) (nw), zTS hs (ts) ([]) (nb) (n)]) [1, 0, 2, 3] rfl rfl ?_
  refine zw_lpick (lv' := [(0, .ref h), (1, .int (zI (p0))), (2, .int (zI ((((t).length : Nat) : Int)))), (3, .int (zI (-1)))]) [3, 2, 1, 0] rfl ?_
  have c0 : capN nb (ts.flatten.length + ([] : List Int).length) = nb := capN_id (by have := hts2.1; rw [List.append_nil] at this; simpa using this)
  refine zw_eqL (L' := [zObj h 0 [.ref ht, .ref hl, .ref hs, .ref ho, .ref hn, .int (zI (p0 + 1)), .int (zI (w0)), .int (zI (r0))], zBRow ht (t) (nt), zWL hl (ws) (nw), zTS hs (ts) (([] : List Int)) (capN nb (ts.flatten.length + ([] : List Int).length)) (n)]) (by rw [c0]) ?_
  refine zw_widen (k' := capN nb (ts.flatten.length + ([] : List Int).length) - nb) (n' := 2 * (capN nb (ts.flatten.length + ([] : List Int).length) - nb)) (by omega) (by omega) ?_
  exact lp _ t.length (p0 + 1) (-1) [] ⟨⟨by omega, by omega, by simp; omega, by omega⟩, hpr⟩ (Nat.lt_succ_self _)
set_option maxHeartbeats 4000000 in
set_option maxRecDepth 100000 in
theorem c_PW_pairs_bad2 (h ht hl hs ho hn : Nat) (t : List Int) (nt : Nat) (p0 w0 r0 : Int) (ws : List (Int32 × Int32 × Int32)) (nw : Nat) (ts : List (List Int)) (nb n : Nat) (hp : 0 ≤ p0 ∧ p0 < t.length) (hF : ts.flatten.length + t.length < 60000) (xs : List Int) (h1 wy E : Int) (hpr : prS t t.length (p0 + 1) (-1) [] = (xs, h1, wy, E)) (hy : wy = 2) : zCT zy_PW_cutDigitText zm_PW_cutDigitText ((capN nb (ts.flatten.length + (prX xs h1).length) - nb)) (2 * (capN nb (ts.flatten.length + (prX xs h1).length) - nb)) [.ref h] [zObj h 0 [.ref ht, .ref hl, .ref hs, .ref ho, .ref hn, .int (zI (p0)), .int (zI (w0)), .int (zI (r0))], zBRow ht (t) (nt), zWL hl (ws) (nw), zTS hs (ts) ([]) (nb) (n)] (none) [zObj h 0 [.ref ht, .ref hl, .ref hs, .ref ho, .ref hn, .int (zI (((t.length : Nat) : Int))), .int (zI (2)), .int (zI (((t.length : Nat) : Int)))], zBRow ht (t) (nt), zWL hl (ws) (nw), zTS hs (ts) (prX xs h1) (capN nb (ts.flatten.length + (prX xs h1).length)) (n)] := by
  refine zCT.of [(0, .ref h)] rfl (by decide) rfl (fun h => by first | rfl | cases h) (Nat.le_of_ble_eq_true rfl) (fun X hR => ?_)
  refine zw_fact 1 rfl (fun G w h => zBR_fact h) (fun hbr => ?_)
  obtain ⟨⟨ht1, ht2, ht3⟩, hby⟩ := hbr
  refine zw_fact 2 rfl (fun G w h => zWL_fact h) (fun hwl => ?_)
  refine zw_fact 3 rfl (fun G w h => zTS_fact h) (fun hts => ?_)
  obtain ⟨hts1, hts2, hts3, hts4⟩ := hts
  have mX := capN_ge nb (ts.flatten.length + (prX xs h1).length)
  have mP := prX_len xs h1
  have mQ := capN_mono nb (show ts.flatten.length + xs.length ≤ ts.flatten.length + (prX xs h1).length by omega)
  have lp : ∀ (fuel : Nat) (kk : Nat) (q : Int) (hf : Int) (acc : List Int), (((p0 < q ∧ q ≤ t.length) ∧ (-1 ≤ hf ∧ hf ≤ 15) ∧ (acc.length : Int) ≤ q ∧ (t.length : Int) - q ≤ kk) ∧ prS t kk q hf acc = (xs, h1, wy, E)) → kk < fuel → zZ X zm_PW_cutDigitText ((capN nb (ts.flatten.length + (prX xs h1).length) - nb)) (2 * (capN nb (ts.flatten.length + (prX xs h1).length) - nb)) (capN nb (ts.flatten.length + acc.length) - nb) (2 * (capN nb (ts.flatten.length + acc.length) - nb)) [zObj h 0 [.ref ht, .ref hl, .ref hs, .ref ho, .ref hn, .int (zI (q)), .int (zI (w0)), .int (zI (r0))], zBRow ht (t) (nt), zWL hl (ws) (nw), zTS hs (ts) (acc) (capN nb (ts.flatten.length + acc.length)) (n)] 25 [(0, .ref h), (1, .int (zI (p0))), (2, .int (zI (((t.length : Nat) : Int)))), (3, .int (zI (hf)))] [] := by
    intro fuel
    induction fuel with
    | zero => intro kk q hf acc g0 hm; exact absurd hm (Nat.not_lt_zero _)
    | succ fuel ih =>
      intro kk q hf acc g0 hm
      obtain ⟨⟨i1, i2, i3, i4⟩, i5⟩ := g0
      have m1 := capN_ge nb (ts.flatten.length + acc.length)
      have m4 := capN_cov (n := nb) (by omega) (ts.flatten.length + acc.length)
      have cc : (ts.flatten ++ acc).length = ts.flatten.length + acc.length := List.length_append
      have m5 := prS_len (t := t) kk _ _ _ i5
      have m6 := capN_mono nb (show ts.flatten.length + acc.length ≤ ts.flatten.length + xs.length by omega)
      refine zw_aload_n 0 rfl zd_PW_cutDigitText_25 ?_
      refine zw_get zc_PW 0 5 rfl (by decide) zf_PW_46 rfl zd_PW_cutDigitText_26 ?_
      refine zw_iload_n 2 rfl zd_PW_cutDigitText_29 ?_
      refine zw_icmp_ge 142 (by omega) (by omega) zd_PW_cutDigitText_30 (by decide) (fun c30 => ?_) (fun c30 => ?_)
      · -- 30 -> 142
        have e0 : (acc, hf, (2 : Int), q) = (xs, h1, wy, E) := by
          rw [← i5]
          cases kk with
          | zero => rfl
          | succ k => show _ = if _ then _ else _; rw [if_pos (by omega)]
        obtain ⟨e1, e2⟩ := Prod.mk.inj e0
        obtain ⟨e2, e3⟩ := Prod.mk.inj e2
        obtain ⟨e3, e4⟩ := Prod.mk.inj e3
        refine zw_iload_n 3 rfl zd_PW_cutDigitText_142 ?_
        refine zw_iconst zd_PW_cutDigitText_143 ?_
        refine zw_icmp_eq 158 (by omega) (by omega) zd_PW_cutDigitText_144 (by decide) (fun c144 => ?_) (fun c144 => ?_)
        · -- 144 -> 158
          have e5 : acc = prX xs h1 := by rw [prX, ← e1, ← e2, if_pos (by omega)]
          have e6 : capN nb (ts.flatten.length + acc.length) = capN nb (ts.flatten.length + (prX xs h1).length) := by rw [← e5]
          refine zw_eqL (L' := [zObj h 0 [.ref ht, .ref hl, .ref hs, .ref ho, .ref hn, .int (zI (q)), .int (zI (w0)), .int (zI (r0))], zBRow ht (t) (nt), zWL hl (ws) (nw), zTS hs (ts) (prX xs h1) (capN nb (ts.flatten.length + (prX xs h1).length)) (n)]) (by rw [← e5]) ?_
          refine zw_widen (k' := capN nb (ts.flatten.length + (prX xs h1).length) - nb) (n' := 2 * (capN nb (ts.flatten.length + (prX xs h1).length) - nb)) (by omega) (by omega) ?_
          refine zw_aload_n 0 rfl zd_PW_cutDigitText_158 ?_
          refine zw_iload_n 1 rfl zd_PW_cutDigitText_159 ?_
          refine zw_aload_n 0 rfl zd_PW_cutDigitText_160 ?_
          refine zw_get zc_PW 0 5 rfl (by decide) zf_PW_46 rfl zd_PW_cutDigitText_161 ?_
          refine zw_iload_n 2 rfl zd_PW_cutDigitText_164 ?_
          refine zw_icmp_ge 172 (by omega) (by omega) zd_PW_cutDigitText_165 (by decide) (fun c165 => ?_) (fun c165 => ?_)
          · -- 165 -> 172
            refine zw_iconst zd_PW_cutDigitText_172 ?_
            refine zw_callV (As := [.int (zI (p0)), .int (zI (0))]) (rest := []) (L2 := [zWL hl (ws) (nw), zTS hs (ts) (prX xs h1) (capN nb (ts.flatten.length + (prX xs h1).length)) (n)]) (L' := [zObj h 0 [.ref ht, .ref hl, .ref hs, .ref ho, .ref hn, .int (zI (q)), .int (zI (2)), .int (zI (((t.length : Nat) : Int)))], zBRow ht (t) (nt), zWL hl (ws) (nw), zTS hs (ts) (prX xs h1) (capN nb (ts.flatten.length + (prX xs h1).length)) (n)]) (stk' := []) (c_PW_endText0 h ht hl hs ho hn t nt q w0 r0 p0) [0, 1] [2, 3] rfl rfl rfl zcal_PW_endText zl_PW_177 zin_PW_endText zse_PW_endText 0 rfl zRv_obj rfl (Nat.le_of_ble_eq_true rfl) (Nat.le_of_ble_eq_true rfl) (by omega) (by omega) rfl (Nat.le_of_ble_eq_true rfl) rfl rfl zd_PW_cutDigitText_173 ?_
            exact zw_vret hR rfl (by rw [show q = ((t.length : Nat) : Int) by omega]) rfl (by omega) (by omega) zd_PW_cutDigitText_176
          · -- 165 -> 168
            exact absurd c165 (by omega)
        · -- 144 -> 147
          have m7 := capN_ge (capN nb (ts.flatten.length + acc.length)) (ts.flatten.length + acc.length + 1)
          have e7 : prX xs h1 = acc ++ [16 * hf] := by rw [prX, ← e1, ← e2, if_neg (by omega)]
          have e8 : capN (capN nb (ts.flatten.length + acc.length)) (ts.flatten.length + acc.length + 1) = capN nb (ts.flatten.length + (prX xs h1).length) := by rw [e7, capN_next (by omega), List.length_append, List.length_singleton, Nat.add_assoc]
          refine zw_aload_n 0 rfl zd_PW_cutDigitText_147 ?_
          refine zw_get zc_PW 0 2 rfl (by decide) zf_PW_26 rfl zd_PW_cutDigitText_148 ?_
          refine zw_bipush rfl zd_PW_cutDigitText_151 ?_
          refine zw_iload_n 3 rfl zd_PW_cutDigitText_153 ?_
          refine zw_imul zd_PW_cutDigitText_154 ?_
          refine zw_callV (As := [.int (zI (16 * hf))]) (rest := []) (L2 := [zObj h 0 [.ref ht, .ref hl, .ref hs, .ref ho, .ref hn, .int (zI (q)), .int (zI (w0)), .int (zI (r0))], zBRow ht (t) (nt), zWL hl (ws) (nw)]) (L' := [zTS hs (ts) (acc ++ [(16 * hf) % 256]) (capN (capN nb (ts.flatten.length + acc.length)) (ts.flatten.length + acc.length + 1)) (n), zObj h 0 [.ref ht, .ref hl, .ref hs, .ref ho, .ref hn, .int (zI (q)), .int (zI (w0)), .int (zI (r0))], zBRow ht (t) (nt), zWL hl (ws) (nw)]) (stk' := []) (c_TS_putC hs (ts) (acc) (capN nb (ts.flatten.length + acc.length)) (n) (16 * hf) (ts.flatten.length + acc.length) (cc) (by omega) (by omega)) [3] [0, 1, 2] rfl rfl rfl zcal_TS_put zl_PW_160 zin_TS_put zse_TS_put 0 rfl zRv_TS rfl (Nat.le_of_ble_eq_true rfl) (Nat.le_of_ble_eq_true rfl) (by omega) (by omega) rfl (Nat.le_of_ble_eq_true rfl) rfl rfl zd_PW_cutDigitText_155 ?_
          have e5 : acc ++ [(16 * hf) % 256] = prX xs h1 := by rw [prX, ← e1, ← e2, if_neg (by omega), Int.emod_eq_of_lt (by omega) (by omega)]
          have e6 : capN (capN nb (ts.flatten.length + acc.length)) (ts.flatten.length + acc.length + 1) = capN nb (ts.flatten.length + (prX xs h1).length) := by rw [← e5, capN_next (by omega), List.length_append, List.length_singleton, Nat.add_assoc]
          refine zw_sub (L' := [zObj h 0 [.ref ht, .ref hl, .ref hs, .ref ho, .ref hn, .int (zI (q)), .int (zI (w0)), .int (zI (r0))], zBRow ht (t) (nt), zWL hl (ws) (nw), zTS hs (ts) (acc ++ [(16 * hf) % 256]) (capN (capN nb (ts.flatten.length + acc.length)) (ts.flatten.length + acc.length + 1)) (n)]) [1, 2, 3, 0] rfl rfl ?_
          refine zw_eqL (L' := [zObj h 0 [.ref ht, .ref hl, .ref hs, .ref ho, .ref hn, .int (zI (q)), .int (zI (w0)), .int (zI (r0))], zBRow ht (t) (nt), zWL hl (ws) (nw), zTS hs (ts) (prX xs h1) (capN nb (ts.flatten.length + (prX xs h1).length)) (n)]) (by rw [e6, e5]) ?_
          refine zw_widen (k' := capN nb (ts.flatten.length + (prX xs h1).length) - nb) (n' := 2 * (capN nb (ts.flatten.length + (prX xs h1).length) - nb)) (by omega) (by omega) ?_
          refine zw_aload_n 0 rfl zd_PW_cutDigitText_158 ?_
          refine zw_iload_n 1 rfl zd_PW_cutDigitText_159 ?_
          refine zw_aload_n 0 rfl zd_PW_cutDigitText_160 ?_
          refine zw_get zc_PW 0 5 rfl (by decide) zf_PW_46 rfl zd_PW_cutDigitText_161 ?_
          refine zw_iload_n 2 rfl zd_PW_cutDigitText_164 ?_
          refine zw_icmp_ge 172 (by omega) (by omega) zd_PW_cutDigitText_165 (by decide) (fun c165 => ?_) (fun c165 => ?_)
          · -- 165 -> 172
            refine zw_iconst zd_PW_cutDigitText_172 ?_
            refine zw_callV (As := [.int (zI (p0)), .int (zI (0))]) (rest := []) (L2 := [zWL hl (ws) (nw), zTS hs (ts) (prX xs h1) (capN nb (ts.flatten.length + (prX xs h1).length)) (n)]) (L' := [zObj h 0 [.ref ht, .ref hl, .ref hs, .ref ho, .ref hn, .int (zI (q)), .int (zI (2)), .int (zI (((t.length : Nat) : Int)))], zBRow ht (t) (nt), zWL hl (ws) (nw), zTS hs (ts) (prX xs h1) (capN nb (ts.flatten.length + (prX xs h1).length)) (n)]) (stk' := []) (c_PW_endText0 h ht hl hs ho hn t nt q w0 r0 p0) [0, 1] [2, 3] rfl rfl rfl zcal_PW_endText zl_PW_177 zin_PW_endText zse_PW_endText 0 rfl zRv_obj rfl (Nat.le_of_ble_eq_true rfl) (Nat.le_of_ble_eq_true rfl) (by omega) (by omega) rfl (Nat.le_of_ble_eq_true rfl) rfl rfl zd_PW_cutDigitText_173 ?_
            exact zw_vret hR rfl (by rw [show q = ((t.length : Nat) : Int) by omega]) rfl (by omega) (by omega) zd_PW_cutDigitText_176
          · -- 165 -> 168
            exact absurd c165 (by omega)
      · -- 30 -> 33
        refine zw_aload_n 0 rfl zd_PW_cutDigitText_33 ?_
        refine zw_get zc_PW 0 0 rfl (by decide) zf_PW_10 rfl zd_PW_cutDigitText_34 ?_
        refine zw_aload_n 0 rfl zd_PW_cutDigitText_37 ?_
        refine zw_get zc_PW 0 5 rfl (by decide) zf_PW_46 rfl zd_PW_cutDigitText_38 ?_
        refine zw_callV (As := [.int (zI (q))]) (rest := []) (L2 := [zObj h 0 [.ref ht, .ref hl, .ref hs, .ref ho, .ref hn, .int (zI (q)), .int (zI (w0)), .int (zI (r0))], zWL hl (ws) (nw), zTS hs (ts) (acc) (capN nb (ts.flatten.length + acc.length)) (n)]) (L' := [zBRow ht (t) (nt), zObj h 0 [.ref ht, .ref hl, .ref hs, .ref ho, .ref hn, .int (zI (q)), .int (zI (w0)), .int (zI (r0))], zWL hl (ws) (nw), zTS hs (ts) (acc) (capN nb (ts.flatten.length + acc.length)) (n)]) (stk' := [.int (zI (bget t q))]) (c_BR_get ht (t) (nt) (q) (by omega)) [1] [0, 2, 3] rfl rfl rfl zcal_BR_get zl_PW_106 zin_BR_get zse_BR_get 0 rfl zRv_BRow rfl (Nat.le_of_ble_eq_true rfl) (Nat.le_of_ble_eq_true rfl) (by omega) (by omega) rfl (Nat.le_of_ble_eq_true rfl) rfl rfl zd_PW_cutDigitText_41 ?_
        have rg41 := bget_rg hby (q)
        refine zw_bipush rfl zd_PW_cutDigitText_44 ?_
        refine zw_icmp_eq 142 (by omega) (by omega) zd_PW_cutDigitText_46 (by decide) (fun c46 => ?_) (fun c46 => ?_)
        · -- 46 -> 142
          obtain ⟨k, rfl⟩ : ∃ k, kk = k + 1 := ⟨kk - 1, by omega⟩
          have e0 : (acc, hf, (0 : Int), q) = (xs, h1, wy, E) := by rw [← i5]; show _ = if _ then _ else _; rw [if_neg (by omega), if_pos (by omega)]
          obtain ⟨e1, e2⟩ := Prod.mk.inj e0
          obtain ⟨e2, e3⟩ := Prod.mk.inj e2
          obtain ⟨e3, e4⟩ := Prod.mk.inj e3
          exact absurd hy (by omega)
        · -- 46 -> 49
          refine zw_aload_n 0 rfl zd_PW_cutDigitText_49 ?_
          refine zw_get zc_PW 1 0 rfl (by decide) zf_PW_10 rfl zd_PW_cutDigitText_50 ?_
          refine zw_aload_n 0 rfl zd_PW_cutDigitText_53 ?_
          refine zw_get zc_PW 1 5 rfl (by decide) zf_PW_46 rfl zd_PW_cutDigitText_54 ?_
          refine zw_callV (As := [.int (zI (q))]) (rest := []) (L2 := [zObj h 0 [.ref ht, .ref hl, .ref hs, .ref ho, .ref hn, .int (zI (q)), .int (zI (w0)), .int (zI (r0))], zWL hl (ws) (nw), zTS hs (ts) (acc) (capN nb (ts.flatten.length + acc.length)) (n)]) (L' := [zBRow ht (t) (nt), zObj h 0 [.ref ht, .ref hl, .ref hs, .ref ho, .ref hn, .int (zI (q)), .int (zI (w0)), .int (zI (r0))], zWL hl (ws) (nw), zTS hs (ts) (acc) (capN nb (ts.flatten.length + acc.length)) (n)]) (stk' := [.int (zI (bget t q))]) (c_BR_get ht (t) (nt) (q) (by omega)) [0] [1, 2, 3] rfl rfl rfl zcal_BR_get zl_PW_106 zin_BR_get zse_BR_get 0 rfl zRv_BRow rfl (Nat.le_of_ble_eq_true rfl) (Nat.le_of_ble_eq_true rfl) (by omega) (by omega) rfl (Nat.le_of_ble_eq_true rfl) rfl rfl zd_PW_cutDigitText_57 ?_
          have rg57 := bget_rg hby (q)
          refine zw_istore (lv' := [(4, .int (zI (bget t q))), (0, .ref h), (1, .int (zI (p0))), (2, .int (zI (((t.length : Nat) : Int)))), (3, .int (zI (hf)))]) (Nat.le_of_ble_eq_true rfl) rfl zd_PW_cutDigitText_60 ?_
          have dr := digV_rg (bget t q)
          obtain ⟨k, rfl⟩ : ∃ k, kk = k + 1 := ⟨kk - 1, by omega⟩
          refine zw_iload 0 rfl zd_PW_cutDigitText_62 ?_
          refine zw_callS (a := 0) (As := [.int (zI (bget t q))]) (rest := []) (L2 := [zBRow ht (t) (nt), zObj h 0 [.ref ht, .ref hl, .ref hs, .ref ho, .ref hn, .int (zI (q)), .int (zI (w0)), .int (zI (r0))], zWL hl (ws) (nw), zTS hs (ts) (acc) (capN nb (ts.flatten.length + acc.length)) (n)]) (L' := [zBRow ht (t) (nt), zObj h 0 [.ref ht, .ref hl, .ref hs, .ref ho, .ref hn, .int (zI (q)), .int (zI (w0)), .int (zI (r0))], zWL hl (ws) (nw), zTS hs (ts) (acc) (capN nb (ts.flatten.length + acc.length)) (n)]) (stk' := [.int (zI (digV (bget t q)))]) (c_PW_digitValue (bget t q) (by omega)) [] [0, 1, 2, 3] rfl rfl rfl zcal_PW_digitValue zl_PW_174 zst_PW_digitValue (Nat.le_of_ble_eq_true rfl) (Nat.le_of_ble_eq_true rfl) (by omega) (by omega) rfl (Nat.le_of_ble_eq_true rfl) rfl rfl zd_PW_cutDigitText_64 ?_
          refine zw_istore (lv' := [(5, .int (zI (digV (bget t q)))), (4, .int (zI (bget t q))), (0, .ref h), (1, .int (zI (p0))), (2, .int (zI (((t.length : Nat) : Int)))), (3, .int (zI (hf)))]) (Nat.le_of_ble_eq_true rfl) rfl zd_PW_cutDigitText_67 ?_
          refine zw_iload 1 rfl zd_PW_cutDigitText_69 ?_
          refine zw_callS (a := 0) (As := [.int (zI (bget t q))]) (rest := []) (L2 := [zBRow ht (t) (nt), zObj h 0 [.ref ht, .ref hl, .ref hs, .ref ho, .ref hn, .int (zI (q)), .int (zI (w0)), .int (zI (r0))], zWL hl (ws) (nw), zTS hs (ts) (acc) (capN nb (ts.flatten.length + acc.length)) (n)]) (L' := [zBRow ht (t) (nt), zObj h 0 [.ref ht, .ref hl, .ref hs, .ref ho, .ref hn, .int (zI (q)), .int (zI (w0)), .int (zI (r0))], zWL hl (ws) (nw), zTS hs (ts) (acc) (capN nb (ts.flatten.length + acc.length)) (n)]) (stk' := [.int (zI (bI (sBlank (bget t q))))]) (c_PW_isBlank (bget t q) (by omega)) [] [0, 1, 2, 3] rfl rfl rfl zcal_PW_isBlank zl_PW_109 zst_PW_isBlank (Nat.le_of_ble_eq_true rfl) (Nat.le_of_ble_eq_true rfl) (by omega) (by omega) rfl (Nat.le_of_ble_eq_true rfl) rfl rfl zd_PW_cutDigitText_71 ?_
          have rb71 := bI_rg (sBlank (bget t q))
          refine zw_if_eq 80 (by omega) zd_PW_cutDigitText_74 (by decide) (fun c74 => ?_) (fun c74 => ?_)
          · -- 74 -> 80
            refine zw_iload 0 rfl zd_PW_cutDigitText_80 ?_
            refine zw_if_lt 92 (by omega) zd_PW_cutDigitText_82 (by decide) (fun c82 => ?_) (fun c82 => ?_)
            · -- 82 -> 92
              have hbl : ¬ sBlank (bget t q) = true := by rw [zbI0 (b := sBlank (bget t q)) (by omega)]; decide
              have e0 : (acc, hf, (3 : Int), q) = (xs, h1, wy, E) := by rw [← i5]; show _ = if _ then _ else _; rw [if_neg (by omega), if_neg (by omega), if_neg hbl, if_pos (by omega)]
              obtain ⟨e1, e2⟩ := Prod.mk.inj e0
              obtain ⟨e2, e3⟩ := Prod.mk.inj e2
              obtain ⟨e3, e4⟩ := Prod.mk.inj e3
              exact absurd hy (by omega)
            · -- 82 -> 85
              refine zw_iload 0 rfl zd_PW_cutDigitText_85 ?_
              refine zw_bipush rfl zd_PW_cutDigitText_87 ?_
              refine zw_icmp_le 102 (by omega) (by omega) zd_PW_cutDigitText_89 (by decide) (fun c89 => ?_) (fun c89 => ?_)
              · -- 89 -> 102
                refine zw_iload_n 5 rfl zd_PW_cutDigitText_102 ?_
                refine zw_iconst zd_PW_cutDigitText_103 ?_
                refine zw_icmp_ne 113 (by omega) (by omega) zd_PW_cutDigitText_104 (by decide) (fun c104 => ?_) (fun c104 => ?_)
                · -- 104 -> 113
                  have hbl : ¬ sBlank (bget t q) = true := by rw [zbI0 (b := sBlank (bget t q)) (by omega)]; decide
                  have e7 : prS t k (q + 1) (-1) (acc ++ [16 * hf + digV (bget t q)]) = (xs, h1, wy, E) := by
                    rw [← i5]
                    show _ = if _ then _ else _
                    rw [if_neg (by omega), if_neg (by omega), if_neg hbl, if_neg (by omega), if_neg (by omega)]
                  have m8 := prS_len (t := t) k _ _ _ e7
                  rw [List.length_append, List.length_singleton] at m8
                  have m9 := capN_mono nb (show ts.flatten.length + acc.length + 1 ≤ ts.flatten.length + xs.length by omega)
                  have e6 := capN_next (n := nb) (by omega) (ts.flatten.length + acc.length)
                  have m7 := capN_ge (capN nb (ts.flatten.length + acc.length)) (ts.flatten.length + acc.length + 1)
                  refine zw_aload_n 2 rfl zd_PW_cutDigitText_113 ?_
                  refine zw_get zc_PW 1 2 rfl (by decide) zf_PW_26 rfl zd_PW_cutDigitText_114 ?_
                  refine zw_bipush rfl zd_PW_cutDigitText_117 ?_
                  refine zw_iload_n 5 rfl zd_PW_cutDigitText_119 ?_
                  refine zw_imul zd_PW_cutDigitText_120 ?_
                  refine zw_iload 0 rfl zd_PW_cutDigitText_121 ?_
                  refine zw_iadd zd_PW_cutDigitText_123 ?_
                  refine zw_callV (As := [.int (zI ((16 * hf) + (digV (bget t q))))]) (rest := []) (L2 := [zBRow ht (t) (nt), zObj h 0 [.ref ht, .ref hl, .ref hs, .ref ho, .ref hn, .int (zI (q)), .int (zI (w0)), .int (zI (r0))], zWL hl (ws) (nw)]) (L' := [zTS hs (ts) (acc ++ [((16 * hf) + (digV (bget t q))) % 256]) (capN (capN nb (ts.flatten.length + acc.length)) (ts.flatten.length + acc.length + 1)) (n), zBRow ht (t) (nt), zObj h 0 [.ref ht, .ref hl, .ref hs, .ref ho, .ref hn, .int (zI (q)), .int (zI (w0)), .int (zI (r0))], zWL hl (ws) (nw)]) (stk' := []) (c_TS_putC hs (ts) (acc) (capN nb (ts.flatten.length + acc.length)) (n) ((16 * hf) + (digV (bget t q))) (ts.flatten.length + acc.length) (cc) (by omega) (by omega)) [3] [0, 1, 2] rfl rfl rfl zcal_TS_put zl_PW_160 zin_TS_put zse_TS_put 0 rfl zRv_TS rfl (Nat.le_of_ble_eq_true rfl) (Nat.le_of_ble_eq_true rfl) (by omega) (by omega) rfl (Nat.le_of_ble_eq_true rfl) rfl rfl zd_PW_cutDigitText_124 ?_
                  refine zw_iconst zd_PW_cutDigitText_127 ?_
                  refine zw_istore_n (lv' := [(3, .int (zI (-1))), (5, .int (zI (digV (bget t q)))), (4, .int (zI (bget t q))), (0, .ref h), (1, .int (zI (p0))), (2, .int (zI (((t.length : Nat) : Int))))]) (Nat.le_of_ble_eq_true rfl) rfl zd_PW_cutDigitText_128 ?_
                  refine zw_aload_n 3 rfl zd_PW_cutDigitText_129 ?_
                  refine zw_dup rfl zd_PW_cutDigitText_130 ?_
                  refine zw_get zc_PW 2 5 rfl (by decide) zf_PW_46 rfl zd_PW_cutDigitText_131 ?_
                  refine zw_iconst zd_PW_cutDigitText_134 ?_
                  refine zw_iadd zd_PW_cutDigitText_135 ?_
                  refine zw_put (L' := [zTS hs (ts) (acc ++ [((16 * hf) + (digV (bget t q))) % 256]) (capN (capN nb (ts.flatten.length + acc.length)) (ts.flatten.length + acc.length + 1)) (n), zBRow ht (t) (nt), zObj h 0 [.ref ht, .ref hl, .ref hs, .ref ho, .ref hn, .int (zI (q + 1)), .int (zI (w0)), .int (zI (r0))], zWL hl (ws) (nw)]) zc_PW 2 5 rfl (by decide) zf_PW_46 rfl rfl rfl (Nat.le_of_ble_eq_true rfl) rfl zd_PW_cutDigitText_136 ?_
                  refine zw_goto 25 zd_PW_cutDigitText_139 (by decide) ?_
                  refine zw_sub (L' := [zObj h 0 [.ref ht, .ref hl, .ref hs, .ref ho, .ref hn, .int (zI (q + 1)), .int (zI (w0)), .int (zI (r0))], zBRow ht (t) (nt), zWL hl (ws) (nw), zTS hs (ts) (acc ++ [((16 * hf) + (digV (bget t q))) % 256]) (capN (capN nb (ts.flatten.length + acc.length)) (ts.flatten.length + acc.length + 1)) (n)]) [2, 1, 3, 0] rfl rfl ?_
                  refine zw_lpick (lv' := [(0, .ref h), (1, .int (zI (p0))), (2, .int (zI (((t.length : Nat) : Int)))), (3, .int (zI (-1)))]) [3, 4, 5, 0] rfl ?_
                  refine zw_eqL (L' := [zObj h 0 [.ref ht, .ref hl, .ref hs, .ref ho, .ref hn, .int (zI (q + 1)), .int (zI (w0)), .int (zI (r0))], zBRow ht (t) (nt), zWL hl (ws) (nw), zTS hs (ts) (acc ++ [16 * hf + digV (bget t q)]) (capN nb (ts.flatten.length + (acc ++ [16 * hf + digV (bget t q)]).length)) (n)]) (by rw [e6, Int.emod_eq_of_lt (by omega) (by omega), List.length_append, List.length_singleton, Nat.add_assoc]) ?_
                  refine zw_widen (k' := capN nb (ts.flatten.length + (acc ++ [16 * hf + digV (bget t q)]).length) - nb) (n' := 2 * (capN nb (ts.flatten.length + (acc ++ [16 * hf + digV (bget t q)]).length) - nb)) (by rw [List.length_append, List.length_singleton, ← Nat.add_assoc]; omega) (by rw [List.length_append, List.length_singleton, ← Nat.add_assoc]; omega) ?_
                  exact ih k (q + 1) (-1) _ ⟨⟨by omega, by omega, by rw [List.length_append, List.length_singleton]; omega, by omega⟩, e7⟩ (by omega)
                · -- 104 -> 107
                  have hbl : ¬ sBlank (bget t q) = true := by rw [zbI0 (b := sBlank (bget t q)) (by omega)]; decide
                  have e7 : prS t k (q + 1) (digV (bget t q)) (acc) = (xs, h1, wy, E) := by
                    rw [← i5]
                    show _ = if _ then _ else _
                    rw [if_neg (by omega), if_neg (by omega), if_neg hbl, if_neg (by omega), if_pos (by omega)]
                  have m8 := prS_len (t := t) k _ _ _ e7
                  refine zw_iload 0 rfl zd_PW_cutDigitText_107 ?_
                  refine zw_istore_n (lv' := [(3, .int (zI (digV (bget t q)))), (5, .int (zI (digV (bget t q)))), (4, .int (zI (bget t q))), (0, .ref h), (1, .int (zI (p0))), (2, .int (zI (((t.length : Nat) : Int))))]) (Nat.le_of_ble_eq_true rfl) rfl zd_PW_cutDigitText_109 ?_
                  refine zw_goto 129 zd_PW_cutDigitText_110 (by decide) ?_
                  refine zw_aload_n 3 rfl zd_PW_cutDigitText_129 ?_
                  refine zw_dup rfl zd_PW_cutDigitText_130 ?_
                  refine zw_get zc_PW 1 5 rfl (by decide) zf_PW_46 rfl zd_PW_cutDigitText_131 ?_
                  refine zw_iconst zd_PW_cutDigitText_134 ?_
                  refine zw_iadd zd_PW_cutDigitText_135 ?_
                  refine zw_put (L' := [zBRow ht (t) (nt), zObj h 0 [.ref ht, .ref hl, .ref hs, .ref ho, .ref hn, .int (zI (q + 1)), .int (zI (w0)), .int (zI (r0))], zWL hl (ws) (nw), zTS hs (ts) (acc) (capN nb (ts.flatten.length + acc.length)) (n)]) zc_PW 1 5 rfl (by decide) zf_PW_46 rfl rfl rfl (Nat.le_of_ble_eq_true rfl) rfl zd_PW_cutDigitText_136 ?_
                  refine zw_goto 25 zd_PW_cutDigitText_139 (by decide) ?_
                  refine zw_sub (L' := [zObj h 0 [.ref ht, .ref hl, .ref hs, .ref ho, .ref hn, .int (zI (q + 1)), .int (zI (w0)), .int (zI (r0))], zBRow ht (t) (nt), zWL hl (ws) (nw), zTS hs (ts) (acc) (capN nb (ts.flatten.length + acc.length)) (n)]) [1, 0, 2, 3] rfl rfl ?_
                  refine zw_lpick (lv' := [(0, .ref h), (1, .int (zI (p0))), (2, .int (zI (((t.length : Nat) : Int)))), (3, .int (zI (digV (bget t q))))]) [3, 4, 5, 0] rfl ?_
                  refine zw_widen (k' := capN nb (ts.flatten.length + acc.length) - nb) (n' := 2 * (capN nb (ts.flatten.length + acc.length) - nb)) (by omega) (by omega) ?_
                  exact ih k (q + 1) (digV (bget t q)) _ ⟨⟨by omega, by omega, by omega, by omega⟩, e7⟩ (by omega)
              · -- 89 -> 92
                have hbl : ¬ sBlank (bget t q) = true := by rw [zbI0 (b := sBlank (bget t q)) (by omega)]; decide
                have e0 : (acc, hf, (3 : Int), q) = (xs, h1, wy, E) := by rw [← i5]; show _ = if _ then _ else _; rw [if_neg (by omega), if_neg (by omega), if_neg hbl, if_pos (by omega)]
                obtain ⟨e1, e2⟩ := Prod.mk.inj e0
                obtain ⟨e2, e3⟩ := Prod.mk.inj e2
                obtain ⟨e3, e4⟩ := Prod.mk.inj e3
                exact absurd hy (by omega)
          · -- 74 -> 77
            have hbl : sBlank (bget t q) = true := zbI1 (by omega)
            have e7 : prS t k (q + 1) (hf) (acc) = (xs, h1, wy, E) := by
              rw [← i5]
              show _ = if _ then _ else _
              rw [if_neg (by omega), if_neg (by omega), if_pos hbl]
            have m8 := prS_len (t := t) k _ _ _ e7
            refine zw_goto 129 zd_PW_cutDigitText_77 (by decide) ?_
            refine zw_aload_n 2 rfl zd_PW_cutDigitText_129 ?_
            refine zw_dup rfl zd_PW_cutDigitText_130 ?_
            refine zw_get zc_PW 1 5 rfl (by decide) zf_PW_46 rfl zd_PW_cutDigitText_131 ?_
            refine zw_iconst zd_PW_cutDigitText_134 ?_
            refine zw_iadd zd_PW_cutDigitText_135 ?_
            refine zw_put (L' := [zBRow ht (t) (nt), zObj h 0 [.ref ht, .ref hl, .ref hs, .ref ho, .ref hn, .int (zI (q + 1)), .int (zI (w0)), .int (zI (r0))], zWL hl (ws) (nw), zTS hs (ts) (acc) (capN nb (ts.flatten.length + acc.length)) (n)]) zc_PW 1 5 rfl (by decide) zf_PW_46 rfl rfl rfl (Nat.le_of_ble_eq_true rfl) rfl zd_PW_cutDigitText_136 ?_
            refine zw_goto 25 zd_PW_cutDigitText_139 (by decide) ?_
            refine zw_sub (L' := [zObj h 0 [.ref ht, .ref hl, .ref hs, .ref ho, .ref hn, .int (zI (q + 1)), .int (zI (w0)), .int (zI (r0))], zBRow ht (t) (nt), zWL hl (ws) (nw), zTS hs (ts) (acc) (capN nb (ts.flatten.length + acc.length)) (n)]) [1, 0, 2, 3] rfl rfl ?_
            refine zw_lpick (lv' := [(0, .ref h), (1, .int (zI (p0))), (2, .int (zI (((t.length : Nat) : Int)))), (3, .int (zI (hf)))]) [2, 3, 4, 5] rfl ?_
            refine zw_widen (k' := capN nb (ts.flatten.length + acc.length) - nb) (n' := 2 * (capN nb (ts.flatten.length + acc.length) - nb)) (by omega) (by omega) ?_
            exact ih k (q + 1) (hf) _ ⟨⟨by omega, by omega, by omega, by omega⟩, e7⟩ (by omega)
  refine zw_aload_n 0 rfl zd_PW_cutDigitText_0 ?_
  refine zw_get zc_PW 0 5 rfl (by decide) zf_PW_46 rfl zd_PW_cutDigitText_1 ?_
  refine zw_istore_n (lv' := [(1, .int (zI (p0))), (0, .ref h)]) (Nat.le_of_ble_eq_true rfl) rfl zd_PW_cutDigitText_4 ?_
  refine zw_aload_n 1 rfl zd_PW_cutDigitText_5 ?_
  refine zw_get zc_PW 0 0 rfl (by decide) zf_PW_10 rfl zd_PW_cutDigitText_6 ?_
  refine zw_callV (As := []) (rest := []) (L2 := [zObj h 0 [.ref ht, .ref hl, .ref hs, .ref ho, .ref hn, .int (zI (p0)), .int (zI (w0)), .int (zI (r0))], zWL hl (ws) (nw), zTS hs (ts) ([]) (nb) (n)]) (L' := [zBRow ht (t) (nt), zObj h 0 [.ref ht, .ref hl, .ref hs, .ref ho, .ref hn, .int (zI (p0)), .int (zI (w0)), .int (zI (r0))], zWL hl (ws) (nw), zTS hs (ts) ([]) (nb) (n)]) (stk' := [.int (zI ((((t).length : Nat) : Int)))]) (c_BR_count ht (t) (nt) ((t).length) (rfl)) [1] [0, 2, 3] rfl rfl rfl zcal_BR_count zl_PW_56 zin_BR_count zse_BR_count 0 rfl zRv_BRow rfl (Nat.le_of_ble_eq_true rfl) (Nat.le_of_ble_eq_true rfl) (by omega) (by omega) rfl (Nat.le_of_ble_eq_true rfl) rfl rfl zd_PW_cutDigitText_9 ?_
  refine zw_istore_n (lv' := [(2, .int (zI ((((t).length : Nat) : Int)))), (1, .int (zI (p0))), (0, .ref h)]) (Nat.le_of_ble_eq_true rfl) rfl zd_PW_cutDigitText_12 ?_
  refine zw_iconst zd_PW_cutDigitText_13 ?_
  refine zw_istore_n (lv' := [(3, .int (zI (-1))), (2, .int (zI ((((t).length : Nat) : Int)))), (1, .int (zI (p0))), (0, .ref h)]) (Nat.le_of_ble_eq_true rfl) rfl zd_PW_cutDigitText_14 ?_
  refine zw_aload_n 3 rfl zd_PW_cutDigitText_15 ?_
  refine zw_dup rfl zd_PW_cutDigitText_16 ?_
  refine zw_get zc_PW 1 5 rfl (by decide) zf_PW_46 rfl zd_PW_cutDigitText_17 ?_
  refine zw_iconst zd_PW_cutDigitText_20 ?_
  refine zw_iadd zd_PW_cutDigitText_21 ?_
  refine zw_put (L' := [zBRow ht (t) (nt), zObj h 0 [.ref ht, .ref hl, .ref hs, .ref ho, .ref hn, .int (zI (p0 + 1)), .int (zI (w0)), .int (zI (r0))], zWL hl (ws) (nw), zTS hs (ts) ([]) (nb) (n)]) zc_PW 1 5 rfl (by decide) zf_PW_46 rfl rfl rfl (Nat.le_of_ble_eq_true rfl) rfl zd_PW_cutDigitText_22 ?_
  refine zw_sub (L' := [zObj h 0 [.ref ht, .ref hl, .ref hs, .ref ho, .ref hn, .int (zI (p0 + 1)), .int (zI (w0)), .int (zI (r0))], zBRow ht (t) (nt), zWL hl (ws) (nw), zTS hs (ts) ([]) (nb) (n)]) [1, 0, 2, 3] rfl rfl ?_
  refine zw_lpick (lv' := [(0, .ref h), (1, .int (zI (p0))), (2, .int (zI ((((t).length : Nat) : Int)))), (3, .int (zI (-1)))]) [3, 2, 1, 0] rfl ?_
  have c0 : capN nb (ts.flatten.length + ([] : List Int).length) = nb := capN_id (by have := hts2.1; rw [List.append_nil] at this; simpa using this)
  refine zw_eqL (L' := [zObj h 0 [.ref ht, .ref hl, .ref hs, .ref ho, .ref hn, .int (zI (p0 + 1)), .int (zI (w0)), .int (zI (r0))], zBRow ht (t) (nt), zWL hl (ws) (nw), zTS hs (ts) (([] : List Int)) (capN nb (ts.flatten.length + ([] : List Int).length)) (n)]) (by rw [c0]) ?_
  refine zw_widen (k' := capN nb (ts.flatten.length + ([] : List Int).length) - nb) (n' := 2 * (capN nb (ts.flatten.length + ([] : List Int).length) - nb)) (by omega) (by omega) ?_
  exact lp _ t.length (p0 + 1) (-1) [] ⟨⟨by omega, by omega, by simp; omega, by omega⟩, hpr⟩ (Nat.lt_succ_self _)
set_option maxHeartbeats 4000000 in
set_option maxRecDepth 100000 in
theorem c_PW_pairs_bad3 (h ht hl hs ho hn : Nat) (t : List Int) (nt : Nat) (p0 w0 r0 : Int) (ws : List (Int32 × Int32 × Int32)) (nw : Nat) (ts : List (List Int)) (nb n : Nat) (hp : 0 ≤ p0 ∧ p0 < t.length) (hF : ts.flatten.length + t.length < 60000) (xs : List Int) (h1 wy E : Int) (hpr : prS t t.length (p0 + 1) (-1) [] = (xs, h1, wy, E)) (hy : wy = 3) : zCT zy_PW_cutDigitText zm_PW_cutDigitText ((capN nb (ts.flatten.length + (xs).length) - nb)) (2 * (capN nb (ts.flatten.length + (xs).length) - nb)) [.ref h] [zObj h 0 [.ref ht, .ref hl, .ref hs, .ref ho, .ref hn, .int (zI (p0)), .int (zI (w0)), .int (zI (r0))], zBRow ht (t) (nt), zWL hl (ws) (nw), zTS hs (ts) ([]) (nb) (n)] (none) [zObj h 0 [.ref ht, .ref hl, .ref hs, .ref ho, .ref hn, .int (zI (E)), .int (zI (3)), .int (zI (E))], zBRow ht (t) (nt), zWL hl (ws) (nw), zTS hs (ts) (xs) (capN nb (ts.flatten.length + xs.length)) (n)] := by
  refine zCT.of [(0, .ref h)] rfl (by decide) rfl (fun h => by first | rfl | cases h) (Nat.le_of_ble_eq_true rfl) (fun X hR => ?_)
  refine zw_fact 1 rfl (fun G w h => zBR_fact h) (fun hbr => ?_)
  obtain ⟨⟨ht1, ht2, ht3⟩, hby⟩ := hbr
  refine zw_fact 2 rfl (fun G w h => zWL_fact h) (fun hwl => ?_)
  refine zw_fact 3 rfl (fun G w h => zTS_fact h) (fun hts => ?_)
  obtain ⟨hts1, hts2, hts3, hts4⟩ := hts
  have mX := capN_ge nb (ts.flatten.length + (xs).length)
  have mP := prX_len xs h1
  have mQ := capN_mono nb (show ts.flatten.length + xs.length ≤ ts.flatten.length + (xs).length by omega)
  have lp : ∀ (fuel : Nat) (kk : Nat) (q : Int) (hf : Int) (acc : List Int), (((p0 < q ∧ q ≤ t.length) ∧ (-1 ≤ hf ∧ hf ≤ 15) ∧ (acc.length : Int) ≤ q ∧ (t.length : Int) - q ≤ kk) ∧ prS t kk q hf acc = (xs, h1, wy, E)) → kk < fuel → zZ X zm_PW_cutDigitText ((capN nb (ts.flatten.length + (xs).length) - nb)) (2 * (capN nb (ts.flatten.length + (xs).length) - nb)) (capN nb (ts.flatten.length + acc.length) - nb) (2 * (capN nb (ts.flatten.length + acc.length) - nb)) [zObj h 0 [.ref ht, .ref hl, .ref hs, .ref ho, .ref hn, .int (zI (q)), .int (zI (w0)), .int (zI (r0))], zBRow ht (t) (nt), zWL hl (ws) (nw), zTS hs (ts) (acc) (capN nb (ts.flatten.length + acc.length)) (n)] 25 [(0, .ref h), (1, .int (zI (p0))), (2, .int (zI (((t.length : Nat) : Int)))), (3, .int (zI (hf)))] [] := by
    intro fuel
    induction fuel with
    | zero => intro kk q hf acc g0 hm; exact absurd hm (Nat.not_lt_zero _)
    | succ fuel ih =>
      intro kk q hf acc g0 hm
      obtain ⟨⟨i1, i2, i3, i4⟩, i5⟩ := g0
      have m1 := capN_ge nb (ts.flatten.length + acc.length)
      have m4 := capN_cov (n := nb) (by omega) (ts.flatten.length + acc.length)
      have cc : (ts.flatten ++ acc).length = ts.flatten.length + acc.length := List.length_append
      have m5 := prS_len (t := t) kk _ _ _ i5
      have m6 := capN_mono nb (show ts.flatten.length + acc.length ≤ ts.flatten.length + xs.length by omega)
      refine zw_aload_n 0 rfl zd_PW_cutDigitText_25 ?_
      refine zw_get zc_PW 0 5 rfl (by decide) zf_PW_46 rfl zd_PW_cutDigitText_26 ?_
      refine zw_iload_n 2 rfl zd_PW_cutDigitText_29 ?_
      refine zw_icmp_ge 142 (by omega) (by omega) zd_PW_cutDigitText_30 (by decide) (fun c30 => ?_) (fun c30 => ?_)
      · -- 30 -> 142
        have e0 : (acc, hf, (2 : Int), q) = (xs, h1, wy, E) := by
          rw [← i5]
          cases kk with
          | zero => rfl
          | succ k => show _ = if _ then _ else _; rw [if_pos (by omega)]
        obtain ⟨e1, e2⟩ := Prod.mk.inj e0
        obtain ⟨e2, e3⟩ := Prod.mk.inj e2
        obtain ⟨e3, e4⟩ := Prod.mk.inj e3
        exact absurd hy (by omega)
      · -- 30 -> 33
        refine zw_aload_n 0 rfl zd_PW_cutDigitText_33 ?_
        refine zw_get zc_PW 0 0 rfl (by decide) zf_PW_10 rfl zd_PW_cutDigitText_34 ?_
        refine zw_aload_n 0 rfl zd_PW_cutDigitText_37 ?_
        refine zw_get zc_PW 0 5 rfl (by decide) zf_PW_46 rfl zd_PW_cutDigitText_38 ?_
        refine zw_callV (As := [.int (zI (q))]) (rest := []) (L2 := [zObj h 0 [.ref ht, .ref hl, .ref hs, .ref ho, .ref hn, .int (zI (q)), .int (zI (w0)), .int (zI (r0))], zWL hl (ws) (nw), zTS hs (ts) (acc) (capN nb (ts.flatten.length + acc.length)) (n)]) (L' := [zBRow ht (t) (nt), zObj h 0 [.ref ht, .ref hl, .ref hs, .ref ho, .ref hn, .int (zI (q)), .int (zI (w0)), .int (zI (r0))], zWL hl (ws) (nw), zTS hs (ts) (acc) (capN nb (ts.flatten.length + acc.length)) (n)]) (stk' := [.int (zI (bget t q))]) (c_BR_get ht (t) (nt) (q) (by omega)) [1] [0, 2, 3] rfl rfl rfl zcal_BR_get zl_PW_106 zin_BR_get zse_BR_get 0 rfl zRv_BRow rfl (Nat.le_of_ble_eq_true rfl) (Nat.le_of_ble_eq_true rfl) (by omega) (by omega) rfl (Nat.le_of_ble_eq_true rfl) rfl rfl zd_PW_cutDigitText_41 ?_
        have rg41 := bget_rg hby (q)
        refine zw_bipush rfl zd_PW_cutDigitText_44 ?_
        refine zw_icmp_eq 142 (by omega) (by omega) zd_PW_cutDigitText_46 (by decide) (fun c46 => ?_) (fun c46 => ?_)
        · -- 46 -> 142
          obtain ⟨k, rfl⟩ : ∃ k, kk = k + 1 := ⟨kk - 1, by omega⟩
          have e0 : (acc, hf, (0 : Int), q) = (xs, h1, wy, E) := by rw [← i5]; show _ = if _ then _ else _; rw [if_neg (by omega), if_pos (by omega)]
          obtain ⟨e1, e2⟩ := Prod.mk.inj e0
          obtain ⟨e2, e3⟩ := Prod.mk.inj e2
          obtain ⟨e3, e4⟩ := Prod.mk.inj e3
          exact absurd hy (by omega)
        · -- 46 -> 49
          refine zw_aload_n 0 rfl zd_PW_cutDigitText_49 ?_
          refine zw_get zc_PW 1 0 rfl (by decide) zf_PW_10 rfl zd_PW_cutDigitText_50 ?_
          refine zw_aload_n 0 rfl zd_PW_cutDigitText_53 ?_
          refine zw_get zc_PW 1 5 rfl (by decide) zf_PW_46 rfl zd_PW_cutDigitText_54 ?_
          refine zw_callV (As := [.int (zI (q))]) (rest := []) (L2 := [zObj h 0 [.ref ht, .ref hl, .ref hs, .ref ho, .ref hn, .int (zI (q)), .int (zI (w0)), .int (zI (r0))], zWL hl (ws) (nw), zTS hs (ts) (acc) (capN nb (ts.flatten.length + acc.length)) (n)]) (L' := [zBRow ht (t) (nt), zObj h 0 [.ref ht, .ref hl, .ref hs, .ref ho, .ref hn, .int (zI (q)), .int (zI (w0)), .int (zI (r0))], zWL hl (ws) (nw), zTS hs (ts) (acc) (capN nb (ts.flatten.length + acc.length)) (n)]) (stk' := [.int (zI (bget t q))]) (c_BR_get ht (t) (nt) (q) (by omega)) [0] [1, 2, 3] rfl rfl rfl zcal_BR_get zl_PW_106 zin_BR_get zse_BR_get 0 rfl zRv_BRow rfl (Nat.le_of_ble_eq_true rfl) (Nat.le_of_ble_eq_true rfl) (by omega) (by omega) rfl (Nat.le_of_ble_eq_true rfl) rfl rfl zd_PW_cutDigitText_57 ?_
          have rg57 := bget_rg hby (q)
          refine zw_istore (lv' := [(4, .int (zI (bget t q))), (0, .ref h), (1, .int (zI (p0))), (2, .int (zI (((t.length : Nat) : Int)))), (3, .int (zI (hf)))]) (Nat.le_of_ble_eq_true rfl) rfl zd_PW_cutDigitText_60 ?_
          have dr := digV_rg (bget t q)
          obtain ⟨k, rfl⟩ : ∃ k, kk = k + 1 := ⟨kk - 1, by omega⟩
          refine zw_iload 0 rfl zd_PW_cutDigitText_62 ?_
          refine zw_callS (a := 0) (As := [.int (zI (bget t q))]) (rest := []) (L2 := [zBRow ht (t) (nt), zObj h 0 [.ref ht, .ref hl, .ref hs, .ref ho, .ref hn, .int (zI (q)), .int (zI (w0)), .int (zI (r0))], zWL hl (ws) (nw), zTS hs (ts) (acc) (capN nb (ts.flatten.length + acc.length)) (n)]) (L' := [zBRow ht (t) (nt), zObj h 0 [.ref ht, .ref hl, .ref hs, .ref ho, .ref hn, .int (zI (q)), .int (zI (w0)), .int (zI (r0))], zWL hl (ws) (nw), zTS hs (ts) (acc) (capN nb (ts.flatten.length + acc.length)) (n)]) (stk' := [.int (zI (digV (bget t q)))]) (c_PW_digitValue (bget t q) (by omega)) [] [0, 1, 2, 3] rfl rfl rfl zcal_PW_digitValue zl_PW_174 zst_PW_digitValue (Nat.le_of_ble_eq_true rfl) (Nat.le_of_ble_eq_true rfl) (by omega) (by omega) rfl (Nat.le_of_ble_eq_true rfl) rfl rfl zd_PW_cutDigitText_64 ?_
          refine zw_istore (lv' := [(5, .int (zI (digV (bget t q)))), (4, .int (zI (bget t q))), (0, .ref h), (1, .int (zI (p0))), (2, .int (zI (((t.length : Nat) : Int)))), (3, .int (zI (hf)))]) (Nat.le_of_ble_eq_true rfl) rfl zd_PW_cutDigitText_67 ?_
          refine zw_iload 1 rfl zd_PW_cutDigitText_69 ?_
          refine zw_callS (a := 0) (As := [.int (zI (bget t q))]) (rest := []) (L2 := [zBRow ht (t) (nt), zObj h 0 [.ref ht, .ref hl, .ref hs, .ref ho, .ref hn, .int (zI (q)), .int (zI (w0)), .int (zI (r0))], zWL hl (ws) (nw), zTS hs (ts) (acc) (capN nb (ts.flatten.length + acc.length)) (n)]) (L' := [zBRow ht (t) (nt), zObj h 0 [.ref ht, .ref hl, .ref hs, .ref ho, .ref hn, .int (zI (q)), .int (zI (w0)), .int (zI (r0))], zWL hl (ws) (nw), zTS hs (ts) (acc) (capN nb (ts.flatten.length + acc.length)) (n)]) (stk' := [.int (zI (bI (sBlank (bget t q))))]) (c_PW_isBlank (bget t q) (by omega)) [] [0, 1, 2, 3] rfl rfl rfl zcal_PW_isBlank zl_PW_109 zst_PW_isBlank (Nat.le_of_ble_eq_true rfl) (Nat.le_of_ble_eq_true rfl) (by omega) (by omega) rfl (Nat.le_of_ble_eq_true rfl) rfl rfl zd_PW_cutDigitText_71 ?_
          have rb71 := bI_rg (sBlank (bget t q))
          refine zw_if_eq 80 (by omega) zd_PW_cutDigitText_74 (by decide) (fun c74 => ?_) (fun c74 => ?_)
          · -- 74 -> 80
            refine zw_iload 0 rfl zd_PW_cutDigitText_80 ?_
            refine zw_if_lt 92 (by omega) zd_PW_cutDigitText_82 (by decide) (fun c82 => ?_) (fun c82 => ?_)
            · -- 82 -> 92
              have hbl : ¬ sBlank (bget t q) = true := by rw [zbI0 (b := sBlank (bget t q)) (by omega)]; decide
              have e0 : (acc, hf, (3 : Int), q) = (xs, h1, wy, E) := by rw [← i5]; show _ = if _ then _ else _; rw [if_neg (by omega), if_neg (by omega), if_neg hbl, if_pos (by omega)]
              obtain ⟨e1, e2⟩ := Prod.mk.inj e0
              obtain ⟨e2, e3⟩ := Prod.mk.inj e2
              obtain ⟨e3, e4⟩ := Prod.mk.inj e3
              refine zw_aload_n 2 rfl zd_PW_cutDigitText_92 ?_
              refine zw_iconst zd_PW_cutDigitText_93 ?_
              refine zw_aload_n 2 rfl zd_PW_cutDigitText_94 ?_
              refine zw_get zc_PW 1 5 rfl (by decide) zf_PW_46 rfl zd_PW_cutDigitText_95 ?_
              refine zw_callV (As := [.int (zI (3)), .int (zI (q))]) (rest := []) (L2 := [zBRow ht (t) (nt), zWL hl (ws) (nw), zTS hs (ts) (acc) (capN nb (ts.flatten.length + acc.length)) (n)]) (L' := [zObj h 0 [.ref ht, .ref hl, .ref hs, .ref ho, .ref hn, .int (zI (q)), .int (zI (3)), .int (zI (q))], zBRow ht (t) (nt), zWL hl (ws) (nw), zTS hs (ts) (acc) (capN nb (ts.flatten.length + acc.length)) (n)]) (stk' := []) (c_PW_goWrong h ht hl hs ho hn q w0 r0 3 q) [1] [0, 2, 3] rfl rfl rfl zcal_PW_goWrong zl_PW_75 zin_PW_goWrong zse_PW_goWrong 0 rfl zRv_obj rfl (Nat.le_of_ble_eq_true rfl) (Nat.le_of_ble_eq_true rfl) (by omega) (by omega) rfl (Nat.le_of_ble_eq_true rfl) rfl rfl zd_PW_cutDigitText_98 ?_
              exact zw_vret hR rfl (by rw [← e1, ← e4]) rfl (by omega) (by omega) zd_PW_cutDigitText_101
            · -- 82 -> 85
              refine zw_iload 0 rfl zd_PW_cutDigitText_85 ?_
              refine zw_bipush rfl zd_PW_cutDigitText_87 ?_
              refine zw_icmp_le 102 (by omega) (by omega) zd_PW_cutDigitText_89 (by decide) (fun c89 => ?_) (fun c89 => ?_)
              · -- 89 -> 102
                refine zw_iload_n 5 rfl zd_PW_cutDigitText_102 ?_
                refine zw_iconst zd_PW_cutDigitText_103 ?_
                refine zw_icmp_ne 113 (by omega) (by omega) zd_PW_cutDigitText_104 (by decide) (fun c104 => ?_) (fun c104 => ?_)
                · -- 104 -> 113
                  have hbl : ¬ sBlank (bget t q) = true := by rw [zbI0 (b := sBlank (bget t q)) (by omega)]; decide
                  have e7 : prS t k (q + 1) (-1) (acc ++ [16 * hf + digV (bget t q)]) = (xs, h1, wy, E) := by
                    rw [← i5]
                    show _ = if _ then _ else _
                    rw [if_neg (by omega), if_neg (by omega), if_neg hbl, if_neg (by omega), if_neg (by omega)]
                  have m8 := prS_len (t := t) k _ _ _ e7
                  rw [List.length_append, List.length_singleton] at m8
                  have m9 := capN_mono nb (show ts.flatten.length + acc.length + 1 ≤ ts.flatten.length + xs.length by omega)
                  have e6 := capN_next (n := nb) (by omega) (ts.flatten.length + acc.length)
                  have m7 := capN_ge (capN nb (ts.flatten.length + acc.length)) (ts.flatten.length + acc.length + 1)
                  refine zw_aload_n 2 rfl zd_PW_cutDigitText_113 ?_
                  refine zw_get zc_PW 1 2 rfl (by decide) zf_PW_26 rfl zd_PW_cutDigitText_114 ?_
                  refine zw_bipush rfl zd_PW_cutDigitText_117 ?_
                  refine zw_iload_n 5 rfl zd_PW_cutDigitText_119 ?_
                  refine zw_imul zd_PW_cutDigitText_120 ?_
                  refine zw_iload 0 rfl zd_PW_cutDigitText_121 ?_
                  refine zw_iadd zd_PW_cutDigitText_123 ?_
                  refine zw_callV (As := [.int (zI ((16 * hf) + (digV (bget t q))))]) (rest := []) (L2 := [zBRow ht (t) (nt), zObj h 0 [.ref ht, .ref hl, .ref hs, .ref ho, .ref hn, .int (zI (q)), .int (zI (w0)), .int (zI (r0))], zWL hl (ws) (nw)]) (L' := [zTS hs (ts) (acc ++ [((16 * hf) + (digV (bget t q))) % 256]) (capN (capN nb (ts.flatten.length + acc.length)) (ts.flatten.length + acc.length + 1)) (n), zBRow ht (t) (nt), zObj h 0 [.ref ht, .ref hl, .ref hs, .ref ho, .ref hn, .int (zI (q)), .int (zI (w0)), .int (zI (r0))], zWL hl (ws) (nw)]) (stk' := []) (c_TS_putC hs (ts) (acc) (capN nb (ts.flatten.length + acc.length)) (n) ((16 * hf) + (digV (bget t q))) (ts.flatten.length + acc.length) (cc) (by omega) (by omega)) [3] [0, 1, 2] rfl rfl rfl zcal_TS_put zl_PW_160 zin_TS_put zse_TS_put 0 rfl zRv_TS rfl (Nat.le_of_ble_eq_true rfl) (Nat.le_of_ble_eq_true rfl) (by omega) (by omega) rfl (Nat.le_of_ble_eq_true rfl) rfl rfl zd_PW_cutDigitText_124 ?_
                  refine zw_iconst zd_PW_cutDigitText_127 ?_
                  refine zw_istore_n (lv' := [(3, .int (zI (-1))), (5, .int (zI (digV (bget t q)))), (4, .int (zI (bget t q))), (0, .ref h), (1, .int (zI (p0))), (2, .int (zI (((t.length : Nat) : Int))))]) (Nat.le_of_ble_eq_true rfl) rfl zd_PW_cutDigitText_128 ?_
                  refine zw_aload_n 3 rfl zd_PW_cutDigitText_129 ?_
                  refine zw_dup rfl zd_PW_cutDigitText_130 ?_
                  refine zw_get zc_PW 2 5 rfl (by decide) zf_PW_46 rfl zd_PW_cutDigitText_131 ?_
                  refine zw_iconst zd_PW_cutDigitText_134 ?_
                  refine zw_iadd zd_PW_cutDigitText_135 ?_
                  refine zw_put (L' := [zTS hs (ts) (acc ++ [((16 * hf) + (digV (bget t q))) % 256]) (capN (capN nb (ts.flatten.length + acc.length)) (ts.flatten.length + acc.length + 1)) (n), zBRow ht (t) (nt), zObj h 0 [.ref ht, .ref hl, .ref hs, .ref ho, .ref hn, .int (zI (q + 1)), .int (zI (w0)), .int (zI (r0))], zWL hl (ws) (nw)]) zc_PW 2 5 rfl (by decide) zf_PW_46 rfl rfl rfl (Nat.le_of_ble_eq_true rfl) rfl zd_PW_cutDigitText_136 ?_
                  refine zw_goto 25 zd_PW_cutDigitText_139 (by decide) ?_
                  refine zw_sub (L' := [zObj h 0 [.ref ht, .ref hl, .ref hs, .ref ho, .ref hn, .int (zI (q + 1)), .int (zI (w0)), .int (zI (r0))], zBRow ht (t) (nt), zWL hl (ws) (nw), zTS hs (ts) (acc ++ [((16 * hf) + (digV (bget t q))) % 256]) (capN (capN nb (ts.flatten.length + acc.length)) (ts.flatten.length + acc.length + 1)) (n)]) [2, 1, 3, 0] rfl rfl ?_
                  refine zw_lpick (lv' := [(0, .ref h), (1, .int (zI (p0))), (2, .int (zI (((t.length : Nat) : Int)))), (3, .int (zI (-1)))]) [3, 4, 5, 0] rfl ?_
                  refine zw_eqL (L' := [zObj h 0 [.ref ht, .ref hl, .ref hs, .ref ho, .ref hn, .int (zI (q + 1)), .int (zI (w0)), .int (zI (r0))], zBRow ht (t) (nt), zWL hl (ws) (nw), zTS hs (ts) (acc ++ [16 * hf + digV (bget t q)]) (capN nb (ts.flatten.length + (acc ++ [16 * hf + digV (bget t q)]).length)) (n)]) (by rw [e6, Int.emod_eq_of_lt (by omega) (by omega), List.length_append, List.length_singleton, Nat.add_assoc]) ?_
                  refine zw_widen (k' := capN nb (ts.flatten.length + (acc ++ [16 * hf + digV (bget t q)]).length) - nb) (n' := 2 * (capN nb (ts.flatten.length + (acc ++ [16 * hf + digV (bget t q)]).length) - nb)) (by rw [List.length_append, List.length_singleton, ← Nat.add_assoc]; omega) (by rw [List.length_append, List.length_singleton, ← Nat.add_assoc]; omega) ?_
                  exact ih k (q + 1) (-1) _ ⟨⟨by omega, by omega, by rw [List.length_append, List.length_singleton]; omega, by omega⟩, e7⟩ (by omega)
                · -- 104 -> 107
                  have hbl : ¬ sBlank (bget t q) = true := by rw [zbI0 (b := sBlank (bget t q)) (by omega)]; decide
                  have e7 : prS t k (q + 1) (digV (bget t q)) (acc) = (xs, h1, wy, E) := by
                    rw [← i5]
                    show _ = if _ then _ else _
                    rw [if_neg (by omega), if_neg (by omega), if_neg hbl, if_neg (by omega), if_pos (by omega)]
                  have m8 := prS_len (t := t) k _ _ _ e7
                  refine zw_iload 0 rfl zd_PW_cutDigitText_107 ?_
                  refine zw_istore_n (lv' := [(3, .int (zI (digV (bget t q)))), (5, .int (zI (digV (bget t q)))), (4, .int (zI (bget t q))), (0, .ref h), (1, .int (zI (p0))), (2, .int (zI (((t.length : Nat) : Int))))]) (Nat.le_of_ble_eq_true rfl) rfl zd_PW_cutDigitText_109 ?_
                  refine zw_goto 129 zd_PW_cutDigitText_110 (by decide) ?_
                  refine zw_aload_n 3 rfl zd_PW_cutDigitText_129 ?_
                  refine zw_dup rfl zd_PW_cutDigitText_130 ?_
                  refine zw_get zc_PW 1 5 rfl (by decide) zf_PW_46 rfl zd_PW_cutDigitText_131 ?_
                  refine zw_iconst zd_PW_cutDigitText_134 ?_
                  refine zw_iadd zd_PW_cutDigitText_135 ?_
                  refine zw_put (L' := [zBRow ht (t) (nt), zObj h 0 [.ref ht, .ref hl, .ref hs, .ref ho, .ref hn, .int (zI (q + 1)), .int (zI (w0)), .int (zI (r0))], zWL hl (ws) (nw), zTS hs (ts) (acc) (capN nb (ts.flatten.length + acc.length)) (n)]) zc_PW 1 5 rfl (by decide) zf_PW_46 rfl rfl rfl (Nat.le_of_ble_eq_true rfl) rfl zd_PW_cutDigitText_136 ?_
                  refine zw_goto 25 zd_PW_cutDigitText_139 (by decide) ?_
                  refine zw_sub (L' := [zObj h 0 [.ref ht, .ref hl, .ref hs, .ref ho, .ref hn, .int (zI (q + 1)), .int (zI (w0)), .int (zI (r0))], zBRow ht (t) (nt), zWL hl (ws) (nw), zTS hs (ts) (acc) (capN nb (ts.flatten.length + acc.length)) (n)]) [1, 0, 2, 3] rfl rfl ?_
                  refine zw_lpick (lv' := [(0, .ref h), (1, .int (zI (p0))), (2, .int (zI (((t.length : Nat) : Int)))), (3, .int (zI (digV (bget t q))))]) [3, 4, 5, 0] rfl ?_
                  refine zw_widen (k' := capN nb (ts.flatten.length + acc.length) - nb) (n' := 2 * (capN nb (ts.flatten.length + acc.length) - nb)) (by omega) (by omega) ?_
                  exact ih k (q + 1) (digV (bget t q)) _ ⟨⟨by omega, by omega, by omega, by omega⟩, e7⟩ (by omega)
              · -- 89 -> 92
                have hbl : ¬ sBlank (bget t q) = true := by rw [zbI0 (b := sBlank (bget t q)) (by omega)]; decide
                have e0 : (acc, hf, (3 : Int), q) = (xs, h1, wy, E) := by rw [← i5]; show _ = if _ then _ else _; rw [if_neg (by omega), if_neg (by omega), if_neg hbl, if_pos (by omega)]
                obtain ⟨e1, e2⟩ := Prod.mk.inj e0
                obtain ⟨e2, e3⟩ := Prod.mk.inj e2
                obtain ⟨e3, e4⟩ := Prod.mk.inj e3
                refine zw_aload_n 2 rfl zd_PW_cutDigitText_92 ?_
                refine zw_iconst zd_PW_cutDigitText_93 ?_
                refine zw_aload_n 2 rfl zd_PW_cutDigitText_94 ?_
                refine zw_get zc_PW 1 5 rfl (by decide) zf_PW_46 rfl zd_PW_cutDigitText_95 ?_
                refine zw_callV (As := [.int (zI (3)), .int (zI (q))]) (rest := []) (L2 := [zBRow ht (t) (nt), zWL hl (ws) (nw), zTS hs (ts) (acc) (capN nb (ts.flatten.length + acc.length)) (n)]) (L' := [zObj h 0 [.ref ht, .ref hl, .ref hs, .ref ho, .ref hn, .int (zI (q)), .int (zI (3)), .int (zI (q))], zBRow ht (t) (nt), zWL hl (ws) (nw), zTS hs (ts) (acc) (capN nb (ts.flatten.length + acc.length)) (n)]) (stk' := []) (c_PW_goWrong h ht hl hs ho hn q w0 r0 3 q) [1] [0, 2, 3] rfl rfl rfl zcal_PW_goWrong zl_PW_75 zin_PW_goWrong zse_PW_goWrong 0 rfl zRv_obj rfl (Nat.le_of_ble_eq_true rfl) (Nat.le_of_ble_eq_true rfl) (by omega) (by omega) rfl (Nat.le_of_ble_eq_true rfl) rfl rfl zd_PW_cutDigitText_98 ?_
                exact zw_vret hR rfl (by rw [← e1, ← e4]) rfl (by omega) (by omega) zd_PW_cutDigitText_101
          · -- 74 -> 77
            have hbl : sBlank (bget t q) = true := zbI1 (by omega)
            have e7 : prS t k (q + 1) (hf) (acc) = (xs, h1, wy, E) := by
              rw [← i5]
              show _ = if _ then _ else _
              rw [if_neg (by omega), if_neg (by omega), if_pos hbl]
            have m8 := prS_len (t := t) k _ _ _ e7
            refine zw_goto 129 zd_PW_cutDigitText_77 (by decide) ?_
            refine zw_aload_n 2 rfl zd_PW_cutDigitText_129 ?_
            refine zw_dup rfl zd_PW_cutDigitText_130 ?_
            refine zw_get zc_PW 1 5 rfl (by decide) zf_PW_46 rfl zd_PW_cutDigitText_131 ?_
            refine zw_iconst zd_PW_cutDigitText_134 ?_
            refine zw_iadd zd_PW_cutDigitText_135 ?_
            refine zw_put (L' := [zBRow ht (t) (nt), zObj h 0 [.ref ht, .ref hl, .ref hs, .ref ho, .ref hn, .int (zI (q + 1)), .int (zI (w0)), .int (zI (r0))], zWL hl (ws) (nw), zTS hs (ts) (acc) (capN nb (ts.flatten.length + acc.length)) (n)]) zc_PW 1 5 rfl (by decide) zf_PW_46 rfl rfl rfl (Nat.le_of_ble_eq_true rfl) rfl zd_PW_cutDigitText_136 ?_
            refine zw_goto 25 zd_PW_cutDigitText_139 (by decide) ?_
            refine zw_sub (L' := [zObj h 0 [.ref ht, .ref hl, .ref hs, .ref ho, .ref hn, .int (zI (q + 1)), .int (zI (w0)), .int (zI (r0))], zBRow ht (t) (nt), zWL hl (ws) (nw), zTS hs (ts) (acc) (capN nb (ts.flatten.length + acc.length)) (n)]) [1, 0, 2, 3] rfl rfl ?_
            refine zw_lpick (lv' := [(0, .ref h), (1, .int (zI (p0))), (2, .int (zI (((t.length : Nat) : Int)))), (3, .int (zI (hf)))]) [2, 3, 4, 5] rfl ?_
            refine zw_widen (k' := capN nb (ts.flatten.length + acc.length) - nb) (n' := 2 * (capN nb (ts.flatten.length + acc.length) - nb)) (by omega) (by omega) ?_
            exact ih k (q + 1) (hf) _ ⟨⟨by omega, by omega, by omega, by omega⟩, e7⟩ (by omega)
  refine zw_aload_n 0 rfl zd_PW_cutDigitText_0 ?_
  refine zw_get zc_PW 0 5 rfl (by decide) zf_PW_46 rfl zd_PW_cutDigitText_1 ?_
  refine zw_istore_n (lv' := [(1, .int (zI (p0))), (0, .ref h)]) (Nat.le_of_ble_eq_true rfl) rfl zd_PW_cutDigitText_4 ?_
  refine zw_aload_n 1 rfl zd_PW_cutDigitText_5 ?_
  refine zw_get zc_PW 0 0 rfl (by decide) zf_PW_10 rfl zd_PW_cutDigitText_6 ?_
  refine zw_callV (As := []) (rest := []) (L2 := [zObj h 0 [.ref ht, .ref hl, .ref hs, .ref ho, .ref hn, .int (zI (p0)), .int (zI (w0)), .int (zI (r0))], zWL hl (ws) (nw), zTS hs (ts) ([]) (nb) (n)]) (L' := [zBRow ht (t) (nt), zObj h 0 [.ref ht, .ref hl, .ref hs, .ref ho, .ref hn, .int (zI (p0)), .int (zI (w0)), .int (zI (r0))], zWL hl (ws) (nw), zTS hs (ts) ([]) (nb) (n)]) (stk' := [.int (zI ((((t).length : Nat) : Int)))]) (c_BR_count ht (t) (nt) ((t).length) (rfl)) [1] [0, 2, 3] rfl rfl rfl zcal_BR_count zl_PW_56 zin_BR_count zse_BR_count 0 rfl zRv_BRow rfl (Nat.le_of_ble_eq_true rfl) (Nat.le_of_ble_eq_true rfl) (by omega) (by omega) rfl (Nat.le_of_ble_eq_true rfl) rfl rfl zd_PW_cutDigitText_9 ?_
  refine zw_istore_n (lv' := [(2, .int (zI ((((t).length : Nat) : Int)))), (1, .int (zI (p0))), (0, .ref h)]) (Nat.le_of_ble_eq_true rfl) rfl zd_PW_cutDigitText_12 ?_
  refine zw_iconst zd_PW_cutDigitText_13 ?_
  refine zw_istore_n (lv' := [(3, .int (zI (-1))), (2, .int (zI ((((t).length : Nat) : Int)))), (1, .int (zI (p0))), (0, .ref h)]) (Nat.le_of_ble_eq_true rfl) rfl zd_PW_cutDigitText_14 ?_
  refine zw_aload_n 3 rfl zd_PW_cutDigitText_15 ?_
  refine zw_dup rfl zd_PW_cutDigitText_16 ?_
  refine zw_get zc_PW 1 5 rfl (by decide) zf_PW_46 rfl zd_PW_cutDigitText_17 ?_
  refine zw_iconst zd_PW_cutDigitText_20 ?_
  refine zw_iadd zd_PW_cutDigitText_21 ?_
  refine zw_put (L' := [zBRow ht (t) (nt), zObj h 0 [.ref ht, .ref hl, .ref hs, .ref ho, .ref hn, .int (zI (p0 + 1)), .int (zI (w0)), .int (zI (r0))], zWL hl (ws) (nw), zTS hs (ts) ([]) (nb) (n)]) zc_PW 1 5 rfl (by decide) zf_PW_46 rfl rfl rfl (Nat.le_of_ble_eq_true rfl) rfl zd_PW_cutDigitText_22 ?_
  refine zw_sub (L' := [zObj h 0 [.ref ht, .ref hl, .ref hs, .ref ho, .ref hn, .int (zI (p0 + 1)), .int (zI (w0)), .int (zI (r0))], zBRow ht (t) (nt), zWL hl (ws) (nw), zTS hs (ts) ([]) (nb) (n)]) [1, 0, 2, 3] rfl rfl ?_
  refine zw_lpick (lv' := [(0, .ref h), (1, .int (zI (p0))), (2, .int (zI ((((t).length : Nat) : Int)))), (3, .int (zI (-1)))]) [3, 2, 1, 0] rfl ?_
  have c0 : capN nb (ts.flatten.length + ([] : List Int).length) = nb := capN_id (by have := hts2.1; rw [List.append_nil] at this; simpa using this)
  refine zw_eqL (L' := [zObj h 0 [.ref ht, .ref hl, .ref hs, .ref ho, .ref hn, .int (zI (p0 + 1)), .int (zI (w0)), .int (zI (r0))], zBRow ht (t) (nt), zWL hl (ws) (nw), zTS hs (ts) (([] : List Int)) (capN nb (ts.flatten.length + ([] : List Int).length)) (n)]) (by rw [c0]) ?_
  refine zw_widen (k' := capN nb (ts.flatten.length + ([] : List Int).length) - nb) (n' := 2 * (capN nb (ts.flatten.length + ([] : List Int).length) - nb)) (by omega) (by omega) ?_
  exact lp _ t.length (p0 + 1) (-1) [] ⟨⟨by omega, by omega, by simp; omega, by omega⟩, hpr⟩ (Nat.lt_succ_self _)
