theorem capN_next {n : Nat} (h0 : 0 < n) (c : Nat) : capN (capN n c) (c + 1) = capN n (c + 1) := by rw [capN_capN h0, Nat.max_eq_right (Nat.le_succ c)]
theorem bget_byte {l : List Int} (h : ∀ b ∈ l, 0 ≤ b ∧ b ≤ 255) {z : Int} (hz : 0 ≤ z ∧ z < l.length) : 0 ≤ bget l z ∧ bget l z ≤ 255 := by
  rw [bget, if_pos hz]
  exact h _ (zmem_getD (by omega))
set_option maxHeartbeats 4000000 in
set_option maxRecDepth 100000 in
theorem c_PW_addName (h ht hl hs ho hn : Nat) (t : List Int) (nt : Nat) (p0 w0 r0 : Int) (ws : List (Int32 × Int32 × Int32)) (nw : Nat) (ts : List (List Int)) (nb n : Nat) (kd bg fr en : Int) (hf : 0 ≤ fr ∧ fr ≤ en ∧ en ≤ t.length) (hw : ws.length < 16384) (hs1 : ts.length < 16384) (hF : (ts.flatten.length : Int) + (en - fr) ≤ 60000) : zCT zy_PW_addName zm_PW_addName ((capN nb (ts.flatten.length + (en - fr).toNat) - nb) + 4 * (capN n (addT ts (slc t fr en)).length - n) + 3 * (capN nw (ws.length + 1) - nw)) (2 * (capN nb (ts.flatten.length + (en - fr).toNat) - nb) + 8 * (capN n (addT ts (slc t fr en)).length - n) + 6 * (capN nw (ws.length + 1) - nw)) [.ref h, .int (zI kd), .int (zI bg), .int (zI fr), .int (zI en)] [zObj h 0 [.ref ht, .ref hl, .ref hs, .ref ho, .ref hn, .int (zI (p0)), .int (zI (w0)), .int (zI (r0))], zBRow ht (t) (nt), zWL hl (ws) (nw), zTS hs (ts) ([]) (nb) (n)] (none) [zObj h 0 [.ref ht, .ref hl, .ref hs, .ref ho, .ref hn, .int (zI (en)), .int (zI (w0)), .int (zI (r0))], zBRow ht (t) (nt), zWL hl (ws ++ [(zI (kd), zI ((ixOf ts (slc t fr en) : Nat) : Int), zI (bg))]) (capN nw (ws.length + 1)), zTS hs (addT ts (slc t fr en)) ([]) (capN nb (ts.flatten.length + (en - fr).toNat)) (capN n (addT ts (slc t fr en)).length)] := by
  refine zCT.of [(0, .ref h), (1, .int (zI (kd))), (2, .int (zI (bg))), (3, .int (zI (fr))), (4, .int (zI (en)))] rfl (by decide) rfl (fun h => by first | rfl | cases h) (Nat.le_of_ble_eq_true rfl) (fun X hR => ?_)
  refine zw_fact 1 rfl (fun G w h => zBR_fact h) (fun hbr => ?_)
  obtain ⟨⟨ht1, ht2, ht3⟩, hby⟩ := hbr
  refine zw_fact 2 rfl (fun G w h => zWL_fact h) (fun hwl => ?_)
  refine zw_fact 3 rfl (fun G w h => zTS_fact h) (fun hts => ?_)
  obtain ⟨hts1, hts2, hts3, hts4⟩ := hts
  have mE := capN_ge nb (ts.flatten.length + (en - fr).toNat)
  have mW := capN_ge nw (ws.length + 1)
  have mN := capN_ge n (addT ts (slc t fr en)).length
  have lp : ∀ (fuel : Nat) (p : Int), (fr ≤ p ∧ p ≤ en) → (en - p).toNat < fuel → zZ X zm_PW_addName ((capN nb (ts.flatten.length + (en - fr).toNat) - nb) + 4 * (capN n (addT ts (slc t fr en)).length - n) + 3 * (capN nw (ws.length + 1) - nw)) (2 * (capN nb (ts.flatten.length + (en - fr).toNat) - nb) + 8 * (capN n (addT ts (slc t fr en)).length - n) + 6 * (capN nw (ws.length + 1) - nw)) (capN nb (ts.flatten.length + (p - fr).toNat) - nb) (2 * (capN nb (ts.flatten.length + (p - fr).toNat) - nb)) [zObj h 0 [.ref ht, .ref hl, .ref hs, .ref ho, .ref hn, .int (zI (p0)), .int (zI (w0)), .int (zI (r0))], zBRow ht (t) (nt), zWL hl (ws) (nw), zTS hs (ts) (slc t fr p) (capN nb (ts.flatten.length + (p - fr).toNat)) (n)] 3 [(0, .ref h), (1, .int (zI (kd))), (2, .int (zI (bg))), (3, .int (zI (fr))), (4, .int (zI (en))), (5, .int (zI (p)))] [] := by
    intro fuel
    induction fuel with
    | zero => intro p g0 hm; exact absurd hm (Nat.not_lt_zero _)
    | succ fuel ih =>
      intro p g0 hm
      have sl := slc_len (t := t) (a := fr) (b := p) (by omega) (by omega) (by omega)
      have cc : (ts.flatten ++ slc t fr p).length = ts.flatten.length + (p - fr).toNat := by rw [List.length_append]; omega
      have m1 := capN_ge nb (ts.flatten.length + (p - fr).toNat)
      have m2 := capN_mono nb (show ts.flatten.length + (p - fr).toNat ≤ ts.flatten.length + (en - fr).toNat by omega)
      have m4 := capN_cov (n := nb) (by omega) (ts.flatten.length + (p - fr).toNat)
      refine zw_iload 5 rfl zd_PW_addName_3 ?_
      refine zw_iload 4 rfl zd_PW_addName_5 ?_
      refine zw_icmp_ge 32 (by omega) (by omega) zd_PW_addName_7 (by decide) (fun c7 => ?_) (fun c7 => ?_)
      · -- 7 -> 32
        have ep : p = en := by omega
        subst ep
        have nn := capN_ge n (addT ts (slc t fr p)).length
        refine zw_aload_n 0 rfl zd_PW_addName_32 ?_
        refine zw_get zc_PW 0 1 rfl (by decide) zf_PW_19 rfl zd_PW_addName_33 ?_
        refine zw_iload_n 1 rfl zd_PW_addName_36 ?_
        refine zw_aload_n 0 rfl zd_PW_addName_37 ?_
        refine zw_get zc_PW 0 2 rfl (by decide) zf_PW_26 rfl zd_PW_addName_38 ?_
        refine zw_callV (As := []) (rest := [.int (zI (kd)), .ref hl]) (L2 := [zObj h 0 [.ref ht, .ref hl, .ref hs, .ref ho, .ref hn, .int (zI (p0)), .int (zI (w0)), .int (zI (r0))], zBRow ht (t) (nt), zWL hl (ws) (nw)]) (L' := [zTS hs (addT ts (slc t fr p)) ([]) (capN nb (ts.flatten.length + (p - fr).toNat)) (capN n (addT ts (slc t fr p)).length), zObj h 0 [.ref ht, .ref hl, .ref hs, .ref ho, .ref hn, .int (zI (p0)), .int (zI (w0)), .int (zI (r0))], zBRow ht (t) (nt), zWL hl (ws) (nw)]) (stk' := [.int (zI (((ixOf ts (slc t fr p) : Nat) : Int))), .int (zI (kd)), .ref hl]) (c_TS_keepC hs (ts) (slc t fr p) (capN nb (ts.flatten.length + (p - fr).toNat)) (n) (by omega) (by omega)) [3] [0, 1, 2] rfl rfl rfl zcal_TS_keep zl_PW_163 zin_TS_keep zse_TS_keep 0 rfl zRv_TS rfl (Nat.le_of_ble_eq_true rfl) (Nat.le_of_ble_eq_true rfl) (by omega) (by omega) rfl (Nat.le_of_ble_eq_true rfl) rfl rfl zd_PW_addName_41 ?_
        refine zw_iload_n 2 rfl zd_PW_addName_44 ?_
        refine zw_callV (As := [.int (zI (kd)), .int (zI (((ixOf ts (slc t fr p) : Nat) : Int))), .int (zI (bg))]) (rest := []) (L2 := [zTS hs (addT ts (slc t fr p)) ([]) (capN nb (ts.flatten.length + (p - fr).toNat)) (capN n (addT ts (slc t fr p)).length), zObj h 0 [.ref ht, .ref hl, .ref hs, .ref ho, .ref hn, .int (zI (p0)), .int (zI (w0)), .int (zI (r0))], zBRow ht (t) (nt)]) (L' := [zWL hl (ws ++ [((zI (kd)), (zI (((ixOf ts (slc t fr p) : Nat) : Int))), (zI (bg)))]) (capN (nw) ((ws).length + 1)), zTS hs (addT ts (slc t fr p)) ([]) (capN nb (ts.flatten.length + (p - fr).toNat)) (capN n (addT ts (slc t fr p)).length), zObj h 0 [.ref ht, .ref hl, .ref hs, .ref ho, .ref hn, .int (zI (p0)), .int (zI (w0)), .int (zI (r0))], zBRow ht (t) (nt)]) (stk' := []) (c_WL_addC hl (ws) (nw) (zI (kd)) (zI (((ixOf ts (slc t fr p) : Nat) : Int))) (zI (bg)) (by omega) (by omega)) [3] [0, 1, 2] rfl rfl rfl zcal_WL_add zl_PW_154 zin_WL_add zse_WL_add 0 rfl zRv_WL rfl (Nat.le_of_ble_eq_true rfl) (Nat.le_of_ble_eq_true rfl) (by omega) (by omega) rfl (Nat.le_of_ble_eq_true rfl) rfl rfl zd_PW_addName_45 ?_
        refine zw_aload_n 0 rfl zd_PW_addName_48 ?_
        refine zw_iload 4 rfl zd_PW_addName_49 ?_
        refine zw_put (L' := [zWL hl (ws ++ [((zI (kd)), (zI (((ixOf ts (slc t fr p) : Nat) : Int))), (zI (bg)))]) (capN (nw) ((ws).length + 1)), zTS hs (addT ts (slc t fr p)) ([]) (capN nb (ts.flatten.length + (p - fr).toNat)) (capN n (addT ts (slc t fr p)).length), zObj h 0 [.ref ht, .ref hl, .ref hs, .ref ho, .ref hn, .int (zI (p)), .int (zI (w0)), .int (zI (r0))], zBRow ht (t) (nt)]) zc_PW 2 5 rfl (by decide) zf_PW_46 rfl rfl rfl (Nat.le_of_ble_eq_true rfl) rfl zd_PW_addName_51 ?_
        refine zw_sub (L' := [zObj h 0 [.ref ht, .ref hl, .ref hs, .ref ho, .ref hn, .int (zI (p)), .int (zI (w0)), .int (zI (r0))], zBRow ht (t) (nt), zWL hl (ws ++ [((zI (kd)), (zI (((ixOf ts (slc t fr p) : Nat) : Int))), (zI (bg)))]) (capN (nw) ((ws).length + 1)), zTS hs (addT ts (slc t fr p)) ([]) (capN nb (ts.flatten.length + (p - fr).toNat)) (capN n (addT ts (slc t fr p)).length)]) [2, 3, 0, 1] rfl rfl ?_
        exact zw_vret hR rfl rfl rfl (by omega) (by omega) zd_PW_addName_54
      · -- 7 -> 10
        have m3 := capN_mono nb (show ts.flatten.length + (p - fr).toNat + 1 ≤ ts.flatten.length + (en - fr).toNat by omega)
        have e5 := capN_next (n := nb) (by omega) (ts.flatten.length + (p - fr).toNat)
        have m6 := capN_ge (capN nb (ts.flatten.length + (p - fr).toNat)) (ts.flatten.length + (p - fr).toNat + 1)
        refine zw_aload_n 0 rfl zd_PW_addName_10 ?_
        refine zw_get zc_PW 0 2 rfl (by decide) zf_PW_26 rfl zd_PW_addName_11 ?_
        refine zw_aload_n 0 rfl zd_PW_addName_14 ?_
        refine zw_get zc_PW 0 0 rfl (by decide) zf_PW_10 rfl zd_PW_addName_15 ?_
        refine zw_iload 5 rfl zd_PW_addName_18 ?_
        refine zw_callV (As := [.int (zI (p))]) (rest := [.ref hs]) (L2 := [zObj h 0 [.ref ht, .ref hl, .ref hs, .ref ho, .ref hn, .int (zI (p0)), .int (zI (w0)), .int (zI (r0))], zWL hl (ws) (nw), zTS hs (ts) (slc t fr p) (capN nb (ts.flatten.length + (p - fr).toNat)) (n)]) (L' := [zBRow ht (t) (nt), zObj h 0 [.ref ht, .ref hl, .ref hs, .ref ho, .ref hn, .int (zI (p0)), .int (zI (w0)), .int (zI (r0))], zWL hl (ws) (nw), zTS hs (ts) (slc t fr p) (capN nb (ts.flatten.length + (p - fr).toNat)) (n)]) (stk' := [.int (zI (bget t p)), .ref hs]) (c_BR_get ht (t) (nt) (p) (by omega)) [1] [0, 2, 3] rfl rfl rfl zcal_BR_get zl_PW_106 zin_BR_get zse_BR_get 0 rfl zRv_BRow rfl (Nat.le_of_ble_eq_true rfl) (Nat.le_of_ble_eq_true rfl) (by omega) (by omega) rfl (Nat.le_of_ble_eq_true rfl) rfl rfl zd_PW_addName_20 ?_
        have rg20 := bget_rg hby (p)
        refine zw_callV (As := [.int (zI (bget t p))]) (rest := []) (L2 := [zBRow ht (t) (nt), zObj h 0 [.ref ht, .ref hl, .ref hs, .ref ho, .ref hn, .int (zI (p0)), .int (zI (w0)), .int (zI (r0))], zWL hl (ws) (nw)]) (L' := [zTS hs (ts) ((slc t fr p) ++ [(bget t p) % 256]) (capN (capN nb (ts.flatten.length + (p - fr).toNat)) (ts.flatten.length + (p - fr).toNat + 1)) (n), zBRow ht (t) (nt), zObj h 0 [.ref ht, .ref hl, .ref hs, .ref ho, .ref hn, .int (zI (p0)), .int (zI (w0)), .int (zI (r0))], zWL hl (ws) (nw)]) (stk' := []) (c_TS_putC hs (ts) (slc t fr p) (capN nb (ts.flatten.length + (p - fr).toNat)) (n) (bget t p) (ts.flatten.length + (p - fr).toNat) (cc) (by omega) (by omega)) [3] [0, 1, 2] rfl rfl rfl zcal_TS_put zl_PW_160 zin_TS_put zse_TS_put 0 rfl zRv_TS rfl (Nat.le_of_ble_eq_true rfl) (Nat.le_of_ble_eq_true rfl) (by omega) (by omega) rfl (Nat.le_of_ble_eq_true rfl) rfl rfl zd_PW_addName_23 ?_
        refine zw_iinc (lv' := [(5, .int (zI (p + 1))), (0, .ref h), (1, .int (zI (kd))), (2, .int (zI (bg))), (3, .int (zI (fr))), (4, .int (zI (en)))]) 5 rfl (Nat.le_of_ble_eq_true rfl) rfl zd_PW_addName_26 ?_
        refine zw_goto 3 zd_PW_addName_29 (by decide) ?_
        refine zw_sub (L' := [zObj h 0 [.ref ht, .ref hl, .ref hs, .ref ho, .ref hn, .int (zI (p0)), .int (zI (w0)), .int (zI (r0))], zBRow ht (t) (nt), zWL hl (ws) (nw), zTS hs (ts) ((slc t fr p) ++ [(bget t p) % 256]) (capN (capN nb (ts.flatten.length + (p - fr).toNat)) (ts.flatten.length + (p - fr).toNat + 1)) (n)]) [2, 1, 3, 0] rfl rfl ?_
        refine zw_lpick (lv' := [(0, .ref h), (1, .int (zI (kd))), (2, .int (zI (bg))), (3, .int (zI (fr))), (4, .int (zI (en))), (5, .int (zI (p + 1)))]) [1, 2, 3, 4, 5, 0] rfl ?_
        have b0 : 0 ≤ bget t p ∧ bget t p ≤ 255 := bget_byte hby (by omega)
        refine zw_eqL (L' := [zObj h 0 [.ref ht, .ref hl, .ref hs, .ref ho, .ref hn, .int (zI (p0)), .int (zI (w0)), .int (zI (r0))], zBRow ht (t) (nt), zWL hl (ws) (nw), zTS hs (ts) (slc t fr (p + 1)) (capN nb (ts.flatten.length + ((p + 1) - fr).toNat)) (n)]) (by rw [e5, slc_snoc (by omega) (by omega) (by omega), Int.emod_eq_of_lt b0.1 (by omega), show ts.flatten.length + (p + 1 - fr).toNat = ts.flatten.length + (p - fr).toNat + 1 by omega]) ?_
        refine zw_widen (k' := capN nb (ts.flatten.length + ((p + 1) - fr).toNat) - nb) (n' := 2 * (capN nb (ts.flatten.length + ((p + 1) - fr).toNat) - nb)) (by rw [show ts.flatten.length + (p + 1 - fr).toNat = ts.flatten.length + (p - fr).toNat + 1 by omega]; omega) (by rw [show ts.flatten.length + (p + 1 - fr).toNat = ts.flatten.length + (p - fr).toNat + 1 by omega]; omega) ?_
        exact ih (p + 1) (by omega) (by omega)
  refine zw_iload_n 3 rfl zd_PW_addName_0 ?_
  refine zw_istore (lv' := [(5, .int (zI (fr))), (0, .ref h), (1, .int (zI (kd))), (2, .int (zI (bg))), (3, .int (zI (fr))), (4, .int (zI (en)))]) (Nat.le_of_ble_eq_true rfl) rfl zd_PW_addName_1 ?_
  refine zw_lpick (lv' := [(0, .ref h), (1, .int (zI (kd))), (2, .int (zI (bg))), (3, .int (zI (fr))), (4, .int (zI (en))), (5, .int (zI (fr)))]) [1, 2, 3, 4, 5, 0] rfl ?_
  have c0 : capN nb (ts.flatten.length + (fr - fr).toNat) = nb := by rw [Int.sub_self]; exact capN_id (by have := hts2.1; rw [List.append_nil] at this; simpa using this)
  refine zw_eqL (L' := [zObj h 0 [.ref ht, .ref hl, .ref hs, .ref ho, .ref hn, .int (zI (p0)), .int (zI (w0)), .int (zI (r0))], zBRow ht (t) (nt), zWL hl (ws) (nw), zTS hs (ts) (slc t fr fr) (capN nb (ts.flatten.length + (fr - fr).toNat)) (n)]) (by rw [c0, slc_nil]) ?_
  refine zw_widen (k' := capN nb (ts.flatten.length + (fr - fr).toNat) - nb) (n' := 2 * (capN nb (ts.flatten.length + (fr - fr).toNat) - nb)) (by omega) (by omega) ?_
  exact lp _ fr (by omega) (Nat.lt_succ_self _)
