/-- the numeral, whatever it last read -/
def zNumA (h : Nat) : zAt := fun G w => ∃ x : Int32 × Int, True ∧ zSt [zNum h x.1 x.2] G w
theorem plain_of {t : List Int} {p : Int} (hl : lvOut t p = 0) (hm : bget t p ≠ 40 ∧ bget t p ≠ 41 ∧ bget t p ≠ 60 ∧ bget t p ≠ 62 ∧ bget t p ≠ 91 ∧ bget t p ≠ 93 ∧ bget t p ≠ 123 ∧ bget t p ≠ 125 ∧ bget t p ≠ 47) : sPlain (bget t p) = true := by
  have h1 : ¬ sBlank (bget t p) = true ∧ ¬ bget t p = 37 := by
    unfold lvOut at hl
    split at hl
    · omega
    split at hl
    · omega
    exact ⟨by assumption, by assumption⟩
  unfold sPlain
  rw [Bool.eq_false_iff.mpr h1.1, show sMark (bget t p) = false from decide_eq_false (by omega)]
  rfl
theorem rowE_endP {t : List Int} {p : Int} (h0 : 0 ≤ p) (h : rowE t p - p ≤ 127) : endP t (rowE t p) := by
  obtain ⟨s1, s2, s3, s4⟩ := scanE_spec (f := sPlain) (t := t) (p := p) h0
  have e : rowE t p = scanE sPlain t p := by unfold rowE at h ⊢; omega
  rw [e]
  unfold endP
  by_cases q : scanE sPlain t p < t.length
  · exact Or.inr (by cases hs : sPlain (bget t (scanE sPlain t p)) with | false => rfl | true => exact absurd ⟨q, hs⟩ s4)
  · exact Or.inl (bget_out (by omega))
theorem rowS_op (t : List Int) (u : zU) : (rowS t u).op = u.op := by
  unfold rowS
  repeat' split
  all_goals rfl
set_option maxHeartbeats 4000000 in
set_option maxRecDepth 100000 in
theorem c_NU_fits (h : Nat) (v : Int32) (ft : Int) : zCT zy_NU_fits zm_NU_fits (0) (0) [.ref h] [zNum h (v) (ft)] (some (.int (zI ft))) [zNum h (v) (ft)] := by
  refine zCT.of [(0, .ref h)] rfl (by decide) rfl (fun h => by first | rfl | cases h) (Nat.le_of_ble_eq_true rfl) (fun X hR => ?_)
  refine zw_unp (fun G ws h => h) (fun x0 hx0 => ?_)
  obtain ⟨⟨fa, g⟩, ng, db, de, wd, ex⟩ := x0
  obtain ⟨hx1, hx2⟩ := hx0
  simp only [List.cons_append, List.nil_append]
  refine zw_aload_n 0 rfl zd_NU_fits_0 ?_
  refine zw_get zc_NU 0 7 rfl (by decide) zf_NU_19 rfl zd_NU_fits_1 ?_
  refine zw_pack (at0 := zNum h v ft) (Ls := [zObj h 5 [.ref fa, .int (zI (ng)), .int (zI (db)), .int (zI (de)), .int (zI (wd)), .int (zI (ex)), .int (v), .int (zI (ft))], zArI fa (160) (g)]) (L2 := []) rfl (fun G w h => ⟨((fa, g), ng, db, de, wd, ex), ⟨hx1, hx2⟩, h⟩) ?_
  rcases (show ft = 0 ∨ ft = 1 by omega) with rfl | rfl
  · exact zw_zret hR rfl rfl rfl rfl (by omega) (by omega) zd_NU_fits_4
  · exact zw_zret hR rfl rfl rfl rfl (by omega) (by omega) zd_NU_fits_4
set_option maxHeartbeats 4000000 in
set_option maxRecDepth 100000 in
theorem c_NU_value (h : Nat) (v : Int32) (ft : Int) : zCT zy_NU_value zm_NU_value (0) (0) [.ref h] [zNum h (v) (ft)] (some (.int v)) [zNum h (v) (ft)] := by
  refine zCT.of [(0, .ref h)] rfl (by decide) rfl (fun h => by first | rfl | cases h) (Nat.le_of_ble_eq_true rfl) (fun X hR => ?_)
  refine zw_unp (fun G ws h => h) (fun x0 hx0 => ?_)
  obtain ⟨⟨fa, g⟩, ng, db, de, wd, ex⟩ := x0
  obtain ⟨hx1, hx2⟩ := hx0
  simp only [List.cons_append, List.nil_append]
  refine zw_aload_n 0 rfl zd_NU_value_0 ?_
  refine zw_get zc_NU 0 6 rfl (by decide) zf_NU_15 rfl zd_NU_value_1 ?_
  refine zw_pack (at0 := zNum h v ft) (Ls := [zObj h 5 [.ref fa, .int (zI (ng)), .int (zI (db)), .int (zI (de)), .int (zI (wd)), .int (zI (ex)), .int (v), .int (zI (ft))], zArI fa (160) (g)]) (L2 := []) rfl (fun G w h => ⟨((fa, g), ng, db, de, wd, ex), ⟨hx1, hx2⟩, h⟩) ?_
  exact zw_iret hR rfl rfl rfl (by omega) (by omega) zd_NU_value_4
set_option maxHeartbeats 4000000 in
set_option maxRecDepth 100000 in
theorem c_PW_cutRow (h ht hl hs ho hn : Nat) (t : List Int) (nt : Nat) (p0 r0 : Int) (ws : List (Int32 × Int32 × Int32)) (nw : Nat) (ts : List (List Int)) (nb n : Nat) (op : List Int) (mb : Nat) (u1 : zU) (hu : rowS t ⟨p0, ws, ts, op, 0, r0, [], mb⟩ = u1) (hp : 0 ≤ p0 ∧ p0 < t.length) (hF : ts.flatten.length + t.length < 60000) (hw : ws.length < 16384) (hs1 : ts.length < 16384) (hmb : mb ≤ nb) (hpl : sPlain (bget t p0) = true) : zCT zy_PW_cutRow zm_PW_cutRow ((capN nb u1.mb - nb) + 4 * (capN n u1.ts.length - n) + 3 * (capN nw u1.ws.length - nw)) (2 * (capN nb u1.mb - nb) + 8 * (capN n u1.ts.length - n) + 6 * (capN nw u1.ws.length - nw)) [.ref h] [zObj h 0 [.ref ht, .ref hl, .ref hs, .ref ho, .ref hn, .int (zI (p0)), .int (zI (0)), .int (zI (r0))], zBRow ht (t) (nt), zWL hl (ws) (nw), zTS hs (ts) ([]) (nb) (n), zNumA hn] (none) [zObj h 0 [.ref ht, .ref hl, .ref hs, .ref ho, .ref hn, .int (zI (u1.p)), .int (zI (u1.y)), .int (zI (u1.r))], zBRow ht (t) (nt), zWL hl (u1.ws) (capN nw u1.ws.length), zTS hs (u1.ts) (u1.pend) (capN nb u1.mb) (capN n u1.ts.length), zNumA hn] := by
  refine zCT.of [(0, .ref h)] rfl (by decide) rfl (fun h => by first | rfl | cases h) (Nat.le_of_ble_eq_true rfl) (fun X hR => ?_)
  refine zw_fact 1 rfl (fun G w h => zBR_fact h) (fun hbr => ?_)
  obtain ⟨⟨ht1, ht2, ht3⟩, hby⟩ := hbr
  refine zw_fact 2 rfl (fun G w h => zWL_fact h) (fun hwl => ?_)
  refine zw_fact 3 rfl (fun G w h => zTS_fact h) (fun hts => ?_)
  obtain ⟨hts1, hts2, hts3, hts4⟩ := hts
  have hgt := rowE_gt hp.1 hp.2 hpl
  have hq0 := rowE_endP (t := t) hp.1
  have kd9 := rdK_rg t p0 (rowE t p0)
  refine zw_aload_n 0 rfl zd_PW_cutRow_0 ?_
  refine zw_get zc_PW 0 5 rfl (by decide) zf_PW_46 rfl zd_PW_cutRow_1 ?_
  refine zw_istore_n (lv' := [(1, .int (zI (p0))), (0, .ref h)]) (Nat.le_of_ble_eq_true rfl) rfl zd_PW_cutRow_4 ?_
  refine zw_aload_n 1 rfl zd_PW_cutRow_5 ?_
  refine zw_iload_n 0 rfl zd_PW_cutRow_6 ?_
  refine zw_callV (As := [.int (zI (p0))]) (rest := []) (L2 := [zWL hl (ws) (nw), zTS hs (ts) ([]) (nb) (n), zNumA hn]) (L' := [zObj h 0 [.ref ht, .ref hl, .ref hs, .ref ho, .ref hn, .int (zI (p0)), .int (zI (0)), .int (zI (r0))], zBRow ht (t) (nt), zWL hl (ws) (nw), zTS hs (ts) ([]) (nb) (n), zNumA hn]) (stk' := [.int (zI (rowE t p0))]) (c_PW_rowEnd h ht hl hs ho hn t nt p0 0 r0 p0 (by omega)) [0, 1] [2, 3, 4] rfl rfl rfl zcal_PW_rowEnd zl_PW_141 zin_PW_rowEnd zse_PW_rowEnd 0 rfl zRv_obj rfl (Nat.le_of_ble_eq_true rfl) (Nat.le_of_ble_eq_true rfl) (by omega) (by omega) rfl (Nat.le_of_ble_eq_true rfl) rfl rfl zd_PW_cutRow_7 ?_
  have re7 := rowE_rg (t := t) (z := p0) (by omega)
  refine zw_istore_n (lv' := [(2, .int (zI (rowE t p0))), (1, .int (zI (p0))), (0, .ref h)]) (Nat.le_of_ble_eq_true rfl) rfl zd_PW_cutRow_10 ?_
  refine zw_iload_n 0 rfl zd_PW_cutRow_11 ?_
  refine zw_iload_n 1 rfl zd_PW_cutRow_12 ?_
  refine zw_isub zd_PW_cutRow_13 ?_
  refine zw_bipush rfl zd_PW_cutRow_14 ?_
  refine zw_icmp_le 27 (by omega) (by omega) zd_PW_cutRow_16 (by decide) (fun c16 => ?_) (fun c16 => ?_)
  · -- 16 -> 27
    refine zw_sub (L' := [zNumA hn, zObj h 0 [.ref ht, .ref hl, .ref hs, .ref ho, .ref hn, .int (zI (p0)), .int (zI (0)), .int (zI (r0))], zBRow ht (t) (nt), zWL hl (ws) (nw), zTS hs (ts) ([]) (nb) (n)]) [4, 0, 1, 2, 3] rfl rfl ?_
    refine zw_unp (fun G ws h => h) (fun x0 hx0 => ?_)
    obtain ⟨v, ft⟩ := x0
    simp only [List.cons_append, List.nil_append]
    have eK := rdS_K t p0 (rowE t p0) v ft
    refine zw_aload_n 2 rfl zd_PW_cutRow_27 ?_
    refine zw_get zc_PW 1 4 rfl (by decide) zf_PW_42 rfl zd_PW_cutRow_28 ?_
    refine zw_aload_n 2 rfl zd_PW_cutRow_31 ?_
    refine zw_get zc_PW 1 0 rfl (by decide) zf_PW_10 rfl zd_PW_cutRow_32 ?_
    refine zw_iload_n 1 rfl zd_PW_cutRow_35 ?_
    refine zw_iload_n 0 rfl zd_PW_cutRow_36 ?_
    refine zw_callV (As := [.ref ht, .int (zI (p0)), .int (zI (rowE t p0))]) (rest := []) (L2 := [zObj h 0 [.ref ht, .ref hl, .ref hs, .ref ho, .ref hn, .int (zI (p0)), .int (zI (0)), .int (zI (r0))], zWL hl (ws) (nw), zTS hs (ts) ([]) (nb) (n)]) (L' := [zNum hn ((rdS t p0 (rowE t p0) v ft).2.1) ((rdS t p0 (rowE t p0) v ft).2.2), zBRow ht (t) (nt), zObj h 0 [.ref ht, .ref hl, .ref hs, .ref ho, .ref hn, .int (zI (p0)), .int (zI (0)), .int (zI (r0))], zWL hl (ws) (nw), zTS hs (ts) ([]) (nb) (n)]) (stk' := [.int (zI ((rdS t p0 (rowE t p0) v ft).1))]) (c_NU_read hn v ft ht t nt p0 (rowE t p0) (by omega) (hq0 (by omega))) [0, 2] [1, 3, 4] rfl rfl rfl zcal_NU_read zl_PW_144 zin_NU_read zse_NU_read 0 rfl zRv_Num rfl (Nat.le_of_ble_eq_true rfl) (Nat.le_of_ble_eq_true rfl) (by omega) (by omega) rfl (Nat.le_of_ble_eq_true rfl) rfl rfl zd_PW_cutRow_37 ?_
    refine zw_eqs (st' := [.int (zI ((rdK t p0 (rowE t p0)).1))]) (by rw [eK.1]) ?_
    refine zw_istore_n (lv' := [(3, .int (zI ((rdK t p0 (rowE t p0)).1))), (2, .int (zI (rowE t p0))), (1, .int (zI (p0))), (0, .ref h)]) (Nat.le_of_ble_eq_true rfl) rfl zd_PW_cutRow_40 ?_
    refine zw_iload_n 0 rfl zd_PW_cutRow_41 ?_
    refine zw_iconst zd_PW_cutRow_42 ?_
    refine zw_icmp_ne 57 (by omega) (by omega) zd_PW_cutRow_43 (by decide) (fun c43 => ?_) (fun c43 => ?_)
    · -- 43 -> 57
      have eK2 := eK.2 (by omega)
      refine zw_eqL (L' := [zNum hn ((rdK t p0 (rowE t p0)).2.1) ((rdK t p0 (rowE t p0)).2.2), zBRow ht (t) (nt), zObj h 0 [.ref ht, .ref hl, .ref hs, .ref ho, .ref hn, .int (zI (p0)), .int (zI (0)), .int (zI (r0))], zWL hl (ws) (nw), zTS hs (ts) ([]) (nb) (n)]) (by rw [eK2]) ?_
      refine zw_aload_n 3 rfl zd_PW_cutRow_57 ?_
      refine zw_get zc_PW 2 4 rfl (by decide) zf_PW_42 rfl zd_PW_cutRow_58 ?_
      refine zw_callV (As := []) (rest := []) (L2 := [zBRow ht (t) (nt), zObj h 0 [.ref ht, .ref hl, .ref hs, .ref ho, .ref hn, .int (zI (p0)), .int (zI (0)), .int (zI (r0))], zWL hl (ws) (nw), zTS hs (ts) ([]) (nb) (n)]) (L' := [zNum hn ((rdK t p0 (rowE t p0)).2.1) ((rdK t p0 (rowE t p0)).2.2), zBRow ht (t) (nt), zObj h 0 [.ref ht, .ref hl, .ref hs, .ref ho, .ref hn, .int (zI (p0)), .int (zI (0)), .int (zI (r0))], zWL hl (ws) (nw), zTS hs (ts) ([]) (nb) (n)]) (stk' := [.int (zI ((rdK t p0 (rowE t p0)).2.2))]) (c_NU_fits hn ((rdK t p0 (rowE t p0)).2.1) ((rdK t p0 (rowE t p0)).2.2)) [0] [1, 2, 3, 4] rfl rfl rfl zcal_NU_fits zl_PW_148 zin_NU_fits zse_NU_fits 0 rfl zRv_Num rfl (Nat.le_of_ble_eq_true rfl) (Nat.le_of_ble_eq_true rfl) (by omega) (by omega) rfl (Nat.le_of_ble_eq_true rfl) rfl rfl zd_PW_cutRow_61 ?_
      refine zw_if_eq 91 (by omega) zd_PW_cutRow_64 (by decide) (fun c64 => ?_) (fun c64 => ?_)
      · -- 64 -> 91
        refine zw_sub (L' := [zNum hn ((rdK t p0 (rowE t p0)).2.1) ((rdK t p0 (rowE t p0)).2.2), zObj h 0 [.ref ht, .ref hl, .ref hs, .ref ho, .ref hn, .int (zI (p0)), .int (zI (0)), .int (zI (r0))], zBRow ht (t) (nt), zWL hl (ws) (nw), zTS hs (ts) ([]) (nb) (n)]) [0, 2, 1, 3, 4] rfl rfl ?_
        refine zw_pack (at0 := zNumA hn) (Ls := [zNum hn ((rdK t p0 (rowE t p0)).2.1) ((rdK t p0 (rowE t p0)).2.2)]) (L2 := [zObj h 0 [.ref ht, .ref hl, .ref hs, .ref ho, .ref hn, .int (zI (p0)), .int (zI (0)), .int (zI (r0))], zBRow ht (t) (nt), zWL hl (ws) (nw), zTS hs (ts) ([]) (nb) (n)]) rfl (fun G w h => ⟨((rdK t p0 (rowE t p0)).2.1, (rdK t p0 (rowE t p0)).2.2), trivial, h⟩) ?_
        obtain rfl : (⟨p0, ws, ts, op, 5, p0, [], mb⟩ : zU) = u1 := by rw [← hu]; unfold rowS flS; dsimp only [zU.p, zU.ws, zU.ts, zU.op, zU.y, zU.r, zU.pend, zU.mb]; rw [if_neg (by omega), if_neg (by omega), if_pos (by omega)]
        dsimp only [zU.p, zU.ws, zU.ts, zU.op, zU.y, zU.r, zU.pend, zU.mb] at hR ⊢
        rw [capN_id hmb, capN_id hts1.1, capN_id hwl.1] at hR ⊢
        refine zw_aload_n 3 rfl zd_PW_cutRow_91 ?_
        refine zw_iconst zd_PW_cutRow_92 ?_
        refine zw_iload_n 2 rfl zd_PW_cutRow_93 ?_
        refine zw_callV (As := [.int (zI (5)), .int (zI (p0))]) (rest := []) (L2 := [zNumA hn, zBRow ht (t) (nt), zWL hl (ws) (nw), zTS hs (ts) ([]) (nb) (n)]) (L' := [zObj h 0 [.ref ht, .ref hl, .ref hs, .ref ho, .ref hn, .int (zI (p0)), .int (zI (5)), .int (zI (p0))], zNumA hn, zBRow ht (t) (nt), zWL hl (ws) (nw), zTS hs (ts) ([]) (nb) (n)]) (stk' := []) (c_PW_goWrong h ht hl hs ho hn p0 0 r0 5 p0) [1] [0, 2, 3, 4] rfl rfl rfl zcal_PW_goWrong zl_PW_75 zin_PW_goWrong zse_PW_goWrong 0 rfl zRv_obj rfl (Nat.le_of_ble_eq_true rfl) (Nat.le_of_ble_eq_true rfl) (by omega) (by omega) rfl (Nat.le_of_ble_eq_true rfl) rfl rfl zd_PW_cutRow_94 ?_
        refine zw_sub (L' := [zObj h 0 [.ref ht, .ref hl, .ref hs, .ref ho, .ref hn, .int (zI (p0)), .int (zI (5)), .int (zI (p0))], zBRow ht (t) (nt), zWL hl (ws) (nw), zTS hs (ts) ([]) (nb) (n), zNumA hn]) [0, 2, 3, 4, 1] rfl rfl ?_
        exact zw_vret hR rfl rfl rfl (by omega) (by omega) zd_PW_cutRow_97
      · -- 64 -> 67
        obtain rfl : (⟨rowE t p0, ws ++ [(zI (rdK t p0 (rowE t p0)).1, (rdK t p0 (rowE t p0)).2.1, zI p0)], ts, op, 0, r0, [], mb⟩ : zU) = u1 := by rw [← hu]; unfold rowS; dsimp only [zU.p, zU.ws, zU.ts, zU.op, zU.y, zU.r, zU.pend, zU.mb]; rw [if_neg (by omega), if_neg (by omega), if_neg (by omega)]
        dsimp only [zU.p, zU.ws, zU.ts, zU.op, zU.y, zU.r, zU.pend, zU.mb] at hR ⊢
        simp only [List.length_append, List.length_singleton] at hR ⊢
        rw [capN_id hmb, capN_id hts1.1] at hR ⊢
        refine zw_aload_n 3 rfl zd_PW_cutRow_67 ?_
        refine zw_get zc_PW 2 1 rfl (by decide) zf_PW_19 rfl zd_PW_cutRow_68 ?_
        refine zw_iload_n 0 rfl zd_PW_cutRow_71 ?_
        refine zw_aload_n 3 rfl zd_PW_cutRow_72 ?_
        refine zw_get zc_PW 2 4 rfl (by decide) zf_PW_42 rfl zd_PW_cutRow_73 ?_
        refine zw_callV (As := []) (rest := [.int (zI ((rdK t p0 (rowE t p0)).1)), .ref hl]) (L2 := [zBRow ht (t) (nt), zObj h 0 [.ref ht, .ref hl, .ref hs, .ref ho, .ref hn, .int (zI (p0)), .int (zI (0)), .int (zI (r0))], zWL hl (ws) (nw), zTS hs (ts) ([]) (nb) (n)]) (L' := [zNum hn ((rdK t p0 (rowE t p0)).2.1) ((rdK t p0 (rowE t p0)).2.2), zBRow ht (t) (nt), zObj h 0 [.ref ht, .ref hl, .ref hs, .ref ho, .ref hn, .int (zI (p0)), .int (zI (0)), .int (zI (r0))], zWL hl (ws) (nw), zTS hs (ts) ([]) (nb) (n)]) (stk' := [.int ((rdK t p0 (rowE t p0)).2.1), .int (zI ((rdK t p0 (rowE t p0)).1)), .ref hl]) (c_NU_value hn ((rdK t p0 (rowE t p0)).2.1) ((rdK t p0 (rowE t p0)).2.2)) [0] [1, 2, 3, 4] rfl rfl rfl zcal_NU_value zl_PW_151 zin_NU_value zse_NU_value 0 rfl zRv_Num rfl (Nat.le_of_ble_eq_true rfl) (Nat.le_of_ble_eq_true rfl) (by omega) (by omega) rfl (Nat.le_of_ble_eq_true rfl) rfl rfl zd_PW_cutRow_76 ?_
        refine zw_iload_n 2 rfl zd_PW_cutRow_79 ?_
        refine zw_callV (As := [.int (zI ((rdK t p0 (rowE t p0)).1)), .int ((rdK t p0 (rowE t p0)).2.1), .int (zI (p0))]) (rest := []) (L2 := [zNum hn ((rdK t p0 (rowE t p0)).2.1) ((rdK t p0 (rowE t p0)).2.2), zBRow ht (t) (nt), zObj h 0 [.ref ht, .ref hl, .ref hs, .ref ho, .ref hn, .int (zI (p0)), .int (zI (0)), .int (zI (r0))], zTS hs (ts) ([]) (nb) (n)]) (L' := [zWL hl (ws ++ [((zI ((rdK t p0 (rowE t p0)).1)), ((rdK t p0 (rowE t p0)).2.1), (zI (p0)))]) (capN (nw) ((ws).length + 1)), zNum hn ((rdK t p0 (rowE t p0)).2.1) ((rdK t p0 (rowE t p0)).2.2), zBRow ht (t) (nt), zObj h 0 [.ref ht, .ref hl, .ref hs, .ref ho, .ref hn, .int (zI (p0)), .int (zI (0)), .int (zI (r0))], zTS hs (ts) ([]) (nb) (n)]) (stk' := []) (c_WL_addC hl (ws) (nw) (zI ((rdK t p0 (rowE t p0)).1)) ((rdK t p0 (rowE t p0)).2.1) (zI (p0)) (by omega) (by omega)) [3] [0, 1, 2, 4] rfl rfl rfl zcal_WL_add zl_PW_154 zin_WL_add zse_WL_add 0 rfl zRv_WL rfl (Nat.le_of_ble_eq_true rfl) (Nat.le_of_ble_eq_true rfl) (by omega) (by omega) rfl (Nat.le_of_ble_eq_true rfl) rfl rfl zd_PW_cutRow_80 ?_
        refine zw_aload_n 3 rfl zd_PW_cutRow_83 ?_
        refine zw_iload_n 1 rfl zd_PW_cutRow_84 ?_
        refine zw_put (L' := [zWL hl (ws ++ [((zI ((rdK t p0 (rowE t p0)).1)), ((rdK t p0 (rowE t p0)).2.1), (zI (p0)))]) (capN (nw) ((ws).length + 1)), zNum hn ((rdK t p0 (rowE t p0)).2.1) ((rdK t p0 (rowE t p0)).2.2), zBRow ht (t) (nt), zObj h 0 [.ref ht, .ref hl, .ref hs, .ref ho, .ref hn, .int (zI (rowE t p0)), .int (zI (0)), .int (zI (r0))], zTS hs (ts) ([]) (nb) (n)]) zc_PW 3 5 rfl (by decide) zf_PW_46 rfl rfl rfl (Nat.le_of_ble_eq_true rfl) rfl zd_PW_cutRow_85 ?_
        refine zw_goto 97 zd_PW_cutRow_88 (by decide) ?_
        refine zw_sub (L' := [zNum hn ((rdK t p0 (rowE t p0)).2.1) ((rdK t p0 (rowE t p0)).2.2), zObj h 0 [.ref ht, .ref hl, .ref hs, .ref ho, .ref hn, .int (zI (rowE t p0)), .int (zI (0)), .int (zI (r0))], zBRow ht (t) (nt), zWL hl (ws ++ [((zI ((rdK t p0 (rowE t p0)).1)), ((rdK t p0 (rowE t p0)).2.1), (zI (p0)))]) (capN (nw) ((ws).length + 1)), zTS hs (ts) ([]) (nb) (n)]) [1, 3, 2, 0, 4] rfl rfl ?_
        refine zw_pack (at0 := zNumA hn) (Ls := [zNum hn ((rdK t p0 (rowE t p0)).2.1) ((rdK t p0 (rowE t p0)).2.2)]) (L2 := [zObj h 0 [.ref ht, .ref hl, .ref hs, .ref ho, .ref hn, .int (zI (rowE t p0)), .int (zI (0)), .int (zI (r0))], zBRow ht (t) (nt), zWL hl (ws ++ [((zI ((rdK t p0 (rowE t p0)).1)), ((rdK t p0 (rowE t p0)).2.1), (zI (p0)))]) (capN (nw) ((ws).length + 1)), zTS hs (ts) ([]) (nb) (n)]) rfl (fun G w h => ⟨((rdK t p0 (rowE t p0)).2.1, (rdK t p0 (rowE t p0)).2.2), trivial, h⟩) ?_
        refine zw_sub (L' := [zObj h 0 [.ref ht, .ref hl, .ref hs, .ref ho, .ref hn, .int (zI (rowE t p0)), .int (zI (0)), .int (zI (r0))], zBRow ht (t) (nt), zWL hl (ws ++ [((zI ((rdK t p0 (rowE t p0)).1)), ((rdK t p0 (rowE t p0)).2.1), (zI (p0)))]) (capN (nw) ((ws).length + 1)), zTS hs (ts) ([]) (nb) (n), zNumA hn]) [1, 2, 3, 4, 0] rfl rfl ?_
        exact zw_vret hR rfl rfl rfl (by omega) (by omega) zd_PW_cutRow_97
    · -- 43 -> 46
      have hsl := slc_len (t := t) (a := p0) (b := rowE t p0) (by omega) (by omega) (by omega)
      have esl : ts.flatten.length + (slc t (p0) (rowE t p0)).length = ts.flatten.length + (rowE t p0 - (p0)).toNat := by omega
      refine zw_sub (L' := [zNum hn ((rdS t p0 (rowE t p0) v ft).2.1) ((rdS t p0 (rowE t p0) v ft).2.2), zObj h 0 [.ref ht, .ref hl, .ref hs, .ref ho, .ref hn, .int (zI (p0)), .int (zI (0)), .int (zI (r0))], zBRow ht (t) (nt), zWL hl (ws) (nw), zTS hs (ts) ([]) (nb) (n)]) [0, 2, 1, 3, 4] rfl rfl ?_
      refine zw_pack (at0 := zNumA hn) (Ls := [zNum hn ((rdS t p0 (rowE t p0) v ft).2.1) ((rdS t p0 (rowE t p0) v ft).2.2)]) (L2 := [zObj h 0 [.ref ht, .ref hl, .ref hs, .ref ho, .ref hn, .int (zI (p0)), .int (zI (0)), .int (zI (r0))], zBRow ht (t) (nt), zWL hl (ws) (nw), zTS hs (ts) ([]) (nb) (n)]) rfl (fun G w h => ⟨((rdS t p0 (rowE t p0) v ft).2.1, (rdS t p0 (rowE t p0) v ft).2.2), trivial, h⟩) ?_
      obtain rfl : (⟨rowE t p0, ws ++ [(zI 3, zI ((ixOf ts (slc t p0 (rowE t p0)) : Nat) : Int), zI p0)], addT ts (slc t p0 (rowE t p0)), op, 0, r0, [], max mb (ts.flatten.length + (slc t p0 (rowE t p0)).length)⟩ : zU) = u1 := by rw [← hu]; unfold rowS txS; dsimp only [zU.p, zU.ws, zU.ts, zU.op, zU.y, zU.r, zU.pend, zU.mb]; rw [if_neg (by omega), if_pos (by omega)]
      dsimp only [zU.p, zU.ws, zU.ts, zU.op, zU.y, zU.r, zU.pend, zU.mb] at hR ⊢
      simp only [List.length_append, List.length_singleton] at hR ⊢
      rw [cap_max hts2.2.1 hmb, esl] at hR ⊢
      refine zw_aload_n 3 rfl zd_PW_cutRow_46 ?_
      refine zw_iconst zd_PW_cutRow_47 ?_
      refine zw_iload_n 2 rfl zd_PW_cutRow_48 ?_
      refine zw_iload_n 2 rfl zd_PW_cutRow_49 ?_
      refine zw_iload_n 1 rfl zd_PW_cutRow_50 ?_
      refine zw_callV (As := [.int (zI (3)), .int (zI (p0)), .int (zI (p0)), .int (zI (rowE t p0))]) (rest := []) (L2 := [zNumA hn]) (L' := [zObj h 0 [.ref ht, .ref hl, .ref hs, .ref ho, .ref hn, .int (zI (rowE t p0)), .int (zI (0)), .int (zI (r0))], zBRow ht (t) (nt), zWL hl (ws ++ [(zI (3), zI ((ixOf ts (slc t p0 (rowE t p0)) : Nat) : Int), zI (p0))]) (capN nw (ws.length + 1)), zTS hs (addT ts (slc t p0 (rowE t p0))) ([]) (capN nb (ts.flatten.length + (rowE t p0 - p0).toNat)) (capN n (addT ts (slc t p0 (rowE t p0))).length), zNumA hn]) (stk' := []) (c_PW_addName h ht hl hs ho hn t nt p0 0 r0 ws nw ts nb n 3 p0 p0 (rowE t p0) (by omega) (by omega) (by omega) (by omega)) [1, 2, 3, 4] [0] rfl rfl rfl zcal_PW_addName zl_PW_122 zin_PW_addName zse_PW_addName 0 rfl zRv_obj rfl (Nat.le_of_ble_eq_true rfl) (Nat.le_of_ble_eq_true rfl) (by omega) (by omega) rfl (Nat.le_of_ble_eq_true rfl) rfl rfl zd_PW_cutRow_51 ?_
      refine zw_goto 97 zd_PW_cutRow_54 (by decide) ?_
      exact zw_vret hR rfl rfl rfl (by omega) (by omega) zd_PW_cutRow_97
  · -- 16 -> 19
    obtain rfl : (⟨p0, ws, ts, op, 6, p0, [], mb⟩ : zU) = u1 := by rw [← hu]; unfold rowS flS; dsimp only [zU.p, zU.ws, zU.ts, zU.op, zU.y, zU.r, zU.pend, zU.mb]; rw [if_pos (by omega)]
    dsimp only [zU.p, zU.ws, zU.ts, zU.op, zU.y, zU.r, zU.pend, zU.mb] at hR ⊢
    rw [capN_id hmb, capN_id hts1.1, capN_id hwl.1] at hR ⊢
    refine zw_aload_n 2 rfl zd_PW_cutRow_19 ?_
    refine zw_bipush rfl zd_PW_cutRow_20 ?_
    refine zw_iload_n 1 rfl zd_PW_cutRow_22 ?_
    refine zw_callV (As := [.int (zI (6)), .int (zI (p0))]) (rest := []) (L2 := [zBRow ht (t) (nt), zWL hl (ws) (nw), zTS hs (ts) ([]) (nb) (n), zNumA hn]) (L' := [zObj h 0 [.ref ht, .ref hl, .ref hs, .ref ho, .ref hn, .int (zI (p0)), .int (zI (6)), .int (zI (p0))], zBRow ht (t) (nt), zWL hl (ws) (nw), zTS hs (ts) ([]) (nb) (n), zNumA hn]) (stk' := []) (c_PW_goWrong h ht hl hs ho hn p0 0 r0 6 p0) [0] [1, 2, 3, 4] rfl rfl rfl zcal_PW_goWrong zl_PW_75 zin_PW_goWrong zse_PW_goWrong 0 rfl zRv_obj rfl (Nat.le_of_ble_eq_true rfl) (Nat.le_of_ble_eq_true rfl) (by omega) (by omega) rfl (Nat.le_of_ble_eq_true rfl) rfl rfl zd_PW_cutRow_23 ?_
    exact zw_vret hR rfl rfl rfl (by omega) (by omega) zd_PW_cutRow_26
set_option maxHeartbeats 4000000 in
set_option maxRecDepth 100000 in
theorem c_PW_cutWord (h ht hl hs ho hn : Nat) (t : List Int) (nt : Nat) (p0 r0 : Int) (ws : List (Int32 × Int32 × Int32)) (nw : Nat) (ts : List (List Int)) (nb n : Nat) (op : List Int) (mb : Nat) (u1 : zU) (hu : oneS t ⟨p0, ws, ts, op, 0, r0, [], mb⟩ = u1) (hp : 0 ≤ p0 ∧ p0 < t.length) (hF : ts.flatten.length + t.length < 60000) (hw : ws.length < 16384) (hs1 : ts.length < 16384) (hmb : mb ≤ nb) (hlv : lvOut t p0 = 0) (ho64 : op.length ≤ 64) (hox : ∀ x ∈ op, 0 ≤ x ∧ x < ws.length) : zCT zy_PW_cutWord zm_PW_cutWord ((capN nb u1.mb - nb) + 4 * (capN n u1.ts.length - n) + 3 * (capN nw u1.ws.length - nw)) (2 * (capN nb u1.mb - nb) + 8 * (capN n u1.ts.length - n) + 6 * (capN nw u1.ws.length - nw)) [.ref h] [zObj h 0 [.ref ht, .ref hl, .ref hs, .ref ho, .ref hn, .int (zI (p0)), .int (zI (0)), .int (zI (r0))], zBRow ht (t) (nt), zWL hl (ws) (nw), zTS hs (ts) ([]) (nb) (n), zIRow ho (op.map zI) (64) (64), zNumA hn] (none) [zObj h 0 [.ref ht, .ref hl, .ref hs, .ref ho, .ref hn, .int (zI (u1.p)), .int (zI (u1.y)), .int (zI (u1.r))], zBRow ht (t) (nt), zWL hl (u1.ws) (capN nw u1.ws.length), zTS hs (u1.ts) (u1.pend) (capN nb u1.mb) (capN n u1.ts.length), zIRow ho (u1.op.map zI) (64) (64), zNumA hn] := by
  refine zCT.of [(0, .ref h)] rfl (by decide) rfl (fun h => by first | rfl | cases h) (Nat.le_of_ble_eq_true rfl) (fun X hR => ?_)
  refine zw_fact 1 rfl (fun G w h => zBR_fact h) (fun hbr => ?_)
  obtain ⟨⟨ht1, ht2, ht3⟩, hby⟩ := hbr
  refine zw_fact 2 rfl (fun G w h => zWL_fact h) (fun hwl => ?_)
  refine zw_fact 3 rfl (fun G w h => zTS_fact h) (fun hts => ?_)
  obtain ⟨hts1, hts2, hts3, hts4⟩ := hts
  refine zw_aload_n 0 rfl zd_PW_cutWord_0 ?_
  refine zw_get zc_PW 0 1 rfl (by decide) zf_PW_19 rfl zd_PW_cutWord_1 ?_
  refine zw_callV (As := []) (rest := []) (L2 := [zObj h 0 [.ref ht, .ref hl, .ref hs, .ref ho, .ref hn, .int (zI (p0)), .int (zI (0)), .int (zI (r0))], zBRow ht (t) (nt), zTS hs (ts) ([]) (nb) (n), zIRow ho (op.map zI) (64) (64), zNumA hn]) (L' := [zWL hl (ws) (nw), zObj h 0 [.ref ht, .ref hl, .ref hs, .ref ho, .ref hn, .int (zI (p0)), .int (zI (0)), .int (zI (r0))], zBRow ht (t) (nt), zTS hs (ts) ([]) (nb) (n), zIRow ho (op.map zI) (64) (64), zNumA hn]) (stk' := [.int (zI ((((ws).length : Nat) : Int)))]) (c_WL_count hl (ws) (nw)) [2] [0, 1, 3, 4, 5] rfl rfl rfl zcal_WL_count zl_PW_82 zin_WL_count zse_WL_count 0 rfl zRv_WL rfl (Nat.le_of_ble_eq_true rfl) (Nat.le_of_ble_eq_true rfl) (by omega) (by omega) rfl (Nat.le_of_ble_eq_true rfl) rfl rfl zd_PW_cutWord_4 ?_
  refine zw_sipush rfl zd_PW_cutWord_7 ?_
  refine zw_icmp_lt 24 (by omega) (by omega) zd_PW_cutWord_10 (by decide) (fun c10 => ?_) (fun c10 => ?_)
  · -- 10 -> 24
    refine zw_aload_n 0 rfl zd_PW_cutWord_24 ?_
    refine zw_get zc_PW 1 0 rfl (by decide) zf_PW_10 rfl zd_PW_cutWord_25 ?_
    refine zw_aload_n 0 rfl zd_PW_cutWord_28 ?_
    refine zw_get zc_PW 1 5 rfl (by decide) zf_PW_46 rfl zd_PW_cutWord_29 ?_
    refine zw_callV (As := [.int (zI (p0))]) (rest := []) (L2 := [zWL hl (ws) (nw), zObj h 0 [.ref ht, .ref hl, .ref hs, .ref ho, .ref hn, .int (zI (p0)), .int (zI (0)), .int (zI (r0))], zTS hs (ts) ([]) (nb) (n), zIRow ho (op.map zI) (64) (64), zNumA hn]) (L' := [zBRow ht (t) (nt), zWL hl (ws) (nw), zObj h 0 [.ref ht, .ref hl, .ref hs, .ref ho, .ref hn, .int (zI (p0)), .int (zI (0)), .int (zI (r0))], zTS hs (ts) ([]) (nb) (n), zIRow ho (op.map zI) (64) (64), zNumA hn]) (stk' := [.int (zI (bget t p0))]) (c_BR_get ht (t) (nt) (p0) (by omega)) [2] [0, 1, 3, 4, 5] rfl rfl rfl zcal_BR_get zl_PW_106 zin_BR_get zse_BR_get 0 rfl zRv_BRow rfl (Nat.le_of_ble_eq_true rfl) (Nat.le_of_ble_eq_true rfl) (by omega) (by omega) rfl (Nat.le_of_ble_eq_true rfl) rfl rfl zd_PW_cutWord_32 ?_
    have rg32 := bget_rg hby (p0)
    by_cases k35_40 : (bget t p0) = 40
    · refine zw_lookup (off := 81) 116 (by omega) zd_PW_cutWord_35 (by decide) (by rw [k35_40]; rfl) (by decide) ?_
      generalize hb : brS t t.length (p0 + 1) 1 [] = z
      obtain ⟨xs, E⟩ := z
      have hbr := brS_rg _ _ _ _ (by omega) (by omega) hb
      by_cases hE : 0 ≤ E
      · -- True
        obtain rfl : (⟨E + 1, ws ++ [(zI 5, zI ((ixOf ts (xs) : Nat) : Int), zI p0)], addT ts (xs), op, 0, r0, [], max mb (ts.flatten.length + (xs).length)⟩ : zU) = u1 := by rw [← hu]; unfold oneS; dsimp only [zU.p, zU.ws, zU.ts, zU.op, zU.y, zU.r, zU.pend, zU.mb]; rw [if_pos (by omega), hb]; unfold brkS txS; dsimp only [zU.p, zU.ws, zU.ts, zU.op, zU.y, zU.r, zU.pend, zU.mb]; rw [if_pos (by omega)]
        dsimp only [zU.p, zU.ws, zU.ts, zU.op, zU.y, zU.r, zU.pend, zU.mb] at hR ⊢
        simp only [List.length_append, List.length_singleton] at hR ⊢
        rw [cap_max hts2.2.1 hmb] at hR ⊢
        refine zw_aload_n 0 rfl zd_PW_cutWord_116 ?_
        refine zw_callV (As := []) (rest := []) (L2 := [zIRow ho (op.map zI) (64) (64), zNumA hn]) (L' := [zObj h 0 [.ref ht, .ref hl, .ref hs, .ref ho, .ref hn, .int (zI (E + 1)), .int (zI (0)), .int (zI (r0))], zBRow ht (t) (nt), zWL hl (ws ++ [(zI 5, zI ((ixOf ts xs : Nat) : Int), zI p0)]) (capN nw (ws.length + 1)), zTS hs (addT ts xs) ([]) (capN nb (ts.flatten.length + xs.length)) (capN n (addT ts xs).length), zIRow ho (op.map zI) (64) (64), zNumA hn]) (stk' := []) (c_PW_bracket_ok h ht hl hs ho hn t nt p0 0 r0 ws nw ts nb n hp hF xs E hb (by omega) hw hs1) [2, 0, 1, 3] [4, 5] rfl rfl rfl zcal_PW_cutBracketText zl_PW_116 zin_PW_cutBracketText zse_PW_cutBracketText 0 rfl zRv_obj rfl (Nat.le_of_ble_eq_true rfl) (Nat.le_of_ble_eq_true rfl) (by omega) (by omega) rfl (Nat.le_of_ble_eq_true rfl) rfl rfl zd_PW_cutWord_117 ?_
        refine zw_goto 189 zd_PW_cutWord_120 (by decide) ?_
        exact zw_vret hR rfl rfl rfl (by omega) (by omega) zd_PW_cutWord_189
      · -- False
        obtain rfl : (⟨t.length, ws, ts, op, 2, t.length, xs, max mb (ts.flatten.length + xs.length)⟩ : zU) = u1 := by rw [← hu]; unfold oneS; dsimp only [zU.p, zU.ws, zU.ts, zU.op, zU.y, zU.r, zU.pend, zU.mb]; rw [if_pos (by omega), hb]; unfold brkS; dsimp only [zU.p, zU.ws, zU.ts, zU.op, zU.y, zU.r, zU.pend, zU.mb]; rw [if_neg (by omega)]
        dsimp only [zU.p, zU.ws, zU.ts, zU.op, zU.y, zU.r, zU.pend, zU.mb] at hR ⊢
        rw [cap_max hts2.2.1 hmb, capN_id hts1.1, capN_id hwl.1] at hR ⊢
        refine zw_aload_n 0 rfl zd_PW_cutWord_116 ?_
        refine zw_callV (As := []) (rest := []) (L2 := [zIRow ho (op.map zI) (64) (64), zNumA hn]) (L' := [zObj h 0 [.ref ht, .ref hl, .ref hs, .ref ho, .ref hn, .int (zI (((t.length : Nat) : Int))), .int (zI (2)), .int (zI (((t.length : Nat) : Int)))], zBRow ht (t) (nt), zWL hl (ws) (nw), zTS hs (ts) (xs) (capN nb (ts.flatten.length + xs.length)) (n), zIRow ho (op.map zI) (64) (64), zNumA hn]) (stk' := []) (c_PW_bracket_bad h ht hl hs ho hn t nt p0 0 r0 ws nw ts nb n hp hF xs E hb (by omega)) [2, 0, 1, 3] [4, 5] rfl rfl rfl zcal_PW_cutBracketText zl_PW_116 zin_PW_cutBracketText zse_PW_cutBracketText 0 rfl zRv_obj rfl (Nat.le_of_ble_eq_true rfl) (Nat.le_of_ble_eq_true rfl) (by omega) (by omega) rfl (Nat.le_of_ble_eq_true rfl) rfl rfl zd_PW_cutWord_117 ?_
        refine zw_goto 189 zd_PW_cutWord_120 (by decide) ?_
        exact zw_vret hR rfl rfl rfl (by omega) (by omega) zd_PW_cutWord_189
    by_cases k35_41 : (bget t p0) = 41
    · refine zw_lookup (off := 138) 173 (by omega) zd_PW_cutWord_35 (by decide) (by rw [k35_41]; rfl) (by decide) ?_
      obtain rfl : (⟨p0, ws, ts, op, 1, p0, [], mb⟩ : zU) = u1 := by rw [← hu]; unfold oneS; dsimp only [zU.p, zU.ws, zU.ts, zU.op, zU.y, zU.r, zU.pend, zU.mb]; rw [if_neg (by omega), if_pos (by omega)]; rfl
      dsimp only [zU.p, zU.ws, zU.ts, zU.op, zU.y, zU.r, zU.pend, zU.mb] at hR ⊢
      rw [capN_id hmb, capN_id hts1.1, capN_id hwl.1] at hR ⊢
      refine zw_aload_n 0 rfl zd_PW_cutWord_173 ?_
      refine zw_iconst zd_PW_cutWord_174 ?_
      refine zw_aload_n 0 rfl zd_PW_cutWord_175 ?_
      refine zw_get zc_PW 2 5 rfl (by decide) zf_PW_46 rfl zd_PW_cutWord_176 ?_
      refine zw_callV (As := [.int (zI (1)), .int (zI (p0))]) (rest := []) (L2 := [zBRow ht (t) (nt), zWL hl (ws) (nw), zTS hs (ts) ([]) (nb) (n), zIRow ho (op.map zI) (64) (64), zNumA hn]) (L' := [zObj h 0 [.ref ht, .ref hl, .ref hs, .ref ho, .ref hn, .int (zI (p0)), .int (zI (1)), .int (zI (p0))], zBRow ht (t) (nt), zWL hl (ws) (nw), zTS hs (ts) ([]) (nb) (n), zIRow ho (op.map zI) (64) (64), zNumA hn]) (stk' := []) (c_PW_goWrong h ht hl hs ho hn p0 0 r0 1 p0) [2] [0, 1, 3, 4, 5] rfl rfl rfl zcal_PW_goWrong zl_PW_75 zin_PW_goWrong zse_PW_goWrong 0 rfl zRv_obj rfl (Nat.le_of_ble_eq_true rfl) (Nat.le_of_ble_eq_true rfl) (by omega) (by omega) rfl (Nat.le_of_ble_eq_true rfl) rfl rfl zd_PW_cutWord_179 ?_
      refine zw_goto 189 zd_PW_cutWord_182 (by decide) ?_
      exact zw_vret hR rfl rfl rfl (by omega) (by omega) zd_PW_cutWord_189
    by_cases k35_47 : (bget t p0) = 47
    · refine zw_lookup (off := 131) 166 (by omega) zd_PW_cutWord_35 (by decide) (by rw [k35_47]; rfl) (by decide) ?_
      by_cases he : 127 < rowE t (p0 + 1) - p0 - 1
      · -- too long
        obtain rfl : (⟨p0, ws, ts, op, 6, p0, [], mb⟩ : zU) = u1 := by rw [← hu]; unfold oneS; dsimp only [zU.p, zU.ws, zU.ts, zU.op, zU.y, zU.r, zU.pend, zU.mb]; rw [if_neg (by omega), if_neg (by omega), if_pos (by omega), if_pos he]; rfl
        dsimp only [zU.p, zU.ws, zU.ts, zU.op, zU.y, zU.r, zU.pend, zU.mb] at hR ⊢
        rw [capN_id hmb, capN_id hts1.1, capN_id hwl.1] at hR ⊢
        refine zw_aload_n 0 rfl zd_PW_cutWord_166 ?_
        refine zw_callV (As := []) (rest := []) (L2 := [zWL hl (ws) (nw), zTS hs (ts) ([]) (nb) (n), zIRow ho (op.map zI) (64) (64), zNumA hn]) (L' := [zObj h 0 [.ref ht, .ref hl, .ref hs, .ref ho, .ref hn, .int (zI (p0)), .int (zI (6)), .int (zI (p0))], zBRow ht (t) (nt), zWL hl (ws) (nw), zTS hs (ts) ([]) (nb) (n), zIRow ho (op.map zI) (64) (64), zNumA hn]) (stk' := []) (c_PW_itself_bad h ht hl hs ho hn t nt p0 0 r0 hp he) [2, 0] [1, 3, 4, 5] rfl rfl rfl zcal_PW_cutNameItself zl_PW_132 zin_PW_cutNameItself zse_PW_cutNameItself 0 rfl zRv_obj rfl (Nat.le_of_ble_eq_true rfl) (Nat.le_of_ble_eq_true rfl) (by omega) (by omega) rfl (Nat.le_of_ble_eq_true rfl) rfl rfl zd_PW_cutWord_167 ?_
        refine zw_goto 189 zd_PW_cutWord_170 (by decide) ?_
        exact zw_vret hR rfl rfl rfl (by omega) (by omega) zd_PW_cutWord_189
      · -- a name
        have hre := rowE_rg (t := t) (z := p0 + 1) (by omega)
        have hsl := slc_len (t := t) (a := p0 + 1) (b := rowE t (p0 + 1)) (by omega) (by omega) (by omega)
        have esl : ts.flatten.length + (slc t (p0 + 1) (rowE t (p0 + 1))).length = ts.flatten.length + (rowE t (p0 + 1) - (p0 + 1)).toNat := by omega
        obtain rfl : (⟨rowE t (p0 + 1), ws ++ [(zI 4, zI ((ixOf ts (slc t (p0 + 1) (rowE t (p0 + 1))) : Nat) : Int), zI p0)], addT ts (slc t (p0 + 1) (rowE t (p0 + 1))), op, 0, r0, [], max mb (ts.flatten.length + (slc t (p0 + 1) (rowE t (p0 + 1))).length)⟩ : zU) = u1 := by rw [← hu]; unfold oneS; dsimp only [zU.p, zU.ws, zU.ts, zU.op, zU.y, zU.r, zU.pend, zU.mb]; rw [if_neg (by omega), if_neg (by omega), if_pos (by omega), if_neg he]; rfl
        dsimp only [zU.p, zU.ws, zU.ts, zU.op, zU.y, zU.r, zU.pend, zU.mb] at hR ⊢
        simp only [List.length_append, List.length_singleton] at hR ⊢
        rw [cap_max hts2.2.1 hmb, esl] at hR ⊢
        refine zw_aload_n 0 rfl zd_PW_cutWord_166 ?_
        refine zw_callV (As := []) (rest := []) (L2 := [zIRow ho (op.map zI) (64) (64), zNumA hn]) (L' := [zObj h 0 [.ref ht, .ref hl, .ref hs, .ref ho, .ref hn, .int (zI (rowE t (p0 + 1))), .int (zI (0)), .int (zI (r0))], zBRow ht (t) (nt), zWL hl (ws ++ [(zI (4), zI ((ixOf ts (slc t (p0 + 1) (rowE t (p0 + 1))) : Nat) : Int), zI (p0))]) (capN nw (ws.length + 1)), zTS hs (addT ts (slc t (p0 + 1) (rowE t (p0 + 1)))) ([]) (capN nb (ts.flatten.length + (rowE t (p0 + 1) - (p0 + 1)).toNat)) (capN n (addT ts (slc t (p0 + 1) (rowE t (p0 + 1)))).length), zIRow ho (op.map zI) (64) (64), zNumA hn]) (stk' := []) (c_PW_itself_ok h ht hl hs ho hn t nt p0 0 r0 ws nw ts nb n hp hF (by omega) hw hs1) [2, 0, 1, 3] [4, 5] rfl rfl rfl zcal_PW_cutNameItself zl_PW_132 zin_PW_cutNameItself zse_PW_cutNameItself 0 rfl zRv_obj rfl (Nat.le_of_ble_eq_true rfl) (Nat.le_of_ble_eq_true rfl) (by omega) (by omega) rfl (Nat.le_of_ble_eq_true rfl) rfl rfl zd_PW_cutWord_167 ?_
        refine zw_goto 189 zd_PW_cutWord_170 (by decide) ?_
        exact zw_vret hR rfl rfl rfl (by omega) (by omega) zd_PW_cutWord_189
    by_cases k35_60 : (bget t p0) = 60
    · refine zw_lookup (off := 88) 123 (by omega) zd_PW_cutWord_35 (by decide) (by rw [k35_60]; rfl) (by decide) ?_
      by_cases hb2 : bget t (p0 + 1) = bget t p0
      · -- a name
        have hi2 := bget_in (l := t) (z := p0 + 1) (by omega)
        have hsl := slc_len (t := t) (a := p0) (b := p0 + 2) (by omega) (by omega) (by omega)
        have esl : ts.flatten.length + (slc t (p0) (p0 + 2)).length = ts.flatten.length + (p0 + 2 - (p0)).toNat := by omega
        obtain rfl : (⟨p0 + 2, ws ++ [(zI 3, zI ((ixOf ts (slc t p0 (p0 + 2)) : Nat) : Int), zI p0)], addT ts (slc t p0 (p0 + 2)), op, 0, r0, [], max mb (ts.flatten.length + (slc t p0 (p0 + 2)).length)⟩ : zU) = u1 := by rw [← hu]; unfold oneS; dsimp only [zU.p, zU.ws, zU.ts, zU.op, zU.y, zU.r, zU.pend, zU.mb]; rw [if_neg (by omega), if_neg (by omega), if_neg (by omega), if_pos (by omega), if_pos hb2]; rfl
        dsimp only [zU.p, zU.ws, zU.ts, zU.op, zU.y, zU.r, zU.pend, zU.mb] at hR ⊢
        simp only [List.length_append, List.length_singleton] at hR ⊢
        rw [cap_max hts2.2.1 hmb, esl] at hR ⊢
        refine zw_aload_n 0 rfl zd_PW_cutWord_123 ?_
        refine zw_callV (As := []) (rest := []) (L2 := [zIRow ho (op.map zI) (64) (64), zNumA hn]) (L' := [zObj h 0 [.ref ht, .ref hl, .ref hs, .ref ho, .ref hn, .int (zI (p0 + 2)), .int (zI (0)), .int (zI (r0))], zBRow ht (t) (nt), zWL hl (ws ++ [(zI (3), zI ((ixOf ts (slc t p0 (p0 + 2)) : Nat) : Int), zI (p0))]) (capN nw (ws.length + 1)), zTS hs (addT ts (slc t p0 (p0 + 2))) ([]) (capN nb (ts.flatten.length + (p0 + 2 - p0).toNat)) (capN n (addT ts (slc t p0 (p0 + 2))).length), zIRow ho (op.map zI) (64) (64), zNumA hn]) (stk' := []) (c_PW_angle_name h ht hl hs ho hn t nt p0 0 r0 ws nw ts nb n hp hF hb2 hw hs1) [2, 0, 1, 3] [4, 5] rfl rfl rfl zcal_PW_cutAngle zl_PW_119 zin_PW_cutAngle zse_PW_cutAngle 0 rfl zRv_obj rfl (Nat.le_of_ble_eq_true rfl) (Nat.le_of_ble_eq_true rfl) (by omega) (by omega) rfl (Nat.le_of_ble_eq_true rfl) rfl rfl zd_PW_cutWord_124 ?_
        refine zw_goto 189 zd_PW_cutWord_127 (by decide) ?_
        exact zw_vret hR rfl rfl rfl (by omega) (by omega) zd_PW_cutWord_189
      by_cases hb1 : bget t p0 = 60
      · -- pairs
        generalize hb : prS t t.length (p0 + 1) (-1) [] = z
        obtain ⟨xs, h1, wy, E⟩ := z
        have hpr := prS_rg _ _ _ _ (by omega) (by omega) hb
        rcases hpr.2.2.2.1 with hy | hy | hy
        · -- ok
          obtain rfl : (⟨E + 1, ws ++ [(zI 5, zI ((ixOf ts (prX xs h1) : Nat) : Int), zI p0)], addT ts (prX xs h1), op, 0, r0, [], max mb (ts.flatten.length + (prX xs h1).length)⟩ : zU) = u1 := by rw [← hu]; unfold oneS; dsimp only [zU.p, zU.ws, zU.ts, zU.op, zU.y, zU.r, zU.pend, zU.mb]; rw [if_neg (by omega), if_neg (by omega), if_neg (by omega), if_pos (by omega), if_neg hb2, if_pos hb1, hb]; unfold prsS txS; dsimp only [zU.p, zU.ws, zU.ts, zU.op, zU.y, zU.r, zU.pend, zU.mb]; rw [if_pos hy]
          dsimp only [zU.p, zU.ws, zU.ts, zU.op, zU.y, zU.r, zU.pend, zU.mb] at hR ⊢
          simp only [List.length_append, List.length_singleton] at hR ⊢
          rw [cap_max hts2.2.1 hmb] at hR ⊢
          refine zw_aload_n 0 rfl zd_PW_cutWord_123 ?_
          refine zw_callV (As := []) (rest := []) (L2 := [zIRow ho (op.map zI) (64) (64), zNumA hn]) (L' := [zObj h 0 [.ref ht, .ref hl, .ref hs, .ref ho, .ref hn, .int (zI (E + 1)), .int (zI (0)), .int (zI (r0))], zBRow ht (t) (nt), zWL hl (ws ++ [(zI 5, zI ((ixOf ts (prX xs h1) : Nat) : Int), zI p0)]) (capN nw (ws.length + 1)), zTS hs (addT ts (prX xs h1)) ([]) (capN nb (ts.flatten.length + (prX xs h1).length)) (capN n (addT ts (prX xs h1)).length), zIRow ho (op.map zI) (64) (64), zNumA hn]) (stk' := []) (c_PW_angle_ok h ht hl hs ho hn t nt p0 0 r0 ws nw ts nb n hp hF hb1 hb2 xs h1 wy E hb hy hw hs1) [2, 0, 1, 3] [4, 5] rfl rfl rfl zcal_PW_cutAngle zl_PW_119 zin_PW_cutAngle zse_PW_cutAngle 0 rfl zRv_obj rfl (Nat.le_of_ble_eq_true rfl) (Nat.le_of_ble_eq_true rfl) (by omega) (by omega) rfl (Nat.le_of_ble_eq_true rfl) rfl rfl zd_PW_cutWord_124 ?_
          refine zw_goto 189 zd_PW_cutWord_127 (by decide) ?_
          exact zw_vret hR rfl rfl rfl (by omega) (by omega) zd_PW_cutWord_189
        · -- bad2
          obtain rfl : (⟨t.length, ws, ts, op, 2, t.length, prX xs h1, max mb (ts.flatten.length + (prX xs h1).length)⟩ : zU) = u1 := by rw [← hu]; unfold oneS; dsimp only [zU.p, zU.ws, zU.ts, zU.op, zU.y, zU.r, zU.pend, zU.mb]; rw [if_neg (by omega), if_neg (by omega), if_neg (by omega), if_pos (by omega), if_neg hb2, if_pos hb1, hb]; unfold prsS; dsimp only [zU.p, zU.ws, zU.ts, zU.op, zU.y, zU.r, zU.pend, zU.mb]; rw [if_neg (by omega), if_pos hy]
          dsimp only [zU.p, zU.ws, zU.ts, zU.op, zU.y, zU.r, zU.pend, zU.mb] at hR ⊢
          rw [cap_max hts2.2.1 hmb, capN_id hts1.1, capN_id hwl.1] at hR ⊢
          refine zw_aload_n 0 rfl zd_PW_cutWord_123 ?_
          refine zw_callV (As := []) (rest := []) (L2 := [zIRow ho (op.map zI) (64) (64), zNumA hn]) (L' := [zObj h 0 [.ref ht, .ref hl, .ref hs, .ref ho, .ref hn, .int (zI (((t.length : Nat) : Int))), .int (zI (2)), .int (zI (((t.length : Nat) : Int)))], zBRow ht (t) (nt), zWL hl (ws) (nw), zTS hs (ts) (prX xs h1) (capN nb (ts.flatten.length + (prX xs h1).length)) (n), zIRow ho (op.map zI) (64) (64), zNumA hn]) (stk' := []) (c_PW_angle_bad2 h ht hl hs ho hn t nt p0 0 r0 ws nw ts nb n hp hF hb1 hb2 xs h1 wy E hb hy) [2, 0, 1, 3] [4, 5] rfl rfl rfl zcal_PW_cutAngle zl_PW_119 zin_PW_cutAngle zse_PW_cutAngle 0 rfl zRv_obj rfl (Nat.le_of_ble_eq_true rfl) (Nat.le_of_ble_eq_true rfl) (by omega) (by omega) rfl (Nat.le_of_ble_eq_true rfl) rfl rfl zd_PW_cutWord_124 ?_
          refine zw_goto 189 zd_PW_cutWord_127 (by decide) ?_
          exact zw_vret hR rfl rfl rfl (by omega) (by omega) zd_PW_cutWord_189
        · -- bad3
          obtain rfl : (⟨E, ws, ts, op, 3, E, xs, max mb (ts.flatten.length + xs.length)⟩ : zU) = u1 := by rw [← hu]; unfold oneS; dsimp only [zU.p, zU.ws, zU.ts, zU.op, zU.y, zU.r, zU.pend, zU.mb]; rw [if_neg (by omega), if_neg (by omega), if_neg (by omega), if_pos (by omega), if_neg hb2, if_pos hb1, hb]; unfold prsS; dsimp only [zU.p, zU.ws, zU.ts, zU.op, zU.y, zU.r, zU.pend, zU.mb]; rw [if_neg (by omega), if_neg (by omega)]
          dsimp only [zU.p, zU.ws, zU.ts, zU.op, zU.y, zU.r, zU.pend, zU.mb] at hR ⊢
          rw [cap_max hts2.2.1 hmb, capN_id hts1.1, capN_id hwl.1] at hR ⊢
          refine zw_aload_n 0 rfl zd_PW_cutWord_123 ?_
          refine zw_callV (As := []) (rest := []) (L2 := [zIRow ho (op.map zI) (64) (64), zNumA hn]) (L' := [zObj h 0 [.ref ht, .ref hl, .ref hs, .ref ho, .ref hn, .int (zI (E)), .int (zI (3)), .int (zI (E))], zBRow ht (t) (nt), zWL hl (ws) (nw), zTS hs (ts) (xs) (capN nb (ts.flatten.length + xs.length)) (n), zIRow ho (op.map zI) (64) (64), zNumA hn]) (stk' := []) (c_PW_angle_bad3 h ht hl hs ho hn t nt p0 0 r0 ws nw ts nb n hp hF hb1 hb2 xs h1 wy E hb hy) [2, 0, 1, 3] [4, 5] rfl rfl rfl zcal_PW_cutAngle zl_PW_119 zin_PW_cutAngle zse_PW_cutAngle 0 rfl zRv_obj rfl (Nat.le_of_ble_eq_true rfl) (Nat.le_of_ble_eq_true rfl) (by omega) (by omega) rfl (Nat.le_of_ble_eq_true rfl) rfl rfl zd_PW_cutWord_124 ?_
          refine zw_goto 189 zd_PW_cutWord_127 (by decide) ?_
          exact zw_vret hR rfl rfl rfl (by omega) (by omega) zd_PW_cutWord_189
      · -- nothing to close
        obtain rfl : (⟨p0, ws, ts, op, 1, p0, [], mb⟩ : zU) = u1 := by rw [← hu]; unfold oneS; dsimp only [zU.p, zU.ws, zU.ts, zU.op, zU.y, zU.r, zU.pend, zU.mb]; rw [if_neg (by omega), if_neg (by omega), if_neg (by omega), if_pos (by omega), if_neg hb2, if_neg hb1]; rfl
        dsimp only [zU.p, zU.ws, zU.ts, zU.op, zU.y, zU.r, zU.pend, zU.mb] at hR ⊢
        rw [capN_id hmb, capN_id hts1.1, capN_id hwl.1] at hR ⊢
        refine zw_aload_n 0 rfl zd_PW_cutWord_123 ?_
        refine zw_callV (As := []) (rest := []) (L2 := [zWL hl (ws) (nw), zTS hs (ts) ([]) (nb) (n), zIRow ho (op.map zI) (64) (64), zNumA hn]) (L' := [zObj h 0 [.ref ht, .ref hl, .ref hs, .ref ho, .ref hn, .int (zI (p0)), .int (zI (1)), .int (zI (p0))], zBRow ht (t) (nt), zWL hl (ws) (nw), zTS hs (ts) ([]) (nb) (n), zIRow ho (op.map zI) (64) (64), zNumA hn]) (stk' := []) (c_PW_angle_bad1 h ht hl hs ho hn t nt p0 0 r0 hp hb1 hb2) [2, 0] [1, 3, 4, 5] rfl rfl rfl zcal_PW_cutAngle zl_PW_119 zin_PW_cutAngle zse_PW_cutAngle 0 rfl zRv_obj rfl (Nat.le_of_ble_eq_true rfl) (Nat.le_of_ble_eq_true rfl) (by omega) (by omega) rfl (Nat.le_of_ble_eq_true rfl) rfl rfl zd_PW_cutWord_124 ?_
        refine zw_goto 189 zd_PW_cutWord_127 (by decide) ?_
        exact zw_vret hR rfl rfl rfl (by omega) (by omega) zd_PW_cutWord_189
    by_cases k35_62 : (bget t p0) = 62
    · refine zw_lookup (off := 88) 123 (by omega) zd_PW_cutWord_35 (by decide) (by rw [k35_62]; rfl) (by decide) ?_
      by_cases hb2 : bget t (p0 + 1) = bget t p0
      · -- a name
        have hi2 := bget_in (l := t) (z := p0 + 1) (by omega)
        have hsl := slc_len (t := t) (a := p0) (b := p0 + 2) (by omega) (by omega) (by omega)
        have esl : ts.flatten.length + (slc t (p0) (p0 + 2)).length = ts.flatten.length + (p0 + 2 - (p0)).toNat := by omega
        obtain rfl : (⟨p0 + 2, ws ++ [(zI 3, zI ((ixOf ts (slc t p0 (p0 + 2)) : Nat) : Int), zI p0)], addT ts (slc t p0 (p0 + 2)), op, 0, r0, [], max mb (ts.flatten.length + (slc t p0 (p0 + 2)).length)⟩ : zU) = u1 := by rw [← hu]; unfold oneS; dsimp only [zU.p, zU.ws, zU.ts, zU.op, zU.y, zU.r, zU.pend, zU.mb]; rw [if_neg (by omega), if_neg (by omega), if_neg (by omega), if_pos (by omega), if_pos hb2]; rfl
        dsimp only [zU.p, zU.ws, zU.ts, zU.op, zU.y, zU.r, zU.pend, zU.mb] at hR ⊢
        simp only [List.length_append, List.length_singleton] at hR ⊢
        rw [cap_max hts2.2.1 hmb, esl] at hR ⊢
        refine zw_aload_n 0 rfl zd_PW_cutWord_123 ?_
        refine zw_callV (As := []) (rest := []) (L2 := [zIRow ho (op.map zI) (64) (64), zNumA hn]) (L' := [zObj h 0 [.ref ht, .ref hl, .ref hs, .ref ho, .ref hn, .int (zI (p0 + 2)), .int (zI (0)), .int (zI (r0))], zBRow ht (t) (nt), zWL hl (ws ++ [(zI (3), zI ((ixOf ts (slc t p0 (p0 + 2)) : Nat) : Int), zI (p0))]) (capN nw (ws.length + 1)), zTS hs (addT ts (slc t p0 (p0 + 2))) ([]) (capN nb (ts.flatten.length + (p0 + 2 - p0).toNat)) (capN n (addT ts (slc t p0 (p0 + 2))).length), zIRow ho (op.map zI) (64) (64), zNumA hn]) (stk' := []) (c_PW_angle_name h ht hl hs ho hn t nt p0 0 r0 ws nw ts nb n hp hF hb2 hw hs1) [2, 0, 1, 3] [4, 5] rfl rfl rfl zcal_PW_cutAngle zl_PW_119 zin_PW_cutAngle zse_PW_cutAngle 0 rfl zRv_obj rfl (Nat.le_of_ble_eq_true rfl) (Nat.le_of_ble_eq_true rfl) (by omega) (by omega) rfl (Nat.le_of_ble_eq_true rfl) rfl rfl zd_PW_cutWord_124 ?_
        refine zw_goto 189 zd_PW_cutWord_127 (by decide) ?_
        exact zw_vret hR rfl rfl rfl (by omega) (by omega) zd_PW_cutWord_189
      by_cases hb1 : bget t p0 = 60
      · -- pairs
        generalize hb : prS t t.length (p0 + 1) (-1) [] = z
        obtain ⟨xs, h1, wy, E⟩ := z
        have hpr := prS_rg _ _ _ _ (by omega) (by omega) hb
        rcases hpr.2.2.2.1 with hy | hy | hy
        · -- ok
          obtain rfl : (⟨E + 1, ws ++ [(zI 5, zI ((ixOf ts (prX xs h1) : Nat) : Int), zI p0)], addT ts (prX xs h1), op, 0, r0, [], max mb (ts.flatten.length + (prX xs h1).length)⟩ : zU) = u1 := by rw [← hu]; unfold oneS; dsimp only [zU.p, zU.ws, zU.ts, zU.op, zU.y, zU.r, zU.pend, zU.mb]; rw [if_neg (by omega), if_neg (by omega), if_neg (by omega), if_pos (by omega), if_neg hb2, if_pos hb1, hb]; unfold prsS txS; dsimp only [zU.p, zU.ws, zU.ts, zU.op, zU.y, zU.r, zU.pend, zU.mb]; rw [if_pos hy]
          dsimp only [zU.p, zU.ws, zU.ts, zU.op, zU.y, zU.r, zU.pend, zU.mb] at hR ⊢
          simp only [List.length_append, List.length_singleton] at hR ⊢
          rw [cap_max hts2.2.1 hmb] at hR ⊢
          refine zw_aload_n 0 rfl zd_PW_cutWord_123 ?_
          refine zw_callV (As := []) (rest := []) (L2 := [zIRow ho (op.map zI) (64) (64), zNumA hn]) (L' := [zObj h 0 [.ref ht, .ref hl, .ref hs, .ref ho, .ref hn, .int (zI (E + 1)), .int (zI (0)), .int (zI (r0))], zBRow ht (t) (nt), zWL hl (ws ++ [(zI 5, zI ((ixOf ts (prX xs h1) : Nat) : Int), zI p0)]) (capN nw (ws.length + 1)), zTS hs (addT ts (prX xs h1)) ([]) (capN nb (ts.flatten.length + (prX xs h1).length)) (capN n (addT ts (prX xs h1)).length), zIRow ho (op.map zI) (64) (64), zNumA hn]) (stk' := []) (c_PW_angle_ok h ht hl hs ho hn t nt p0 0 r0 ws nw ts nb n hp hF hb1 hb2 xs h1 wy E hb hy hw hs1) [2, 0, 1, 3] [4, 5] rfl rfl rfl zcal_PW_cutAngle zl_PW_119 zin_PW_cutAngle zse_PW_cutAngle 0 rfl zRv_obj rfl (Nat.le_of_ble_eq_true rfl) (Nat.le_of_ble_eq_true rfl) (by omega) (by omega) rfl (Nat.le_of_ble_eq_true rfl) rfl rfl zd_PW_cutWord_124 ?_
          refine zw_goto 189 zd_PW_cutWord_127 (by decide) ?_
          exact zw_vret hR rfl rfl rfl (by omega) (by omega) zd_PW_cutWord_189
        · -- bad2
          obtain rfl : (⟨t.length, ws, ts, op, 2, t.length, prX xs h1, max mb (ts.flatten.length + (prX xs h1).length)⟩ : zU) = u1 := by rw [← hu]; unfold oneS; dsimp only [zU.p, zU.ws, zU.ts, zU.op, zU.y, zU.r, zU.pend, zU.mb]; rw [if_neg (by omega), if_neg (by omega), if_neg (by omega), if_pos (by omega), if_neg hb2, if_pos hb1, hb]; unfold prsS; dsimp only [zU.p, zU.ws, zU.ts, zU.op, zU.y, zU.r, zU.pend, zU.mb]; rw [if_neg (by omega), if_pos hy]
          dsimp only [zU.p, zU.ws, zU.ts, zU.op, zU.y, zU.r, zU.pend, zU.mb] at hR ⊢
          rw [cap_max hts2.2.1 hmb, capN_id hts1.1, capN_id hwl.1] at hR ⊢
          refine zw_aload_n 0 rfl zd_PW_cutWord_123 ?_
          refine zw_callV (As := []) (rest := []) (L2 := [zIRow ho (op.map zI) (64) (64), zNumA hn]) (L' := [zObj h 0 [.ref ht, .ref hl, .ref hs, .ref ho, .ref hn, .int (zI (((t.length : Nat) : Int))), .int (zI (2)), .int (zI (((t.length : Nat) : Int)))], zBRow ht (t) (nt), zWL hl (ws) (nw), zTS hs (ts) (prX xs h1) (capN nb (ts.flatten.length + (prX xs h1).length)) (n), zIRow ho (op.map zI) (64) (64), zNumA hn]) (stk' := []) (c_PW_angle_bad2 h ht hl hs ho hn t nt p0 0 r0 ws nw ts nb n hp hF hb1 hb2 xs h1 wy E hb hy) [2, 0, 1, 3] [4, 5] rfl rfl rfl zcal_PW_cutAngle zl_PW_119 zin_PW_cutAngle zse_PW_cutAngle 0 rfl zRv_obj rfl (Nat.le_of_ble_eq_true rfl) (Nat.le_of_ble_eq_true rfl) (by omega) (by omega) rfl (Nat.le_of_ble_eq_true rfl) rfl rfl zd_PW_cutWord_124 ?_
          refine zw_goto 189 zd_PW_cutWord_127 (by decide) ?_
          exact zw_vret hR rfl rfl rfl (by omega) (by omega) zd_PW_cutWord_189
        · -- bad3
          obtain rfl : (⟨E, ws, ts, op, 3, E, xs, max mb (ts.flatten.length + xs.length)⟩ : zU) = u1 := by rw [← hu]; unfold oneS; dsimp only [zU.p, zU.ws, zU.ts, zU.op, zU.y, zU.r, zU.pend, zU.mb]; rw [if_neg (by omega), if_neg (by omega), if_neg (by omega), if_pos (by omega), if_neg hb2, if_pos hb1, hb]; unfold prsS; dsimp only [zU.p, zU.ws, zU.ts, zU.op, zU.y, zU.r, zU.pend, zU.mb]; rw [if_neg (by omega), if_neg (by omega)]
          dsimp only [zU.p, zU.ws, zU.ts, zU.op, zU.y, zU.r, zU.pend, zU.mb] at hR ⊢
          rw [cap_max hts2.2.1 hmb, capN_id hts1.1, capN_id hwl.1] at hR ⊢
          refine zw_aload_n 0 rfl zd_PW_cutWord_123 ?_
          refine zw_callV (As := []) (rest := []) (L2 := [zIRow ho (op.map zI) (64) (64), zNumA hn]) (L' := [zObj h 0 [.ref ht, .ref hl, .ref hs, .ref ho, .ref hn, .int (zI (E)), .int (zI (3)), .int (zI (E))], zBRow ht (t) (nt), zWL hl (ws) (nw), zTS hs (ts) (xs) (capN nb (ts.flatten.length + xs.length)) (n), zIRow ho (op.map zI) (64) (64), zNumA hn]) (stk' := []) (c_PW_angle_bad3 h ht hl hs ho hn t nt p0 0 r0 ws nw ts nb n hp hF hb1 hb2 xs h1 wy E hb hy) [2, 0, 1, 3] [4, 5] rfl rfl rfl zcal_PW_cutAngle zl_PW_119 zin_PW_cutAngle zse_PW_cutAngle 0 rfl zRv_obj rfl (Nat.le_of_ble_eq_true rfl) (Nat.le_of_ble_eq_true rfl) (by omega) (by omega) rfl (Nat.le_of_ble_eq_true rfl) rfl rfl zd_PW_cutWord_124 ?_
          refine zw_goto 189 zd_PW_cutWord_127 (by decide) ?_
          exact zw_vret hR rfl rfl rfl (by omega) (by omega) zd_PW_cutWord_189
      · -- nothing to close
        obtain rfl : (⟨p0, ws, ts, op, 1, p0, [], mb⟩ : zU) = u1 := by rw [← hu]; unfold oneS; dsimp only [zU.p, zU.ws, zU.ts, zU.op, zU.y, zU.r, zU.pend, zU.mb]; rw [if_neg (by omega), if_neg (by omega), if_neg (by omega), if_pos (by omega), if_neg hb2, if_neg hb1]; rfl
        dsimp only [zU.p, zU.ws, zU.ts, zU.op, zU.y, zU.r, zU.pend, zU.mb] at hR ⊢
        rw [capN_id hmb, capN_id hts1.1, capN_id hwl.1] at hR ⊢
        refine zw_aload_n 0 rfl zd_PW_cutWord_123 ?_
        refine zw_callV (As := []) (rest := []) (L2 := [zWL hl (ws) (nw), zTS hs (ts) ([]) (nb) (n), zIRow ho (op.map zI) (64) (64), zNumA hn]) (L' := [zObj h 0 [.ref ht, .ref hl, .ref hs, .ref ho, .ref hn, .int (zI (p0)), .int (zI (1)), .int (zI (p0))], zBRow ht (t) (nt), zWL hl (ws) (nw), zTS hs (ts) ([]) (nb) (n), zIRow ho (op.map zI) (64) (64), zNumA hn]) (stk' := []) (c_PW_angle_bad1 h ht hl hs ho hn t nt p0 0 r0 hp hb1 hb2) [2, 0] [1, 3, 4, 5] rfl rfl rfl zcal_PW_cutAngle zl_PW_119 zin_PW_cutAngle zse_PW_cutAngle 0 rfl zRv_obj rfl (Nat.le_of_ble_eq_true rfl) (Nat.le_of_ble_eq_true rfl) (by omega) (by omega) rfl (Nat.le_of_ble_eq_true rfl) rfl rfl zd_PW_cutWord_124 ?_
        refine zw_goto 189 zd_PW_cutWord_127 (by decide) ?_
        exact zw_vret hR rfl rfl rfl (by omega) (by omega) zd_PW_cutWord_189
    by_cases k35_91 : (bget t p0) = 91
    · refine zw_lookup (off := 95) 130 (by omega) zd_PW_cutWord_35 (by decide) (by rw [k35_91]; rfl) (by decide) ?_
      have hsl := slc_len (t := t) (a := p0) (b := p0 + 1) (by omega) (by omega) (by omega)
      have esl : ts.flatten.length + (slc t (p0) (p0 + 1)).length = ts.flatten.length + (p0 + 1 - (p0)).toNat := by omega
      obtain rfl : (⟨p0 + 1, ws ++ [(zI 3, zI ((ixOf ts (slc t p0 (p0 + 1)) : Nat) : Int), zI p0)], addT ts (slc t p0 (p0 + 1)), op, 0, r0, [], max mb (ts.flatten.length + (slc t p0 (p0 + 1)).length)⟩ : zU) = u1 := by rw [← hu]; unfold oneS; dsimp only [zU.p, zU.ws, zU.ts, zU.op, zU.y, zU.r, zU.pend, zU.mb]; rw [if_neg (by omega), if_neg (by omega), if_neg (by omega), if_neg (by omega), if_pos (by omega)]; rfl
      dsimp only [zU.p, zU.ws, zU.ts, zU.op, zU.y, zU.r, zU.pend, zU.mb] at hR ⊢
      simp only [List.length_append, List.length_singleton] at hR ⊢
      rw [cap_max hts2.2.1 hmb, esl] at hR ⊢
      refine zw_aload_n 0 rfl zd_PW_cutWord_130 ?_
      refine zw_iconst zd_PW_cutWord_131 ?_
      refine zw_aload_n 0 rfl zd_PW_cutWord_132 ?_
      refine zw_get zc_PW 2 5 rfl (by decide) zf_PW_46 rfl zd_PW_cutWord_133 ?_
      refine zw_aload_n 0 rfl zd_PW_cutWord_136 ?_
      refine zw_get zc_PW 2 5 rfl (by decide) zf_PW_46 rfl zd_PW_cutWord_137 ?_
      refine zw_aload_n 0 rfl zd_PW_cutWord_140 ?_
      refine zw_get zc_PW 2 5 rfl (by decide) zf_PW_46 rfl zd_PW_cutWord_141 ?_
      refine zw_iconst zd_PW_cutWord_144 ?_
      refine zw_iadd zd_PW_cutWord_145 ?_
      refine zw_callV (As := [.int (zI (3)), .int (zI (p0)), .int (zI (p0)), .int (zI (p0 + 1))]) (rest := []) (L2 := [zIRow ho (op.map zI) (64) (64), zNumA hn]) (L' := [zObj h 0 [.ref ht, .ref hl, .ref hs, .ref ho, .ref hn, .int (zI (p0 + 1)), .int (zI (0)), .int (zI (r0))], zBRow ht (t) (nt), zWL hl (ws ++ [(zI (3), zI ((ixOf ts (slc t p0 (p0 + 1)) : Nat) : Int), zI (p0))]) (capN nw (ws.length + 1)), zTS hs (addT ts (slc t p0 (p0 + 1))) ([]) (capN nb (ts.flatten.length + (p0 + 1 - p0).toNat)) (capN n (addT ts (slc t p0 (p0 + 1))).length), zIRow ho (op.map zI) (64) (64), zNumA hn]) (stk' := []) (c_PW_addName h ht hl hs ho hn t nt p0 0 r0 ws nw ts nb n 3 p0 p0 (p0 + 1) (by omega) (by omega) (by omega) (by omega)) [2, 0, 1, 3] [4, 5] rfl rfl rfl zcal_PW_addName zl_PW_122 zin_PW_addName zse_PW_addName 0 rfl zRv_obj rfl (Nat.le_of_ble_eq_true rfl) (Nat.le_of_ble_eq_true rfl) (by omega) (by omega) rfl (Nat.le_of_ble_eq_true rfl) rfl rfl zd_PW_cutWord_146 ?_
      refine zw_goto 189 zd_PW_cutWord_149 (by decide) ?_
      exact zw_vret hR rfl rfl rfl (by omega) (by omega) zd_PW_cutWord_189
    by_cases k35_93 : (bget t p0) = 93
    · refine zw_lookup (off := 95) 130 (by omega) zd_PW_cutWord_35 (by decide) (by rw [k35_93]; rfl) (by decide) ?_
      have hsl := slc_len (t := t) (a := p0) (b := p0 + 1) (by omega) (by omega) (by omega)
      have esl : ts.flatten.length + (slc t (p0) (p0 + 1)).length = ts.flatten.length + (p0 + 1 - (p0)).toNat := by omega
      obtain rfl : (⟨p0 + 1, ws ++ [(zI 3, zI ((ixOf ts (slc t p0 (p0 + 1)) : Nat) : Int), zI p0)], addT ts (slc t p0 (p0 + 1)), op, 0, r0, [], max mb (ts.flatten.length + (slc t p0 (p0 + 1)).length)⟩ : zU) = u1 := by rw [← hu]; unfold oneS; dsimp only [zU.p, zU.ws, zU.ts, zU.op, zU.y, zU.r, zU.pend, zU.mb]; rw [if_neg (by omega), if_neg (by omega), if_neg (by omega), if_neg (by omega), if_pos (by omega)]; rfl
      dsimp only [zU.p, zU.ws, zU.ts, zU.op, zU.y, zU.r, zU.pend, zU.mb] at hR ⊢
      simp only [List.length_append, List.length_singleton] at hR ⊢
      rw [cap_max hts2.2.1 hmb, esl] at hR ⊢
      refine zw_aload_n 0 rfl zd_PW_cutWord_130 ?_
      refine zw_iconst zd_PW_cutWord_131 ?_
      refine zw_aload_n 0 rfl zd_PW_cutWord_132 ?_
      refine zw_get zc_PW 2 5 rfl (by decide) zf_PW_46 rfl zd_PW_cutWord_133 ?_
      refine zw_aload_n 0 rfl zd_PW_cutWord_136 ?_
      refine zw_get zc_PW 2 5 rfl (by decide) zf_PW_46 rfl zd_PW_cutWord_137 ?_
      refine zw_aload_n 0 rfl zd_PW_cutWord_140 ?_
      refine zw_get zc_PW 2 5 rfl (by decide) zf_PW_46 rfl zd_PW_cutWord_141 ?_
      refine zw_iconst zd_PW_cutWord_144 ?_
      refine zw_iadd zd_PW_cutWord_145 ?_
      refine zw_callV (As := [.int (zI (3)), .int (zI (p0)), .int (zI (p0)), .int (zI (p0 + 1))]) (rest := []) (L2 := [zIRow ho (op.map zI) (64) (64), zNumA hn]) (L' := [zObj h 0 [.ref ht, .ref hl, .ref hs, .ref ho, .ref hn, .int (zI (p0 + 1)), .int (zI (0)), .int (zI (r0))], zBRow ht (t) (nt), zWL hl (ws ++ [(zI (3), zI ((ixOf ts (slc t p0 (p0 + 1)) : Nat) : Int), zI (p0))]) (capN nw (ws.length + 1)), zTS hs (addT ts (slc t p0 (p0 + 1))) ([]) (capN nb (ts.flatten.length + (p0 + 1 - p0).toNat)) (capN n (addT ts (slc t p0 (p0 + 1))).length), zIRow ho (op.map zI) (64) (64), zNumA hn]) (stk' := []) (c_PW_addName h ht hl hs ho hn t nt p0 0 r0 ws nw ts nb n 3 p0 p0 (p0 + 1) (by omega) (by omega) (by omega) (by omega)) [2, 0, 1, 3] [4, 5] rfl rfl rfl zcal_PW_addName zl_PW_122 zin_PW_addName zse_PW_addName 0 rfl zRv_obj rfl (Nat.le_of_ble_eq_true rfl) (Nat.le_of_ble_eq_true rfl) (by omega) (by omega) rfl (Nat.le_of_ble_eq_true rfl) rfl rfl zd_PW_cutWord_146 ?_
      refine zw_goto 189 zd_PW_cutWord_149 (by decide) ?_
      exact zw_vret hR rfl rfl rfl (by omega) (by omega) zd_PW_cutWord_189
    by_cases k35_123 : (bget t p0) = 123
    · refine zw_lookup (off := 117) 152 (by omega) zd_PW_cutWord_35 (by decide) (by rw [k35_123]; rfl) (by decide) ?_
      by_cases ho6 : op.length < 64
      · -- room
        obtain rfl : (⟨p0 + 1, ws ++ [(zI 6, zI (-1), zI p0)], ts, op ++ [((ws.length : Nat) : Int)], 0, r0, [], mb⟩ : zU) = u1 := by rw [← hu]; unfold oneS; dsimp only [zU.p, zU.ws, zU.ts, zU.op, zU.y, zU.r, zU.pend, zU.mb]; rw [if_neg (by omega), if_neg (by omega), if_neg (by omega), if_neg (by omega), if_neg (by omega), if_pos (by omega)]; unfold opnS; dsimp only [zU.p, zU.ws, zU.ts, zU.op, zU.y, zU.r, zU.pend, zU.mb]; rw [if_pos ho6]
        dsimp only [zU.p, zU.ws, zU.ts, zU.op, zU.y, zU.r, zU.pend, zU.mb] at hR ⊢
        simp only [List.length_append, List.length_singleton] at hR ⊢
        rw [capN_id hmb, capN_id hts1.1] at hR ⊢
        refine zw_aload_n 0 rfl zd_PW_cutWord_152 ?_
        refine zw_callV (As := []) (rest := []) (L2 := [zBRow ht (t) (nt), zTS hs (ts) ([]) (nb) (n), zNumA hn]) (L' := [zObj h 0 [.ref ht, .ref hl, .ref hs, .ref ho, .ref hn, .int (zI (p0 + 1)), .int (zI (0)), .int (zI (r0))], zWL hl (ws ++ [(zI 6, zI (-1), zI p0)]) (capN nw (ws.length + 1)), zIRow ho ((op ++ [((ws.length : Nat) : Int)]).map zI) (64) (64), zBRow ht (t) (nt), zTS hs (ts) ([]) (nb) (n), zNumA hn]) (stk' := []) (c_PW_open_ok h ht hl hs ho hn p0 0 r0 ws nw op (by omega) ho6 hw) [2, 1, 4] [0, 3, 5] rfl rfl rfl zcal_PW_cutOpenBrace zl_PW_126 zin_PW_cutOpenBrace zse_PW_cutOpenBrace 0 rfl zRv_obj rfl (Nat.le_of_ble_eq_true rfl) (Nat.le_of_ble_eq_true rfl) (by omega) (by omega) rfl (Nat.le_of_ble_eq_true rfl) rfl rfl zd_PW_cutWord_153 ?_
        refine zw_goto 189 zd_PW_cutWord_156 (by decide) ?_
        refine zw_sub (L' := [zObj h 0 [.ref ht, .ref hl, .ref hs, .ref ho, .ref hn, .int (zI (p0 + 1)), .int (zI (0)), .int (zI (r0))], zBRow ht (t) (nt), zWL hl (ws ++ [(zI 6, zI (-1), zI p0)]) (capN nw (ws.length + 1)), zTS hs (ts) ([]) (nb) (n), zIRow ho ((op ++ [((ws.length : Nat) : Int)]).map zI) (64) (64), zNumA hn]) [0, 3, 1, 4, 2, 5] rfl rfl ?_
        exact zw_vret hR rfl rfl rfl (by omega) (by omega) zd_PW_cutWord_189
      · -- too deep
        obtain rfl : (⟨p0, ws, ts, op, 7, p0, [], mb⟩ : zU) = u1 := by rw [← hu]; unfold oneS; dsimp only [zU.p, zU.ws, zU.ts, zU.op, zU.y, zU.r, zU.pend, zU.mb]; rw [if_neg (by omega), if_neg (by omega), if_neg (by omega), if_neg (by omega), if_neg (by omega), if_pos (by omega)]; unfold opnS; dsimp only [zU.p, zU.ws, zU.ts, zU.op, zU.y, zU.r, zU.pend, zU.mb]; rw [if_neg ho6]; rfl
        dsimp only [zU.p, zU.ws, zU.ts, zU.op, zU.y, zU.r, zU.pend, zU.mb] at hR ⊢
        rw [capN_id hmb, capN_id hts1.1, capN_id hwl.1] at hR ⊢
        refine zw_aload_n 0 rfl zd_PW_cutWord_152 ?_
        refine zw_callV (As := []) (rest := []) (L2 := [zBRow ht (t) (nt), zWL hl (ws) (nw), zTS hs (ts) ([]) (nb) (n), zNumA hn]) (L' := [zObj h 0 [.ref ht, .ref hl, .ref hs, .ref ho, .ref hn, .int (zI (p0)), .int (zI (7)), .int (zI (p0))], zIRow ho (op.map zI) (64) (64), zBRow ht (t) (nt), zWL hl (ws) (nw), zTS hs (ts) ([]) (nb) (n), zNumA hn]) (stk' := []) (c_PW_open_bad h ht hl hs ho hn p0 0 r0 op (by omega)) [2, 4] [0, 1, 3, 5] rfl rfl rfl zcal_PW_cutOpenBrace zl_PW_126 zin_PW_cutOpenBrace zse_PW_cutOpenBrace 0 rfl zRv_obj rfl (Nat.le_of_ble_eq_true rfl) (Nat.le_of_ble_eq_true rfl) (by omega) (by omega) rfl (Nat.le_of_ble_eq_true rfl) rfl rfl zd_PW_cutWord_153 ?_
        refine zw_goto 189 zd_PW_cutWord_156 (by decide) ?_
        refine zw_sub (L' := [zObj h 0 [.ref ht, .ref hl, .ref hs, .ref ho, .ref hn, .int (zI (p0)), .int (zI (7)), .int (zI (p0))], zBRow ht (t) (nt), zWL hl (ws) (nw), zTS hs (ts) ([]) (nb) (n), zIRow ho (op.map zI) (64) (64), zNumA hn]) [0, 2, 3, 4, 1, 5] rfl rfl ?_
        exact zw_vret hR rfl rfl rfl (by omega) (by omega) zd_PW_cutWord_189
    by_cases k35_125 : (bget t p0) = 125
    · refine zw_lookup (off := 124) 159 (by omega) zd_PW_cutWord_35 (by decide) (by rw [k35_125]; rfl) (by decide) ?_
      by_cases ho6 : op.length = 0
      · -- alone
        obtain rfl : (⟨p0, ws, ts, op, 4, p0, [], mb⟩ : zU) = u1 := by rw [← hu]; unfold oneS; dsimp only [zU.p, zU.ws, zU.ts, zU.op, zU.y, zU.r, zU.pend, zU.mb]; rw [if_neg (by omega), if_neg (by omega), if_neg (by omega), if_neg (by omega), if_neg (by omega), if_neg (by omega), if_pos (by omega)]; unfold clsS; dsimp only [zU.p, zU.ws, zU.ts, zU.op, zU.y, zU.r, zU.pend, zU.mb]; rw [if_pos ho6]; rfl
        dsimp only [zU.p, zU.ws, zU.ts, zU.op, zU.y, zU.r, zU.pend, zU.mb] at hR ⊢
        rw [capN_id hmb, capN_id hts1.1, capN_id hwl.1] at hR ⊢
        refine zw_aload_n 0 rfl zd_PW_cutWord_159 ?_
        refine zw_callV (As := []) (rest := []) (L2 := [zBRow ht (t) (nt), zWL hl (ws) (nw), zTS hs (ts) ([]) (nb) (n), zNumA hn]) (L' := [zObj h 0 [.ref ht, .ref hl, .ref hs, .ref ho, .ref hn, .int (zI (p0)), .int (zI (4)), .int (zI (p0))], zIRow ho (op.map zI) (64) (64), zBRow ht (t) (nt), zWL hl (ws) (nw), zTS hs (ts) ([]) (nb) (n), zNumA hn]) (stk' := []) (c_PW_close_bad h ht hl hs ho hn p0 0 r0 op ho6) [2, 4] [0, 1, 3, 5] rfl rfl rfl zcal_PW_cutCloseBrace zl_PW_129 zin_PW_cutCloseBrace zse_PW_cutCloseBrace 0 rfl zRv_obj rfl (Nat.le_of_ble_eq_true rfl) (Nat.le_of_ble_eq_true rfl) (by omega) (by omega) rfl (Nat.le_of_ble_eq_true rfl) rfl rfl zd_PW_cutWord_160 ?_
        refine zw_goto 189 zd_PW_cutWord_163 (by decide) ?_
        refine zw_sub (L' := [zObj h 0 [.ref ht, .ref hl, .ref hs, .ref ho, .ref hn, .int (zI (p0)), .int (zI (4)), .int (zI (p0))], zBRow ht (t) (nt), zWL hl (ws) (nw), zTS hs (ts) ([]) (nb) (n), zIRow ho (op.map zI) (64) (64), zNumA hn]) [0, 2, 3, 4, 1, 5] rfl rfl ?_
        exact zw_vret hR rfl rfl rfl (by omega) (by omega) zd_PW_cutWord_189
      · -- closes
        have e7 := wsetN_len ws (op.getD (op.length - 1) 0) (zI ((ws.length : Nat) : Int))
        obtain rfl : (⟨p0 + 1, wsetN ws (op.getD (op.length - 1) 0) (zI ((ws.length : Nat) : Int)) ++ [(zI 7, zI (op.getD (op.length - 1) 0), zI p0)], ts, op.take (op.length - 1), 0, r0, [], mb⟩ : zU) = u1 := by rw [← hu]; unfold oneS; dsimp only [zU.p, zU.ws, zU.ts, zU.op, zU.y, zU.r, zU.pend, zU.mb]; rw [if_neg (by omega), if_neg (by omega), if_neg (by omega), if_neg (by omega), if_neg (by omega), if_neg (by omega), if_pos (by omega)]; unfold clsS; dsimp only [zU.p, zU.ws, zU.ts, zU.op, zU.y, zU.r, zU.pend, zU.mb]; rw [if_neg ho6]
        dsimp only [zU.p, zU.ws, zU.ts, zU.op, zU.y, zU.r, zU.pend, zU.mb] at hR ⊢
        simp only [List.length_append, List.length_singleton] at hR ⊢
        rw [capN_id hmb, capN_id hts1.1, e7] at hR ⊢
        refine zw_aload_n 0 rfl zd_PW_cutWord_159 ?_
        refine zw_callV (As := []) (rest := []) (L2 := [zBRow ht (t) (nt), zTS hs (ts) ([]) (nb) (n), zNumA hn]) (L' := [zObj h 0 [.ref ht, .ref hl, .ref hs, .ref ho, .ref hn, .int (zI (p0 + 1)), .int (zI (0)), .int (zI (r0))], zWL hl (wsetN ws (op.getD (op.length - 1) 0) (zI ((ws.length : Nat) : Int)) ++ [(zI 7, zI (op.getD (op.length - 1) 0), zI p0)]) (capN nw (ws.length + 1)), zIRow ho ((op.take (op.length - 1)).map zI) (64) (64), zBRow ht (t) (nt), zTS hs (ts) ([]) (nb) (n), zNumA hn]) (stk' := []) (c_PW_close_ok h ht hl hs ho hn p0 0 r0 ws nw op (by omega) (by omega) (fun x hx => by have := hox x hx; omega) hw) [2, 1, 4] [0, 3, 5] rfl rfl rfl zcal_PW_cutCloseBrace zl_PW_129 zin_PW_cutCloseBrace zse_PW_cutCloseBrace 0 rfl zRv_obj rfl (Nat.le_of_ble_eq_true rfl) (Nat.le_of_ble_eq_true rfl) (by omega) (by omega) rfl (Nat.le_of_ble_eq_true rfl) rfl rfl zd_PW_cutWord_160 ?_
        refine zw_goto 189 zd_PW_cutWord_163 (by decide) ?_
        refine zw_sub (L' := [zObj h 0 [.ref ht, .ref hl, .ref hs, .ref ho, .ref hn, .int (zI (p0 + 1)), .int (zI (0)), .int (zI (r0))], zBRow ht (t) (nt), zWL hl (wsetN ws (op.getD (op.length - 1) 0) (zI ((ws.length : Nat) : Int)) ++ [(zI 7, zI (op.getD (op.length - 1) 0), zI p0)]) (capN nw (ws.length + 1)), zTS hs (ts) ([]) (nb) (n), zIRow ho ((op.take (op.length - 1)).map zI) (64) (64), zNumA hn]) [0, 3, 1, 4, 2, 5] rfl rfl ?_
        exact zw_vret hR rfl rfl rfl (by omega) (by omega) zd_PW_cutWord_189
    refine zw_lookup (off := 150) 185 (by omega) zd_PW_cutWord_35 (by decide) (by rw [Op.lookupswitch.offset_cons, if_neg (Ne.symm k35_40)]; rw [Op.lookupswitch.offset_cons, if_neg (Ne.symm k35_41)]; rw [Op.lookupswitch.offset_cons, if_neg (Ne.symm k35_47)]; rw [Op.lookupswitch.offset_cons, if_neg (Ne.symm k35_60)]; rw [Op.lookupswitch.offset_cons, if_neg (Ne.symm k35_62)]; rw [Op.lookupswitch.offset_cons, if_neg (Ne.symm k35_91)]; rw [Op.lookupswitch.offset_cons, if_neg (Ne.symm k35_93)]; rw [Op.lookupswitch.offset_cons, if_neg (Ne.symm k35_123)]; rw [Op.lookupswitch.offset_cons, if_neg (Ne.symm k35_125)]; rfl) (by decide) ?_
    have hu3 : rowS t ⟨p0, ws, ts, op, 0, r0, [], mb⟩ = u1 := by rw [← hu]; unfold oneS; dsimp only [zU.p, zU.ws, zU.ts, zU.op, zU.y, zU.r, zU.pend, zU.mb]; rw [if_neg (by omega), if_neg (by omega), if_neg (by omega), if_neg (by omega), if_neg (by omega), if_neg (by omega), if_neg (by omega)]
    have hpl := plain_of hlv (by omega)
    refine zw_aload_n 0 rfl zd_PW_cutWord_185 ?_
    refine zw_callV (As := []) (rest := []) (L2 := [zIRow ho (op.map zI) (64) (64)]) (L' := [zObj h 0 [.ref ht, .ref hl, .ref hs, .ref ho, .ref hn, .int (zI (u1.p)), .int (zI (u1.y)), .int (zI (u1.r))], zBRow ht (t) (nt), zWL hl (u1.ws) (capN nw u1.ws.length), zTS hs (u1.ts) (u1.pend) (capN nb u1.mb) (capN n u1.ts.length), zNumA hn, zIRow ho (op.map zI) (64) (64)]) (stk' := []) (c_PW_cutRow h ht hl hs ho hn t nt p0 r0 ws nw ts nb n op mb u1 hu3 hp hF hw hs1 hmb hpl) [2, 0, 1, 3, 5] [4] rfl rfl rfl zcal_PW_cutRow zl_PW_135 zin_PW_cutRow zse_PW_cutRow 0 rfl zRv_obj rfl (Nat.le_of_ble_eq_true rfl) (Nat.le_of_ble_eq_true rfl) (by omega) (by omega) rfl (Nat.le_of_ble_eq_true rfl) rfl rfl zd_PW_cutWord_186 ?_
    refine zw_sub (L' := [zObj h 0 [.ref ht, .ref hl, .ref hs, .ref ho, .ref hn, .int (zI (u1.p)), .int (zI (u1.y)), .int (zI (u1.r))], zBRow ht (t) (nt), zWL hl (u1.ws) (capN nw u1.ws.length), zTS hs (u1.ts) (u1.pend) (capN nb u1.mb) (capN n u1.ts.length), zIRow ho (op.map zI) (64) (64), zNumA hn]) [0, 1, 2, 3, 5, 4] rfl rfl ?_
    obtain rfl : u1.op = op := by rw [← hu3]; exact rowS_op t ⟨p0, ws, ts, op, 0, r0, [], mb⟩
    exact zw_vret hR rfl rfl rfl (by omega) (by omega) zd_PW_cutWord_189
  · -- 10 -> 13
    exact absurd c10 (by omega)
