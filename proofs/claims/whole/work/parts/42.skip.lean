theorem c_WL_addC (h : Nat) (ws : List (Int32 × Int32 × Int32)) (n : Nat) (x y z : Int32) (hle : ws.length ≤ n) (hl : ws.length < 16384) : zCT zy_WL_add zm_WL_add (3 * (capN n (ws.length + 1) - n)) (6 * (capN n (ws.length + 1) - n)) [.ref h, .int x, .int y, .int z] [zWL h ws n] none [zWL h (ws ++ [(x, y, z)]) (capN n (ws.length + 1))] := by
  rw [← capN_step hle]
  exact c_WL_add h ws n x y z hl
theorem c_TS_putC (h : Nat) (ts : List (List Int)) (pend : List Int) (nb n : Nat) (z : Int) (c : Nat) (hc : (ts.flatten ++ pend).length = c) (hle : c ≤ nb) (hl : c < 65536) : zCT zy_TS_put zm_TS_put (capN nb (c + 1) - nb) (2 * (capN nb (c + 1) - nb)) [.ref h, .int (zI z)] [zTS h ts pend nb n] none [zTS h ts (pend ++ [z % 256]) (capN nb (c + 1)) n] := by
  subst hc
  rw [← capN_step hle]
  exact c_TS_put h ts pend nb n z hl
theorem c_TS_keepC (h : Nat) (ts : List (List Int)) (pend : List Int) (nb n : Nat) (hle : ts.length ≤ n) (hl : ts.length < 16384) : zCT zy_TS_keep zm_TS_keep (4 * (capN n (addT ts pend).length - n)) (8 * (capN n (addT ts pend).length - n)) [.ref h] [zTS h ts pend nb n] (some (.int (zI ((ixOf ts pend : Nat) : Int)))) [zTS h (addT ts pend) [] nb (capN n (addT ts pend).length)] := by
  rw [← knew_cap hle]
  exact c_TS_keep h ts pend nb n hl
/-- one step of leaving out: whether, and where it goes on -/
def lvOut (t : List Int) (p : Int) : Int := if sBlank (bget t p) = true then 1 else if bget t p = 37 then 1 else 0
def lvPos (t : List Int) (p : Int) : Int := if sBlank (bget t p) = true then p + 1 else if bget t p = 37 then scanE (fun b => !sLine b) t p else p
/-- the end of a row, or 128 bytes behind its beginning -/
def rowE (t : List Int) (z : Int) : Int := min (scanE sPlain t z) (z + 128)
theorem rowE_of {t : List Int} {z e : Int} (h0 : 0 ≤ z) (h1 : z ≤ e ∧ e ≤ t.length ∧ e ≤ z + 128) (h2 : ∀ j, z ≤ j → j < e → j < t.length ∧ sPlain (bget t j) = true) (h3 : z + 128 ≤ e ∨ ¬ (e < t.length ∧ sPlain (bget t e) = true)) : rowE t z = e := by
  unfold rowE
  obtain ⟨s1, s2, s3, s4⟩ := scanE_spec (f := sPlain) (t := t) (p := z) h0
  rcases h3 with h3 | h3
  · rw [Int.min_eq_right]
    · omega
    · rcases Int.lt_or_le (scanE sPlain t z) (z + 128) with q | q
      · exact absurd (h2 _ s1 (by omega)) s4
      · exact q
  · rw [scanE_uniq h0 h1.1 h2 h3, Int.min_eq_left h1.2.2]
set_option maxHeartbeats 4000000 in
set_option maxRecDepth 100000 in
theorem c_PW_skipComment (h ht hl hs ho hn : Nat) (t : List Int) (nt : Nat) (p0 w0 r0 : Int) (hp : 0 ≤ p0 ∧ p0 ≤ t.length) : zCT zy_PW_skipComment zm_PW_skipComment (0) (0) [.ref h] [zObj h 0 [.ref ht, .ref hl, .ref hs, .ref ho, .ref hn, .int (zI (p0)), .int (zI (w0)), .int (zI (r0))], zBRow ht (t) (nt)] (none) [zObj h 0 [.ref ht, .ref hl, .ref hs, .ref ho, .ref hn, .int (zI (scanE (fun b => !sLine b) t p0)), .int (zI (w0)), .int (zI (r0))], zBRow ht (t) (nt)] := by
  refine zCT.of [(0, .ref h)] rfl (by decide) rfl (fun h => by first | rfl | cases h) (Nat.le_of_ble_eq_true rfl) (fun X hR => ?_)
  refine zw_fact 1 rfl (fun G w h => zBR_fact h) (fun hbr => ?_)
  obtain ⟨⟨ht1, ht2, ht3⟩, hby⟩ := hbr
  have lp : ∀ (fuel : Nat) (p : Int), ((p0 ≤ p ∧ p ≤ t.length) ∧ ∀ j, p0 ≤ j → j < p → j < t.length ∧ (!sLine (bget t j)) = true) → ((t.length : Int) - p).toNat < fuel → zZ X zm_PW_skipComment (0) (0) (0) (0) [zObj h 0 [.ref ht, .ref hl, .ref hs, .ref ho, .ref hn, .int (zI (p)), .int (zI (w0)), .int (zI (r0))], zBRow ht (t) (nt)] 0 [(0, .ref h)] [] := by
    intro fuel
    induction fuel with
    | zero => intro p g0 hm; exact absurd hm (Nat.not_lt_zero _)
    | succ fuel ih =>
      intro p g0 hm
      refine zw_aload_n 0 rfl zd_PW_skipComment_0 ?_
      refine zw_get zc_PW 0 5 rfl (by decide) zf_PW_46 rfl zd_PW_skipComment_1 ?_
      refine zw_aload_n 0 rfl zd_PW_skipComment_4 ?_
      refine zw_get zc_PW 0 0 rfl (by decide) zf_PW_10 rfl zd_PW_skipComment_5 ?_
      refine zw_callV (As := []) (rest := [.int (zI (p))]) (L2 := [zObj h 0 [.ref ht, .ref hl, .ref hs, .ref ho, .ref hn, .int (zI (p)), .int (zI (w0)), .int (zI (r0))]]) (L' := [zBRow ht (t) (nt), zObj h 0 [.ref ht, .ref hl, .ref hs, .ref ho, .ref hn, .int (zI (p)), .int (zI (w0)), .int (zI (r0))]]) (stk' := [.int (zI ((((t).length : Nat) : Int))), .int (zI (p))]) (c_BR_count ht (t) (nt) ((t).length) (rfl)) [1] [0] rfl rfl rfl zcal_BR_count zl_PW_56 zin_BR_count zse_BR_count 0 rfl zRv_BRow rfl (Nat.le_of_ble_eq_true rfl) (Nat.le_of_ble_eq_true rfl) (by omega) (by omega) rfl (Nat.le_of_ble_eq_true rfl) rfl rfl zd_PW_skipComment_8 ?_
      refine zw_icmp_ge 44 (by omega) (by omega) zd_PW_skipComment_11 (by decide) (fun c11 => ?_) (fun c11 => ?_)
      · -- 11 -> 44
        refine zw_sub (L' := [zObj h 0 [.ref ht, .ref hl, .ref hs, .ref ho, .ref hn, .int (zI (p)), .int (zI (w0)), .int (zI (r0))], zBRow ht (t) (nt)]) [1, 0] rfl rfl ?_
        have e1 : scanE (fun b => !sLine b) t p0 = p := by
          refine scanE_uniq (by omega) (by omega) g0.2 ?_
          rintro ⟨q1, q2⟩
          first | omega | (rw [zbI1 (b := sLine (bget t p)) (by omega)] at q2; cases q2)
        exact zw_vret hR rfl (by rw [e1]) rfl (by omega) (by omega) zd_PW_skipComment_44
      · -- 11 -> 14
        refine zw_aload_n 0 rfl zd_PW_skipComment_14 ?_
        refine zw_get zc_PW 1 0 rfl (by decide) zf_PW_10 rfl zd_PW_skipComment_15 ?_
        refine zw_aload_n 0 rfl zd_PW_skipComment_18 ?_
        refine zw_get zc_PW 1 5 rfl (by decide) zf_PW_46 rfl zd_PW_skipComment_19 ?_
        refine zw_callV (As := [.int (zI (p))]) (rest := []) (L2 := [zObj h 0 [.ref ht, .ref hl, .ref hs, .ref ho, .ref hn, .int (zI (p)), .int (zI (w0)), .int (zI (r0))]]) (L' := [zBRow ht (t) (nt), zObj h 0 [.ref ht, .ref hl, .ref hs, .ref ho, .ref hn, .int (zI (p)), .int (zI (w0)), .int (zI (r0))]]) (stk' := [.int (zI (bget t p))]) (c_BR_get ht (t) (nt) (p) (by omega)) [0] [1] rfl rfl rfl zcal_BR_get zl_PW_106 zin_BR_get zse_BR_get 0 rfl zRv_BRow rfl (Nat.le_of_ble_eq_true rfl) (Nat.le_of_ble_eq_true rfl) (by omega) (by omega) rfl (Nat.le_of_ble_eq_true rfl) rfl rfl zd_PW_skipComment_22 ?_
        have rg22 := bget_rg hby (p)
        refine zw_callS (a := 0) (As := [.int (zI (bget t p))]) (rest := []) (L2 := [zBRow ht (t) (nt), zObj h 0 [.ref ht, .ref hl, .ref hs, .ref ho, .ref hn, .int (zI (p)), .int (zI (w0)), .int (zI (r0))]]) (L' := [zBRow ht (t) (nt), zObj h 0 [.ref ht, .ref hl, .ref hs, .ref ho, .ref hn, .int (zI (p)), .int (zI (w0)), .int (zI (r0))]]) (stk' := [.int (zI (bI (sLine (bget t p))))]) (c_PW_isLineEnd (bget t p) (by omega)) [] [0, 1] rfl rfl rfl zcal_PW_isLineEnd zl_PW_138 zst_PW_isLineEnd (Nat.le_of_ble_eq_true rfl) (Nat.le_of_ble_eq_true rfl) (by omega) (by omega) rfl (Nat.le_of_ble_eq_true rfl) rfl rfl zd_PW_skipComment_25 ?_
        have rb25 := bI_rg (sLine (bget t p))
        refine zw_if_ne 44 (by omega) zd_PW_skipComment_28 (by decide) (fun c28 => ?_) (fun c28 => ?_)
        · -- 28 -> 44
          refine zw_sub (L' := [zObj h 0 [.ref ht, .ref hl, .ref hs, .ref ho, .ref hn, .int (zI (p)), .int (zI (w0)), .int (zI (r0))], zBRow ht (t) (nt)]) [1, 0] rfl rfl ?_
          have e1 : scanE (fun b => !sLine b) t p0 = p := by
            refine scanE_uniq (by omega) (by omega) g0.2 ?_
            rintro ⟨q1, q2⟩
            first | omega | (rw [zbI1 (b := sLine (bget t p)) (by omega)] at q2; cases q2)
          exact zw_vret hR rfl (by rw [e1]) rfl (by omega) (by omega) zd_PW_skipComment_44
        · -- 28 -> 31
          refine zw_aload_n 0 rfl zd_PW_skipComment_31 ?_
          refine zw_dup rfl zd_PW_skipComment_32 ?_
          refine zw_get zc_PW 1 5 rfl (by decide) zf_PW_46 rfl zd_PW_skipComment_33 ?_
          refine zw_iconst zd_PW_skipComment_36 ?_
          refine zw_iadd zd_PW_skipComment_37 ?_
          refine zw_put (L' := [zBRow ht (t) (nt), zObj h 0 [.ref ht, .ref hl, .ref hs, .ref ho, .ref hn, .int (zI (p + 1)), .int (zI (w0)), .int (zI (r0))]]) zc_PW 1 5 rfl (by decide) zf_PW_46 rfl rfl rfl (Nat.le_of_ble_eq_true rfl) rfl zd_PW_skipComment_38 ?_
          refine zw_goto 0 zd_PW_skipComment_41 (by decide) ?_
          refine zw_sub (L' := [zObj h 0 [.ref ht, .ref hl, .ref hs, .ref ho, .ref hn, .int (zI (p + 1)), .int (zI (w0)), .int (zI (r0))], zBRow ht (t) (nt)]) [1, 0] rfl rfl ?_
          refine zw_widen (k' := 0) (n' := 0) (by omega) (by omega) ?_
          refine ih (p + 1) ⟨by omega, fun j h1 h2 => ?_⟩ (by omega)
          rcases Int.lt_or_le j p with q | q
          · exact g0.2 j h1 q
          · rw [show j = p by omega, zbI0 (b := sLine (bget t p)) (by omega)]
            exact ⟨by omega, rfl⟩
  exact lp _ p0 ⟨by omega, fun j h1 h2 => by omega⟩ (Nat.lt_succ_self _)
set_option maxHeartbeats 4000000 in
set_option maxRecDepth 100000 in
theorem c_PW_leaveOut (h ht hl hs ho hn : Nat) (t : List Int) (nt : Nat) (p0 w0 r0 : Int) (hp : 0 ≤ p0 ∧ p0 < t.length) : zCT zy_PW_leaveOut zm_PW_leaveOut (0) (0) [.ref h] [zObj h 0 [.ref ht, .ref hl, .ref hs, .ref ho, .ref hn, .int (zI (p0)), .int (zI (w0)), .int (zI (r0))], zBRow ht (t) (nt)] (some (.int (zI (lvOut t p0)))) [zObj h 0 [.ref ht, .ref hl, .ref hs, .ref ho, .ref hn, .int (zI (lvPos t p0)), .int (zI (w0)), .int (zI (r0))], zBRow ht (t) (nt)] := by
  refine zCT.of [(0, .ref h)] rfl (by decide) rfl (fun h => by first | rfl | cases h) (Nat.le_of_ble_eq_true rfl) (fun X hR => ?_)
  refine zw_fact 1 rfl (fun G w h => zBR_fact h) (fun hbr => ?_)
  obtain ⟨⟨ht1, ht2, ht3⟩, hby⟩ := hbr
  refine zw_aload_n 0 rfl zd_PW_leaveOut_0 ?_
  refine zw_get zc_PW 0 0 rfl (by decide) zf_PW_10 rfl zd_PW_leaveOut_1 ?_
  refine zw_aload_n 0 rfl zd_PW_leaveOut_4 ?_
  refine zw_get zc_PW 0 5 rfl (by decide) zf_PW_46 rfl zd_PW_leaveOut_5 ?_
  refine zw_callV (As := [.int (zI (p0))]) (rest := []) (L2 := [zObj h 0 [.ref ht, .ref hl, .ref hs, .ref ho, .ref hn, .int (zI (p0)), .int (zI (w0)), .int (zI (r0))]]) (L' := [zBRow ht (t) (nt), zObj h 0 [.ref ht, .ref hl, .ref hs, .ref ho, .ref hn, .int (zI (p0)), .int (zI (w0)), .int (zI (r0))]]) (stk' := [.int (zI (bget t p0))]) (c_BR_get ht (t) (nt) (p0) (by omega)) [1] [0] rfl rfl rfl zcal_BR_get zl_PW_106 zin_BR_get zse_BR_get 0 rfl zRv_BRow rfl (Nat.le_of_ble_eq_true rfl) (Nat.le_of_ble_eq_true rfl) (by omega) (by omega) rfl (Nat.le_of_ble_eq_true rfl) rfl rfl zd_PW_leaveOut_8 ?_
  have rg8 := bget_rg hby (p0)
  refine zw_istore_n (lv' := [(1, .int (zI (bget t p0))), (0, .ref h)]) (Nat.le_of_ble_eq_true rfl) rfl zd_PW_leaveOut_11 ?_
  refine zw_iload_n 0 rfl zd_PW_leaveOut_12 ?_
  refine zw_callS (a := 0) (As := [.int (zI (bget t p0))]) (rest := []) (L2 := [zBRow ht (t) (nt), zObj h 0 [.ref ht, .ref hl, .ref hs, .ref ho, .ref hn, .int (zI (p0)), .int (zI (w0)), .int (zI (r0))]]) (L' := [zBRow ht (t) (nt), zObj h 0 [.ref ht, .ref hl, .ref hs, .ref ho, .ref hn, .int (zI (p0)), .int (zI (w0)), .int (zI (r0))]]) (stk' := [.int (zI (bI (sBlank (bget t p0))))]) (c_PW_isBlank (bget t p0) (by omega)) [] [0, 1] rfl rfl rfl zcal_PW_isBlank zl_PW_109 zst_PW_isBlank (Nat.le_of_ble_eq_true rfl) (Nat.le_of_ble_eq_true rfl) (by omega) (by omega) rfl (Nat.le_of_ble_eq_true rfl) rfl rfl zd_PW_leaveOut_13 ?_
  have rb13 := bI_rg (sBlank (bget t p0))
  refine zw_if_eq 31 (by omega) zd_PW_leaveOut_16 (by decide) (fun c16 => ?_) (fun c16 => ?_)
  · -- 16 -> 31
    refine zw_iload_n 0 rfl zd_PW_leaveOut_31 ?_
    refine zw_bipush rfl zd_PW_leaveOut_32 ?_
    refine zw_icmp_ne 43 (by omega) (by omega) zd_PW_leaveOut_34 (by decide) (fun c34 => ?_) (fun c34 => ?_)
    · -- 34 -> 43
      refine zw_iconst zd_PW_leaveOut_43 ?_
      refine zw_sub (L' := [zObj h 0 [.ref ht, .ref hl, .ref hs, .ref ho, .ref hn, .int (zI (p0)), .int (zI (w0)), .int (zI (r0))], zBRow ht (t) (nt)]) [1, 0] rfl rfl ?_
      exact zw_zret hR (by rw [lvOut, if_neg (by rw [zbI0 (b := sBlank (bget t p0)) (by omega)]; decide), if_neg (by omega)]) (by rw [lvPos, if_neg (by rw [zbI0 (b := sBlank (bget t p0)) (by omega)]; decide), if_neg (by omega)]) rfl rfl (by omega) (by omega) zd_PW_leaveOut_44
    · -- 34 -> 37
      refine zw_aload_n 1 rfl zd_PW_leaveOut_37 ?_
      refine zw_callV (As := []) (rest := []) (L2 := []) (L' := [zObj h 0 [.ref ht, .ref hl, .ref hs, .ref ho, .ref hn, .int (zI (scanE (fun b => !sLine b) t p0)), .int (zI (w0)), .int (zI (r0))], zBRow ht (t) (nt)]) (stk' := []) (c_PW_skipComment h ht hl hs ho hn t nt p0 w0 r0 (by omega)) [1, 0] [] rfl rfl rfl zcal_PW_skipComment zl_PW_113 zin_PW_skipComment zse_PW_skipComment 0 rfl zRv_obj rfl (Nat.le_of_ble_eq_true rfl) (Nat.le_of_ble_eq_true rfl) (by omega) (by omega) rfl (Nat.le_of_ble_eq_true rfl) rfl rfl zd_PW_leaveOut_38 ?_
      refine zw_iconst zd_PW_leaveOut_41 ?_
      exact zw_zret hR (by rw [lvOut, if_neg (by rw [zbI0 (b := sBlank (bget t p0)) (by omega)]; decide), if_pos (by omega)]) (by rw [lvPos, if_neg (by rw [zbI0 (b := sBlank (bget t p0)) (by omega)]; decide), if_pos (by omega)]) rfl rfl (by omega) (by omega) zd_PW_leaveOut_42
  · -- 16 -> 19
    refine zw_aload_n 1 rfl zd_PW_leaveOut_19 ?_
    refine zw_dup rfl zd_PW_leaveOut_20 ?_
    refine zw_get zc_PW 1 5 rfl (by decide) zf_PW_46 rfl zd_PW_leaveOut_21 ?_
    refine zw_iconst zd_PW_leaveOut_24 ?_
    refine zw_iadd zd_PW_leaveOut_25 ?_
    refine zw_put (L' := [zBRow ht (t) (nt), zObj h 0 [.ref ht, .ref hl, .ref hs, .ref ho, .ref hn, .int (zI (p0 + 1)), .int (zI (w0)), .int (zI (r0))]]) zc_PW 1 5 rfl (by decide) zf_PW_46 rfl rfl rfl (Nat.le_of_ble_eq_true rfl) rfl zd_PW_leaveOut_26 ?_
    refine zw_iconst zd_PW_leaveOut_29 ?_
    refine zw_sub (L' := [zObj h 0 [.ref ht, .ref hl, .ref hs, .ref ho, .ref hn, .int (zI (p0 + 1)), .int (zI (w0)), .int (zI (r0))], zBRow ht (t) (nt)]) [1, 0] rfl rfl ?_
    exact zw_zret hR (by rw [lvOut, if_pos (zbI1 (by omega))]) (by rw [lvPos, if_pos (zbI1 (by omega))]) rfl rfl (by omega) (by omega) zd_PW_leaveOut_30
set_option maxHeartbeats 4000000 in
set_option maxRecDepth 100000 in
theorem c_PW_rowEnd (h ht hl hs ho hn : Nat) (t : List Int) (nt : Nat) (p0 w0 r0 : Int) (z : Int) (hz : 0 ≤ z ∧ z ≤ t.length) : zCT zy_PW_rowEnd zm_PW_rowEnd (0) (0) [.ref h, .int (zI z)] [zObj h 0 [.ref ht, .ref hl, .ref hs, .ref ho, .ref hn, .int (zI (p0)), .int (zI (w0)), .int (zI (r0))], zBRow ht (t) (nt)] (some (.int (zI (rowE t z)))) [zObj h 0 [.ref ht, .ref hl, .ref hs, .ref ho, .ref hn, .int (zI (p0)), .int (zI (w0)), .int (zI (r0))], zBRow ht (t) (nt)] := by
  refine zCT.of [(0, .ref h), (1, .int (zI (z)))] rfl (by decide) rfl (fun h => by first | rfl | cases h) (Nat.le_of_ble_eq_true rfl) (fun X hR => ?_)
  refine zw_fact 1 rfl (fun G w h => zBR_fact h) (fun hbr => ?_)
  obtain ⟨⟨ht1, ht2, ht3⟩, hby⟩ := hbr
  have hsp := scanE_spec (f := sPlain) (t := t) (p := z) hz.1
  have lp : ∀ (fuel : Nat) (e : Int), ((z ≤ e ∧ e ≤ t.length ∧ e ≤ z + 128) ∧ ∀ j, z ≤ j → j < e → j < t.length ∧ sPlain (bget t j) = true) → ((t.length : Int) - e).toNat < fuel → zZ X zm_PW_rowEnd (0) (0) (0) (0) [zObj h 0 [.ref ht, .ref hl, .ref hs, .ref ho, .ref hn, .int (zI (p0)), .int (zI (w0)), .int (zI (r0))], zBRow ht (t) (nt)] 2 [(0, .ref h), (1, .int (zI (z))), (2, .int (zI (e)))] [] := by
    intro fuel
    induction fuel with
    | zero => intro e g0 hm; exact absurd hm (Nat.not_lt_zero _)
    | succ fuel ih =>
      intro e g0 hm
      refine zw_iload_n 2 rfl zd_PW_rowEnd_2 ?_
      refine zw_aload_n 0 rfl zd_PW_rowEnd_3 ?_
      refine zw_get zc_PW 0 0 rfl (by decide) zf_PW_10 rfl zd_PW_rowEnd_4 ?_
      refine zw_callV (As := []) (rest := [.int (zI (e))]) (L2 := [zObj h 0 [.ref ht, .ref hl, .ref hs, .ref ho, .ref hn, .int (zI (p0)), .int (zI (w0)), .int (zI (r0))]]) (L' := [zBRow ht (t) (nt), zObj h 0 [.ref ht, .ref hl, .ref hs, .ref ho, .ref hn, .int (zI (p0)), .int (zI (w0)), .int (zI (r0))]]) (stk' := [.int (zI ((((t).length : Nat) : Int))), .int (zI (e))]) (c_BR_count ht (t) (nt) ((t).length) (rfl)) [1] [0] rfl rfl rfl zcal_BR_count zl_PW_56 zin_BR_count zse_BR_count 0 rfl zRv_BRow rfl (Nat.le_of_ble_eq_true rfl) (Nat.le_of_ble_eq_true rfl) (by omega) (by omega) rfl (Nat.le_of_ble_eq_true rfl) rfl rfl zd_PW_rowEnd_7 ?_
      refine zw_icmp_ge 41 (by omega) (by omega) zd_PW_rowEnd_10 (by decide) (fun c10 => ?_) (fun c10 => ?_)
      · -- 10 -> 41
        refine zw_iload_n 2 rfl zd_PW_rowEnd_41 ?_
        refine zw_sub (L' := [zObj h 0 [.ref ht, .ref hl, .ref hs, .ref ho, .ref hn, .int (zI (p0)), .int (zI (w0)), .int (zI (r0))], zBRow ht (t) (nt)]) [1, 0] rfl rfl ?_
        have e1 : rowE t z = e := by
          refine rowE_of hz.1 g0.1 g0.2 ?_
          first | exact Or.inl (by omega) | (refine Or.inr ?_; rintro ⟨q1, q2⟩; first | omega | (rw [zbI0 (b := sPlain (bget t e)) (by omega)] at q2; cases q2))
        exact zw_iret hR (by rw [e1]) rfl rfl (by omega) (by omega) zd_PW_rowEnd_42
      · -- 10 -> 13
        refine zw_iload_n 2 rfl zd_PW_rowEnd_13 ?_
        refine zw_iload_n 1 rfl zd_PW_rowEnd_14 ?_
        refine zw_isub zd_PW_rowEnd_15 ?_
        refine zw_bipush rfl zd_PW_rowEnd_16 ?_
        refine zw_icmp_gt 41 (by omega) (by omega) zd_PW_rowEnd_18 (by decide) (fun c18 => ?_) (fun c18 => ?_)
        · -- 18 -> 41
          refine zw_iload_n 2 rfl zd_PW_rowEnd_41 ?_
          refine zw_sub (L' := [zObj h 0 [.ref ht, .ref hl, .ref hs, .ref ho, .ref hn, .int (zI (p0)), .int (zI (w0)), .int (zI (r0))], zBRow ht (t) (nt)]) [1, 0] rfl rfl ?_
          have e1 : rowE t z = e := by
            refine rowE_of hz.1 g0.1 g0.2 ?_
            first | exact Or.inl (by omega) | (refine Or.inr ?_; rintro ⟨q1, q2⟩; first | omega | (rw [zbI0 (b := sPlain (bget t e)) (by omega)] at q2; cases q2))
          exact zw_iret hR (by rw [e1]) rfl rfl (by omega) (by omega) zd_PW_rowEnd_42
        · -- 18 -> 21
          refine zw_aload_n 0 rfl zd_PW_rowEnd_21 ?_
          refine zw_get zc_PW 1 0 rfl (by decide) zf_PW_10 rfl zd_PW_rowEnd_22 ?_
          refine zw_iload_n 2 rfl zd_PW_rowEnd_25 ?_
          refine zw_callV (As := [.int (zI (e))]) (rest := []) (L2 := [zObj h 0 [.ref ht, .ref hl, .ref hs, .ref ho, .ref hn, .int (zI (p0)), .int (zI (w0)), .int (zI (r0))]]) (L' := [zBRow ht (t) (nt), zObj h 0 [.ref ht, .ref hl, .ref hs, .ref ho, .ref hn, .int (zI (p0)), .int (zI (w0)), .int (zI (r0))]]) (stk' := [.int (zI (bget t e))]) (c_BR_get ht (t) (nt) (e) (by omega)) [0] [1] rfl rfl rfl zcal_BR_get zl_PW_106 zin_BR_get zse_BR_get 0 rfl zRv_BRow rfl (Nat.le_of_ble_eq_true rfl) (Nat.le_of_ble_eq_true rfl) (by omega) (by omega) rfl (Nat.le_of_ble_eq_true rfl) rfl rfl zd_PW_rowEnd_26 ?_
          have rg26 := bget_rg hby (e)
          refine zw_callS (a := 0) (As := [.int (zI (bget t e))]) (rest := []) (L2 := [zBRow ht (t) (nt), zObj h 0 [.ref ht, .ref hl, .ref hs, .ref ho, .ref hn, .int (zI (p0)), .int (zI (w0)), .int (zI (r0))]]) (L' := [zBRow ht (t) (nt), zObj h 0 [.ref ht, .ref hl, .ref hs, .ref ho, .ref hn, .int (zI (p0)), .int (zI (w0)), .int (zI (r0))]]) (stk' := [.int (zI (bI (sPlain (bget t e))))]) (c_PW_isPlain (bget t e) (by omega)) [] [0, 1] rfl rfl rfl zcal_PW_isPlain zl_PW_157 zst_PW_isPlain (Nat.le_of_ble_eq_true rfl) (Nat.le_of_ble_eq_true rfl) (by omega) (by omega) rfl (Nat.le_of_ble_eq_true rfl) rfl rfl zd_PW_rowEnd_29 ?_
          have rb29 := bI_rg (sPlain (bget t e))
          refine zw_if_eq 41 (by omega) zd_PW_rowEnd_32 (by decide) (fun c32 => ?_) (fun c32 => ?_)
          · -- 32 -> 41
            refine zw_iload_n 2 rfl zd_PW_rowEnd_41 ?_
            refine zw_sub (L' := [zObj h 0 [.ref ht, .ref hl, .ref hs, .ref ho, .ref hn, .int (zI (p0)), .int (zI (w0)), .int (zI (r0))], zBRow ht (t) (nt)]) [1, 0] rfl rfl ?_
            have e1 : rowE t z = e := by
              refine rowE_of hz.1 g0.1 g0.2 ?_
              first | exact Or.inl (by omega) | (refine Or.inr ?_; rintro ⟨q1, q2⟩; first | omega | (rw [zbI0 (b := sPlain (bget t e)) (by omega)] at q2; cases q2))
            exact zw_iret hR (by rw [e1]) rfl rfl (by omega) (by omega) zd_PW_rowEnd_42
          · -- 32 -> 35
            refine zw_iinc (lv' := [(2, .int (zI (e + 1))), (0, .ref h), (1, .int (zI (z)))]) 2 rfl (Nat.le_of_ble_eq_true rfl) rfl zd_PW_rowEnd_35 ?_
            refine zw_goto 2 zd_PW_rowEnd_38 (by decide) ?_
            refine zw_sub (L' := [zObj h 0 [.ref ht, .ref hl, .ref hs, .ref ho, .ref hn, .int (zI (p0)), .int (zI (w0)), .int (zI (r0))], zBRow ht (t) (nt)]) [1, 0] rfl rfl ?_
            refine zw_lpick (lv' := [(0, .ref h), (1, .int (zI (z))), (2, .int (zI (e + 1)))]) [1, 2, 0] rfl ?_
            refine zw_widen (k' := 0) (n' := 0) (by omega) (by omega) ?_
            refine ih (e + 1) ⟨by omega, fun j h1 h2 => ?_⟩ (by omega)
            rcases Int.lt_or_le j e with q | q
            · exact g0.2 j h1 q
            · rw [show j = e by omega]
              exact ⟨by omega, zbI1 (by omega)⟩
  refine zw_iload_n 1 rfl zd_PW_rowEnd_0 ?_
  refine zw_istore_n (lv' := [(2, .int (zI (z))), (0, .ref h), (1, .int (zI (z)))]) (Nat.le_of_ble_eq_true rfl) rfl zd_PW_rowEnd_1 ?_
  refine zw_lpick (lv' := [(0, .ref h), (1, .int (zI (z))), (2, .int (zI (z)))]) [1, 2, 0] rfl ?_
  refine zw_widen (k' := 0) (n' := 0) (by omega) (by omega) ?_
  exact lp _ z ⟨by omega, fun j h1 h2 => by omega⟩ (Nat.lt_succ_self _)
set_option maxHeartbeats 4000000 in
set_option maxRecDepth 100000 in
theorem c_PW_goWrong (h ht hl hs ho hn : Nat) (p0 w0 r0 : Int) (x y : Int) : zCT zy_PW_goWrong zm_PW_goWrong (0) (0) [.ref h, .int (zI x), .int (zI y)] [zObj h 0 [.ref ht, .ref hl, .ref hs, .ref ho, .ref hn, .int (zI (p0)), .int (zI (w0)), .int (zI (r0))]] (none) [zObj h 0 [.ref ht, .ref hl, .ref hs, .ref ho, .ref hn, .int (zI (p0)), .int (zI (x)), .int (zI (y))]] := by
  refine zCT.of [(0, .ref h), (1, .int (zI (x))), (2, .int (zI (y)))] rfl (by decide) rfl (fun h => by first | rfl | cases h) (Nat.le_of_ble_eq_true rfl) (fun X hR => ?_)
  refine zw_aload_n 0 rfl zd_PW_goWrong_0 ?_
  refine zw_iload_n 1 rfl zd_PW_goWrong_1 ?_
  refine zw_put (L' := [zObj h 0 [.ref ht, .ref hl, .ref hs, .ref ho, .ref hn, .int (zI (p0)), .int (zI (x)), .int (zI (r0))]]) zc_PW 0 6 rfl (by decide) zf_PW_50 rfl rfl rfl (Nat.le_of_ble_eq_true rfl) rfl zd_PW_goWrong_2 ?_
  refine zw_aload_n 0 rfl zd_PW_goWrong_5 ?_
  refine zw_iload_n 2 rfl zd_PW_goWrong_6 ?_
  refine zw_put (L' := [zObj h 0 [.ref ht, .ref hl, .ref hs, .ref ho, .ref hn, .int (zI (p0)), .int (zI (x)), .int (zI (y))]]) zc_PW 0 7 rfl (by decide) zf_PW_53 rfl rfl rfl (Nat.le_of_ble_eq_true rfl) rfl zd_PW_goWrong_7 ?_
  exact zw_vret hR rfl rfl rfl (by omega) (by omega) zd_PW_goWrong_10
set_option maxHeartbeats 4000000 in
set_option maxRecDepth 100000 in
theorem c_PW_startAnew (h ht hl hs ho hn : Nat) (p0 w0 r0 : Int) (ws : List (Int32 × Int32 × Int32)) (nw : Nat) (ts : List (List Int)) (pend : List Int) (nb n : Nat) (op : List Int32) (z : Int) : zCT zy_PW_startAnew zm_PW_startAnew (0) (0) [.ref h, .int (zI z)] [zObj h 0 [.ref ht, .ref hl, .ref hs, .ref ho, .ref hn, .int (zI (p0)), .int (zI (w0)), .int (zI (r0))], zWL hl (ws) (nw), zTS hs (ts) (pend) (nb) (n), zIRow ho (op) (64) (64)] (none) [zObj h 0 [.ref ht, .ref hl, .ref hs, .ref ho, .ref hn, .int (zI (0)), .int (zI (0)), .int (zI (z))], zWL hl ([]) (nw), zTS hs ([]) ([]) (nb) (n), zIRow ho ([]) (64) (64)] := by
  refine zCT.of [(0, .ref h), (1, .int (zI (z)))] rfl (by decide) rfl (fun h => by first | rfl | cases h) (Nat.le_of_ble_eq_true rfl) (fun X hR => ?_)
  refine zw_aload_n 0 rfl zd_PW_startAnew_0 ?_
  refine zw_get zc_PW 0 1 rfl (by decide) zf_PW_19 rfl zd_PW_startAnew_1 ?_
  refine zw_callV (As := []) (rest := []) (L2 := [zObj h 0 [.ref ht, .ref hl, .ref hs, .ref ho, .ref hn, .int (zI (p0)), .int (zI (w0)), .int (zI (r0))], zTS hs (ts) (pend) (nb) (n), zIRow ho (op) (64) (64)]) (L' := [zWL hl ([]) (nw), zObj h 0 [.ref ht, .ref hl, .ref hs, .ref ho, .ref hn, .int (zI (p0)), .int (zI (w0)), .int (zI (r0))], zTS hs (ts) (pend) (nb) (n), zIRow ho (op) (64) (64)]) (stk' := []) (c_WL_forget hl (ws) (nw)) [1] [0, 2, 3] rfl rfl rfl zcal_WL_forget zl_PW_101 zin_WL_forget zse_WL_forget 0 rfl zRv_WL rfl (Nat.le_of_ble_eq_true rfl) (Nat.le_of_ble_eq_true rfl) (by omega) (by omega) rfl (Nat.le_of_ble_eq_true rfl) rfl rfl zd_PW_startAnew_4 ?_
  refine zw_aload_n 0 rfl zd_PW_startAnew_7 ?_
  refine zw_get zc_PW 1 2 rfl (by decide) zf_PW_26 rfl zd_PW_startAnew_8 ?_
  refine zw_callV (As := []) (rest := []) (L2 := [zWL hl ([]) (nw), zObj h 0 [.ref ht, .ref hl, .ref hs, .ref ho, .ref hn, .int (zI (p0)), .int (zI (w0)), .int (zI (r0))], zIRow ho (op) (64) (64)]) (L' := [zTS hs ([]) ([]) (nb) (n), zWL hl ([]) (nw), zObj h 0 [.ref ht, .ref hl, .ref hs, .ref ho, .ref hn, .int (zI (p0)), .int (zI (w0)), .int (zI (r0))], zIRow ho (op) (64) (64)]) (stk' := []) (c_TS_forget hs (ts) (pend) (nb) (n)) [2] [0, 1, 3] rfl rfl rfl zcal_TS_forget zl_PW_104 zin_TS_forget zse_TS_forget 0 rfl zRv_TS rfl (Nat.le_of_ble_eq_true rfl) (Nat.le_of_ble_eq_true rfl) (by omega) (by omega) rfl (Nat.le_of_ble_eq_true rfl) rfl rfl zd_PW_startAnew_11 ?_
  refine zw_aload_n 0 rfl zd_PW_startAnew_14 ?_
  refine zw_get zc_PW 2 3 rfl (by decide) zf_PW_35 rfl zd_PW_startAnew_15 ?_
  refine zw_iconst zd_PW_startAnew_18 ?_
  refine zw_callV (As := [.int (zI (0))]) (rest := []) (L2 := [zTS hs ([]) ([]) (nb) (n), zWL hl ([]) (nw), zObj h 0 [.ref ht, .ref hl, .ref hs, .ref ho, .ref hn, .int (zI (p0)), .int (zI (w0)), .int (zI (r0))]]) (L' := [zIRow ho (rshort (op) (0)) (64) (64), zTS hs ([]) ([]) (nb) (n), zWL hl ([]) (nw), zObj h 0 [.ref ht, .ref hl, .ref hs, .ref ho, .ref hn, .int (zI (p0)), .int (zI (w0)), .int (zI (r0))]]) (stk' := []) (c_IR_shorten ho (op) (64) (64) (0) (by omega)) [3] [0, 1, 2] rfl rfl rfl zcal_IR_shorten zl_PW_105 zin_IR_shorten zse_IR_shorten 0 rfl zRv_IRow rfl (Nat.le_of_ble_eq_true rfl) (Nat.le_of_ble_eq_true rfl) (by omega) (by omega) rfl (Nat.le_of_ble_eq_true rfl) rfl rfl zd_PW_startAnew_19 ?_
  refine zw_aload_n 0 rfl zd_PW_startAnew_22 ?_
  refine zw_iconst zd_PW_startAnew_23 ?_
  refine zw_put (L' := [zIRow ho (rshort (op) (0)) (64) (64), zTS hs ([]) ([]) (nb) (n), zWL hl ([]) (nw), zObj h 0 [.ref ht, .ref hl, .ref hs, .ref ho, .ref hn, .int (zI (0)), .int (zI (w0)), .int (zI (r0))]]) zc_PW 3 5 rfl (by decide) zf_PW_46 rfl rfl rfl (Nat.le_of_ble_eq_true rfl) rfl zd_PW_startAnew_24 ?_
  refine zw_aload_n 0 rfl zd_PW_startAnew_27 ?_
  refine zw_iconst zd_PW_startAnew_28 ?_
  refine zw_put (L' := [zIRow ho (rshort (op) (0)) (64) (64), zTS hs ([]) ([]) (nb) (n), zWL hl ([]) (nw), zObj h 0 [.ref ht, .ref hl, .ref hs, .ref ho, .ref hn, .int (zI (0)), .int (zI (0)), .int (zI (r0))]]) zc_PW 3 6 rfl (by decide) zf_PW_50 rfl rfl rfl (Nat.le_of_ble_eq_true rfl) rfl zd_PW_startAnew_29 ?_
  refine zw_aload_n 0 rfl zd_PW_startAnew_32 ?_
  refine zw_iload_n 1 rfl zd_PW_startAnew_33 ?_
  refine zw_put (L' := [zIRow ho (rshort (op) (0)) (64) (64), zTS hs ([]) ([]) (nb) (n), zWL hl ([]) (nw), zObj h 0 [.ref ht, .ref hl, .ref hs, .ref ho, .ref hn, .int (zI (0)), .int (zI (0)), .int (zI (z))]]) zc_PW 3 7 rfl (by decide) zf_PW_53 rfl rfl rfl (Nat.le_of_ble_eq_true rfl) rfl zd_PW_startAnew_34 ?_
  refine zw_sub (L' := [zObj h 0 [.ref ht, .ref hl, .ref hs, .ref ho, .ref hn, .int (zI (0)), .int (zI (0)), .int (zI (z))], zWL hl ([]) (nw), zTS hs ([]) ([]) (nb) (n), zIRow ho (rshort (op) (0)) (64) (64)]) [3, 2, 1, 0] rfl rfl ?_
  exact zw_vret hR rfl (by rw [rshort0]) rfl (by omega) (by omega) zd_PW_startAnew_37
