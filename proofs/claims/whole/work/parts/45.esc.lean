set_option maxHeartbeats 4000000 in
set_option maxRecDepth 100000 in
theorem c_PW_skipLineEnd (h ht hl hs ho hn : Nat) (t : List Int) (nt : Nat) (p0 w0 r0 : Int) (hp : 0 ≤ p0 ∧ p0 ≤ t.length) : zCT zy_PW_skipLineEnd zm_PW_skipLineEnd (0) (0) [.ref h] [zObj h 0 [.ref ht, .ref hl, .ref hs, .ref ho, .ref hn, .int (zI (p0)), .int (zI (w0)), .int (zI (r0))], zBRow ht (t) (nt)] (none) [zObj h 0 [.ref ht, .ref hl, .ref hs, .ref ho, .ref hn, .int (zI (lnPos t p0)), .int (zI (w0)), .int (zI (r0))], zBRow ht (t) (nt)] := by
  refine zCT.of [(0, .ref h)] rfl (by decide) rfl (fun h => by first | rfl | cases h) (Nat.le_of_ble_eq_true rfl) (fun X hR => ?_)
  refine zw_fact 1 rfl (fun G w h => zBR_fact h) (fun hbr => ?_)
  obtain ⟨⟨ht1, ht2, ht3⟩, hby⟩ := hbr
  refine zw_aload_n 0 rfl zd_PW_skipLineEnd_0 ?_
  refine zw_get zc_PW 0 0 rfl (by decide) zf_PW_10 rfl zd_PW_skipLineEnd_1 ?_
  refine zw_aload_n 0 rfl zd_PW_skipLineEnd_4 ?_
  refine zw_get zc_PW 0 5 rfl (by decide) zf_PW_46 rfl zd_PW_skipLineEnd_5 ?_
  refine zw_callV (As := [.int (zI (p0))]) (rest := []) (L2 := [zObj h 0 [.ref ht, .ref hl, .ref hs, .ref ho, .ref hn, .int (zI (p0)), .int (zI (w0)), .int (zI (r0))]]) (L' := [zBRow ht (t) (nt), zObj h 0 [.ref ht, .ref hl, .ref hs, .ref ho, .ref hn, .int (zI (p0)), .int (zI (w0)), .int (zI (r0))]]) (stk' := [.int (zI (bget t p0))]) (c_BR_get ht (t) (nt) (p0) (by omega)) [1] [0] rfl rfl rfl zcal_BR_get zl_PW_106 zin_BR_get zse_BR_get 0 rfl zRv_BRow rfl (Nat.le_of_ble_eq_true rfl) (Nat.le_of_ble_eq_true rfl) (by omega) (by omega) rfl (Nat.le_of_ble_eq_true rfl) rfl rfl zd_PW_skipLineEnd_8 ?_
  have rg8 := bget_rg hby (p0)
  refine zw_bipush rfl zd_PW_skipLineEnd_11 ?_
  refine zw_icmp_ne 38 (by omega) (by omega) zd_PW_skipLineEnd_13 (by decide) (fun c13 => ?_) (fun c13 => ?_)
  · -- 13 -> 38
    refine zw_iconst zd_PW_skipLineEnd_38 ?_
    refine zw_istore_n (lv' := [(1, .int (zI (0))), (0, .ref h)]) (Nat.le_of_ble_eq_true rfl) rfl zd_PW_skipLineEnd_39 ?_
    refine zw_aload_n 1 rfl zd_PW_skipLineEnd_40 ?_
    refine zw_dup rfl zd_PW_skipLineEnd_41 ?_
    refine zw_get zc_PW 1 5 rfl (by decide) zf_PW_46 rfl zd_PW_skipLineEnd_42 ?_
    refine zw_iload_n 0 rfl zd_PW_skipLineEnd_45 ?_
    refine zw_if_eq 53 (by omega) zd_PW_skipLineEnd_46 (by decide) (fun c46 => ?_) (fun c46 => ?_)
    · -- 46 -> 53
      refine zw_iconst zd_PW_skipLineEnd_53 ?_
      refine zw_iadd zd_PW_skipLineEnd_54 ?_
      refine zw_put (L' := [zBRow ht (t) (nt), zObj h 0 [.ref ht, .ref hl, .ref hs, .ref ho, .ref hn, .int (zI (p0 + 1)), .int (zI (w0)), .int (zI (r0))]]) zc_PW 1 5 rfl (by decide) zf_PW_46 rfl rfl rfl (Nat.le_of_ble_eq_true rfl) rfl zd_PW_skipLineEnd_55 ?_
      refine zw_sub (L' := [zObj h 0 [.ref ht, .ref hl, .ref hs, .ref ho, .ref hn, .int (zI (p0 + 1)), .int (zI (w0)), .int (zI (r0))], zBRow ht (t) (nt)]) [1, 0] rfl rfl ?_
      exact zw_vret hR rfl (by rw [lnPos, if_neg (by omega)]) rfl (by omega) (by omega) zd_PW_skipLineEnd_58
    · -- 46 -> 49
      exact absurd c46 (by decide)
  · -- 13 -> 16
    refine zw_aload_n 0 rfl zd_PW_skipLineEnd_16 ?_
    refine zw_get zc_PW 1 0 rfl (by decide) zf_PW_10 rfl zd_PW_skipLineEnd_17 ?_
    refine zw_aload_n 0 rfl zd_PW_skipLineEnd_20 ?_
    refine zw_get zc_PW 1 5 rfl (by decide) zf_PW_46 rfl zd_PW_skipLineEnd_21 ?_
    refine zw_iconst zd_PW_skipLineEnd_24 ?_
    refine zw_iadd zd_PW_skipLineEnd_25 ?_
    refine zw_callV (As := [.int (zI (p0 + 1))]) (rest := []) (L2 := [zObj h 0 [.ref ht, .ref hl, .ref hs, .ref ho, .ref hn, .int (zI (p0)), .int (zI (w0)), .int (zI (r0))]]) (L' := [zBRow ht (t) (nt), zObj h 0 [.ref ht, .ref hl, .ref hs, .ref ho, .ref hn, .int (zI (p0)), .int (zI (w0)), .int (zI (r0))]]) (stk' := [.int (zI (bget t (p0 + 1)))]) (c_BR_get ht (t) (nt) (p0 + 1) (by omega)) [0] [1] rfl rfl rfl zcal_BR_get zl_PW_106 zin_BR_get zse_BR_get 0 rfl zRv_BRow rfl (Nat.le_of_ble_eq_true rfl) (Nat.le_of_ble_eq_true rfl) (by omega) (by omega) rfl (Nat.le_of_ble_eq_true rfl) rfl rfl zd_PW_skipLineEnd_26 ?_
    have rg26 := bget_rg hby (p0 + 1)
    refine zw_bipush rfl zd_PW_skipLineEnd_29 ?_
    refine zw_icmp_ne 38 (by omega) (by omega) zd_PW_skipLineEnd_31 (by decide) (fun c31 => ?_) (fun c31 => ?_)
    · -- 31 -> 38
      refine zw_iconst zd_PW_skipLineEnd_38 ?_
      refine zw_istore_n (lv' := [(1, .int (zI (0))), (0, .ref h)]) (Nat.le_of_ble_eq_true rfl) rfl zd_PW_skipLineEnd_39 ?_
      refine zw_aload_n 1 rfl zd_PW_skipLineEnd_40 ?_
      refine zw_dup rfl zd_PW_skipLineEnd_41 ?_
      refine zw_get zc_PW 1 5 rfl (by decide) zf_PW_46 rfl zd_PW_skipLineEnd_42 ?_
      refine zw_iload_n 0 rfl zd_PW_skipLineEnd_45 ?_
      refine zw_if_eq 53 (by omega) zd_PW_skipLineEnd_46 (by decide) (fun c46 => ?_) (fun c46 => ?_)
      · -- 46 -> 53
        refine zw_iconst zd_PW_skipLineEnd_53 ?_
        refine zw_iadd zd_PW_skipLineEnd_54 ?_
        refine zw_put (L' := [zBRow ht (t) (nt), zObj h 0 [.ref ht, .ref hl, .ref hs, .ref ho, .ref hn, .int (zI (p0 + 1)), .int (zI (w0)), .int (zI (r0))]]) zc_PW 1 5 rfl (by decide) zf_PW_46 rfl rfl rfl (Nat.le_of_ble_eq_true rfl) rfl zd_PW_skipLineEnd_55 ?_
        refine zw_sub (L' := [zObj h 0 [.ref ht, .ref hl, .ref hs, .ref ho, .ref hn, .int (zI (p0 + 1)), .int (zI (w0)), .int (zI (r0))], zBRow ht (t) (nt)]) [1, 0] rfl rfl ?_
        exact zw_vret hR rfl (by rw [lnPos, if_neg (by omega)]) rfl (by omega) (by omega) zd_PW_skipLineEnd_58
      · -- 46 -> 49
        exact absurd c46 (by decide)
    · -- 31 -> 34
      refine zw_iconst zd_PW_skipLineEnd_34 ?_
      refine zw_goto 39 zd_PW_skipLineEnd_35 (by decide) ?_
      refine zw_istore_n (lv' := [(1, .int (zI (1))), (0, .ref h)]) (Nat.le_of_ble_eq_true rfl) rfl zd_PW_skipLineEnd_39 ?_
      refine zw_aload_n 1 rfl zd_PW_skipLineEnd_40 ?_
      refine zw_dup rfl zd_PW_skipLineEnd_41 ?_
      refine zw_get zc_PW 1 5 rfl (by decide) zf_PW_46 rfl zd_PW_skipLineEnd_42 ?_
      refine zw_iload_n 0 rfl zd_PW_skipLineEnd_45 ?_
      refine zw_if_eq 53 (by omega) zd_PW_skipLineEnd_46 (by decide) (fun c46 => ?_) (fun c46 => ?_)
      · -- 46 -> 53
        exact absurd c46 (by decide)
      · -- 46 -> 49
        refine zw_iconst zd_PW_skipLineEnd_49 ?_
        refine zw_goto 54 zd_PW_skipLineEnd_50 (by decide) ?_
        refine zw_iadd zd_PW_skipLineEnd_54 ?_
        refine zw_put (L' := [zBRow ht (t) (nt), zObj h 0 [.ref ht, .ref hl, .ref hs, .ref ho, .ref hn, .int (zI (p0 + 2)), .int (zI (w0)), .int (zI (r0))]]) zc_PW 1 5 rfl (by decide) zf_PW_46 rfl rfl rfl (Nat.le_of_ble_eq_true rfl) rfl zd_PW_skipLineEnd_55 ?_
        refine zw_sub (L' := [zObj h 0 [.ref ht, .ref hl, .ref hs, .ref ho, .ref hn, .int (zI (p0 + 2)), .int (zI (w0)), .int (zI (r0))], zBRow ht (t) (nt)]) [1, 0] rfl rfl ?_
        exact zw_vret hR rfl (by rw [lnPos, if_pos (by omega)]) rfl (by omega) (by omega) zd_PW_skipLineEnd_58
set_option maxHeartbeats 4000000 in
set_option maxRecDepth 100000 in
theorem c_PW_readOctal (h ht hl hs ho hn : Nat) (t : List Int) (nt : Nat) (p0 w0 r0 : Int) (hp : 0 ≤ p0 ∧ p0 ≤ t.length) : zCT zy_PW_readOctal zm_PW_readOctal (0) (0) [.ref h] [zObj h 0 [.ref ht, .ref hl, .ref hs, .ref ho, .ref hn, .int (zI (p0)), .int (zI (w0)), .int (zI (r0))], zBRow ht (t) (nt)] (some (.int (zI (octS t 3 p0 0).1))) [zObj h 0 [.ref ht, .ref hl, .ref hs, .ref ho, .ref hn, .int (zI ((octS t 3 p0 0).2)), .int (zI (w0)), .int (zI (r0))], zBRow ht (t) (nt)] := by
  refine zCT.of [(0, .ref h)] rfl (by decide) rfl (fun h => by first | rfl | cases h) (Nat.le_of_ble_eq_true rfl) (fun X hR => ?_)
  refine zw_fact 1 rfl (fun G w h => zBR_fact h) (fun hbr => ?_)
  obtain ⟨⟨ht1, ht2, ht3⟩, hby⟩ := hbr
  have lp : ∀ (fuel : Nat) (p : Int) (s : Int) (c : Int), ((0 ≤ c ∧ c ≤ 3) ∧ (0 ≤ p ∧ p ≤ t.length) ∧ octS t (3 - c).toNat p s = octS t 3 p0 0) → (3 - c).toNat < fuel → zZ X zm_PW_readOctal (0) (0) (0) (0) [zObj h 0 [.ref ht, .ref hl, .ref hs, .ref ho, .ref hn, .int (zI (p)), .int (zI (w0)), .int (zI (r0))], zBRow ht (t) (nt)] 4 [(0, .ref h), (1, .int (zI (s))), (2, .int (zI (c)))] [] := by
    intro fuel
    induction fuel with
    | zero => intro p s c g0 hm; exact absurd hm (Nat.not_lt_zero _)
    | succ fuel ih =>
      intro p s c g0 hm
      obtain ⟨i1, i2, i3⟩ := g0
      refine zw_iload_n 2 rfl zd_PW_readOctal_4 ?_
      refine zw_iconst zd_PW_readOctal_5 ?_
      refine zw_icmp_ge 62 (by omega) (by omega) zd_PW_readOctal_6 (by decide) (fun c6 => ?_) (fun c6 => ?_)
      · -- 6 -> 62
        refine zw_iload_n 1 rfl zd_PW_readOctal_62 ?_
        have e1 : (s, p) = octS t 3 p0 0 := by
          rw [← i3]
          rcases Int.lt_or_le c 3 with q | q
          · rw [show (3 - c).toNat = (3 - (c + 1)).toNat + 1 by omega]
            show _ = if _ then _ else _
            first | omega | (rw [zbI0 (b := sOct (bget t p)) (by omega)]; rfl)
          · rw [show (3 - c).toNat = 0 by omega]
            rfl
        exact zw_iret hR (by rw [← e1]) (by rw [← e1]) rfl (by omega) (by omega) zd_PW_readOctal_63
      · -- 6 -> 9
        refine zw_aload_n 0 rfl zd_PW_readOctal_9 ?_
        refine zw_get zc_PW 0 0 rfl (by decide) zf_PW_10 rfl zd_PW_readOctal_10 ?_
        refine zw_aload_n 0 rfl zd_PW_readOctal_13 ?_
        refine zw_get zc_PW 0 5 rfl (by decide) zf_PW_46 rfl zd_PW_readOctal_14 ?_
        refine zw_callV (As := [.int (zI (p))]) (rest := []) (L2 := [zObj h 0 [.ref ht, .ref hl, .ref hs, .ref ho, .ref hn, .int (zI (p)), .int (zI (w0)), .int (zI (r0))]]) (L' := [zBRow ht (t) (nt), zObj h 0 [.ref ht, .ref hl, .ref hs, .ref ho, .ref hn, .int (zI (p)), .int (zI (w0)), .int (zI (r0))]]) (stk' := [.int (zI (bget t p))]) (c_BR_get ht (t) (nt) (p) (by omega)) [1] [0] rfl rfl rfl zcal_BR_get zl_PW_106 zin_BR_get zse_BR_get 0 rfl zRv_BRow rfl (Nat.le_of_ble_eq_true rfl) (Nat.le_of_ble_eq_true rfl) (by omega) (by omega) rfl (Nat.le_of_ble_eq_true rfl) rfl rfl zd_PW_readOctal_17 ?_
        have rg17 := bget_rg hby (p)
        refine zw_callS (a := 0) (As := [.int (zI (bget t p))]) (rest := []) (L2 := [zBRow ht (t) (nt), zObj h 0 [.ref ht, .ref hl, .ref hs, .ref ho, .ref hn, .int (zI (p)), .int (zI (w0)), .int (zI (r0))]]) (L' := [zBRow ht (t) (nt), zObj h 0 [.ref ht, .ref hl, .ref hs, .ref ho, .ref hn, .int (zI (p)), .int (zI (w0)), .int (zI (r0))]]) (stk' := [.int (zI (bI (sOct (bget t p))))]) (c_PW_isOctal (bget t p) (by omega)) [] [0, 1] rfl rfl rfl zcal_PW_isOctal zl_PW_187 zst_PW_isOctal (Nat.le_of_ble_eq_true rfl) (Nat.le_of_ble_eq_true rfl) (by omega) (by omega) rfl (Nat.le_of_ble_eq_true rfl) rfl rfl zd_PW_readOctal_20 ?_
        have rb20 := bI_rg (sOct (bget t p))
        refine zw_if_eq 62 (by omega) zd_PW_readOctal_23 (by decide) (fun c23 => ?_) (fun c23 => ?_)
        · -- 23 -> 62
          refine zw_iload_n 1 rfl zd_PW_readOctal_62 ?_
          refine zw_sub (L' := [zObj h 0 [.ref ht, .ref hl, .ref hs, .ref ho, .ref hn, .int (zI (p)), .int (zI (w0)), .int (zI (r0))], zBRow ht (t) (nt)]) [1, 0] rfl rfl ?_
          have e1 : (s, p) = octS t 3 p0 0 := by
            rw [← i3]
            rcases Int.lt_or_le c 3 with q | q
            · rw [show (3 - c).toNat = (3 - (c + 1)).toNat + 1 by omega]
              show _ = if _ then _ else _
              first | omega | (rw [zbI0 (b := sOct (bget t p)) (by omega)]; rfl)
            · rw [show (3 - c).toNat = 0 by omega]
              rfl
          exact zw_iret hR (by rw [← e1]) (by rw [← e1]) rfl (by omega) (by omega) zd_PW_readOctal_63
        · -- 23 -> 26
          refine zw_bipush rfl zd_PW_readOctal_26 ?_
          refine zw_iload_n 1 rfl zd_PW_readOctal_28 ?_
          refine zw_imul zd_PW_readOctal_29 ?_
          refine zw_aload_n 0 rfl zd_PW_readOctal_30 ?_
          refine zw_get zc_PW 1 0 rfl (by decide) zf_PW_10 rfl zd_PW_readOctal_31 ?_
          refine zw_aload_n 0 rfl zd_PW_readOctal_34 ?_
          refine zw_get zc_PW 1 5 rfl (by decide) zf_PW_46 rfl zd_PW_readOctal_35 ?_
          refine zw_callV (As := [.int (zI (p))]) (rest := [.int (zI (8 * s))]) (L2 := [zObj h 0 [.ref ht, .ref hl, .ref hs, .ref ho, .ref hn, .int (zI (p)), .int (zI (w0)), .int (zI (r0))]]) (L' := [zBRow ht (t) (nt), zObj h 0 [.ref ht, .ref hl, .ref hs, .ref ho, .ref hn, .int (zI (p)), .int (zI (w0)), .int (zI (r0))]]) (stk' := [.int (zI (bget t p)), .int (zI (8 * s))]) (c_BR_get ht (t) (nt) (p) (by omega)) [0] [1] rfl rfl rfl zcal_BR_get zl_PW_106 zin_BR_get zse_BR_get 0 rfl zRv_BRow rfl (Nat.le_of_ble_eq_true rfl) (Nat.le_of_ble_eq_true rfl) (by omega) (by omega) rfl (Nat.le_of_ble_eq_true rfl) rfl rfl zd_PW_readOctal_38 ?_
          have rg38 := bget_rg hby (p)
          refine zw_iadd zd_PW_readOctal_41 ?_
          refine zw_bipush rfl zd_PW_readOctal_42 ?_
          refine zw_isub zd_PW_readOctal_44 ?_
          refine zw_istore_n (lv' := [(1, .int (zI (((8 * s) + (bget t p)) - 48))), (0, .ref h), (2, .int (zI (c)))]) (Nat.le_of_ble_eq_true rfl) rfl zd_PW_readOctal_45 ?_
          refine zw_aload_n 1 rfl zd_PW_readOctal_46 ?_
          refine zw_dup rfl zd_PW_readOctal_47 ?_
          refine zw_get zc_PW 1 5 rfl (by decide) zf_PW_46 rfl zd_PW_readOctal_48 ?_
          refine zw_iconst zd_PW_readOctal_51 ?_
          refine zw_iadd zd_PW_readOctal_52 ?_
          refine zw_put (L' := [zBRow ht (t) (nt), zObj h 0 [.ref ht, .ref hl, .ref hs, .ref ho, .ref hn, .int (zI (p + 1)), .int (zI (w0)), .int (zI (r0))]]) zc_PW 1 5 rfl (by decide) zf_PW_46 rfl rfl rfl (Nat.le_of_ble_eq_true rfl) rfl zd_PW_readOctal_53 ?_
          refine zw_iinc (lv' := [(2, .int (zI (c + 1))), (1, .int (zI (((8 * s) + (bget t p)) - 48))), (0, .ref h)]) 2 rfl (Nat.le_of_ble_eq_true rfl) rfl zd_PW_readOctal_56 ?_
          refine zw_goto 4 zd_PW_readOctal_59 (by decide) ?_
          refine zw_sub (L' := [zObj h 0 [.ref ht, .ref hl, .ref hs, .ref ho, .ref hn, .int (zI (p + 1)), .int (zI (w0)), .int (zI (r0))], zBRow ht (t) (nt)]) [1, 0] rfl rfl ?_
          refine zw_lpick (lv' := [(0, .ref h), (1, .int (zI (((8 * s) + (bget t p)) - 48))), (2, .int (zI (c + 1)))]) [2, 1, 0] rfl ?_
          refine zw_widen (k' := 0) (n' := 0) (by omega) (by omega) ?_
          have hb : 48 ≤ bget t p ∧ bget t p ≤ 55 := of_decide_eq_true (zbI1 (b := sOct (bget t p)) (by omega))
          have hin := bget_in (l := t) (z := p) (by omega)
          refine ih (p + 1) _ (c + 1) ⟨by omega, by omega, ?_⟩ (by omega)
          rw [← i3, show (3 - c).toNat = (3 - (c + 1)).toNat + 1 by omega]
          show _ = if _ then _ else _
          rw [if_pos (zbI1 (b := sOct (bget t p)) (by omega))]
  refine zw_iconst zd_PW_readOctal_0 ?_
  refine zw_istore_n (lv' := [(1, .int (zI (0))), (0, .ref h)]) (Nat.le_of_ble_eq_true rfl) rfl zd_PW_readOctal_1 ?_
  refine zw_iconst zd_PW_readOctal_2 ?_
  refine zw_istore_n (lv' := [(2, .int (zI (0))), (1, .int (zI (0))), (0, .ref h)]) (Nat.le_of_ble_eq_true rfl) rfl zd_PW_readOctal_3 ?_
  refine zw_lpick (lv' := [(0, .ref h), (1, .int (zI (0))), (2, .int (zI (0)))]) [2, 1, 0] rfl ?_
  refine zw_widen (k' := 0) (n' := 0) (by omega) (by omega) ?_
  exact lp _ p0 0 0 ⟨by omega, by omega, rfl⟩ (Nat.lt_succ_self _)
set_option maxHeartbeats 4000000 in
set_option maxRecDepth 100000 in
theorem c_PW_takeEscaped (h ht hl hs ho hn : Nat) (t : List Int) (nt : Nat) (p0 w0 r0 : Int) (ts : List (List Int)) (pend : List Int) (nb n : Nat) (hp : 0 ≤ p0 ∧ p0 < t.length) (hF : (ts.flatten ++ pend).length < 60000) : zCT zy_PW_takeEscaped zm_PW_takeEscaped (capN nb ((ts.flatten ++ pend).length + (escS t (p0 + 1)).1.length) - nb) (2 * (capN nb ((ts.flatten ++ pend).length + (escS t (p0 + 1)).1.length) - nb)) [.ref h] [zObj h 0 [.ref ht, .ref hl, .ref hs, .ref ho, .ref hn, .int (zI (p0)), .int (zI (w0)), .int (zI (r0))], zBRow ht (t) (nt), zTS hs (ts) (pend) (nb) (n)] (none) [zObj h 0 [.ref ht, .ref hl, .ref hs, .ref ho, .ref hn, .int (zI ((escS t (p0 + 1)).2)), .int (zI (w0)), .int (zI (r0))], zBRow ht (t) (nt), zTS hs (ts) (pend ++ (escS t (p0 + 1)).1) (capN nb ((ts.flatten ++ pend).length + (escS t (p0 + 1)).1.length)) (n)] := by
  refine zCT.of [(0, .ref h)] rfl (by decide) rfl (fun h => by first | rfl | cases h) (Nat.le_of_ble_eq_true rfl) (fun X hR => ?_)
  refine zw_fact 1 rfl (fun G w h => zBR_fact h) (fun hbr => ?_)
  obtain ⟨⟨ht1, ht2, ht3⟩, hby⟩ := hbr
  refine zw_fact 2 rfl (fun G w h => zTS_fact h) (fun hts => ?_)
  obtain ⟨hts1, hts2, hts3, hts4⟩ := hts
  have mE := capN_ge nb ((ts.flatten ++ pend).length + (escS t (p0 + 1)).1.length)
  refine zw_aload_n 0 rfl zd_PW_takeEscaped_0 ?_
  refine zw_dup rfl zd_PW_takeEscaped_1 ?_
  refine zw_get zc_PW 0 5 rfl (by decide) zf_PW_46 rfl zd_PW_takeEscaped_2 ?_
  refine zw_iconst zd_PW_takeEscaped_5 ?_
  refine zw_iadd zd_PW_takeEscaped_6 ?_
  refine zw_put (L' := [zObj h 0 [.ref ht, .ref hl, .ref hs, .ref ho, .ref hn, .int (zI (p0 + 1)), .int (zI (w0)), .int (zI (r0))], zBRow ht (t) (nt), zTS hs (ts) (pend) (nb) (n)]) zc_PW 0 5 rfl (by decide) zf_PW_46 rfl rfl rfl (Nat.le_of_ble_eq_true rfl) rfl zd_PW_takeEscaped_7 ?_
  refine zw_aload_n 0 rfl zd_PW_takeEscaped_10 ?_
  refine zw_get zc_PW 0 0 rfl (by decide) zf_PW_10 rfl zd_PW_takeEscaped_11 ?_
  refine zw_aload_n 0 rfl zd_PW_takeEscaped_14 ?_
  refine zw_get zc_PW 0 5 rfl (by decide) zf_PW_46 rfl zd_PW_takeEscaped_15 ?_
  refine zw_callV (As := [.int (zI (p0 + 1))]) (rest := []) (L2 := [zObj h 0 [.ref ht, .ref hl, .ref hs, .ref ho, .ref hn, .int (zI (p0 + 1)), .int (zI (w0)), .int (zI (r0))], zTS hs (ts) (pend) (nb) (n)]) (L' := [zBRow ht (t) (nt), zObj h 0 [.ref ht, .ref hl, .ref hs, .ref ho, .ref hn, .int (zI (p0 + 1)), .int (zI (w0)), .int (zI (r0))], zTS hs (ts) (pend) (nb) (n)]) (stk' := [.int (zI (bget t (p0 + 1)))]) (c_BR_get ht (t) (nt) (p0 + 1) (by omega)) [1] [0, 2] rfl rfl rfl zcal_BR_get zl_PW_106 zin_BR_get zse_BR_get 0 rfl zRv_BRow rfl (Nat.le_of_ble_eq_true rfl) (Nat.le_of_ble_eq_true rfl) (by omega) (by omega) rfl (Nat.le_of_ble_eq_true rfl) rfl rfl zd_PW_takeEscaped_18 ?_
  have rg18 := bget_rg hby (p0 + 1)
  refine zw_istore_n (lv' := [(1, .int (zI (bget t (p0 + 1)))), (0, .ref h)]) (Nat.le_of_ble_eq_true rfl) rfl zd_PW_takeEscaped_21 ?_
  refine zw_iload_n 0 rfl zd_PW_takeEscaped_22 ?_
  refine zw_callS (a := 0) (As := [.int (zI (bget t (p0 + 1)))]) (rest := []) (L2 := [zBRow ht (t) (nt), zObj h 0 [.ref ht, .ref hl, .ref hs, .ref ho, .ref hn, .int (zI (p0 + 1)), .int (zI (w0)), .int (zI (r0))], zTS hs (ts) (pend) (nb) (n)]) (L' := [zBRow ht (t) (nt), zObj h 0 [.ref ht, .ref hl, .ref hs, .ref ho, .ref hn, .int (zI (p0 + 1)), .int (zI (w0)), .int (zI (r0))], zTS hs (ts) (pend) (nb) (n)]) (stk' := [.int (zI (bI (sLine (bget t (p0 + 1)))))]) (c_PW_isLineEnd (bget t (p0 + 1)) (by omega)) [] [0, 1, 2] rfl rfl rfl zcal_PW_isLineEnd zl_PW_138 zst_PW_isLineEnd (Nat.le_of_ble_eq_true rfl) (Nat.le_of_ble_eq_true rfl) (by omega) (by omega) rfl (Nat.le_of_ble_eq_true rfl) rfl rfl zd_PW_takeEscaped_23 ?_
  have rb23 := bI_rg (sLine (bget t (p0 + 1)))
  refine zw_if_eq 36 (by omega) zd_PW_takeEscaped_26 (by decide) (fun c26 => ?_) (fun c26 => ?_)
  · -- 26 -> 36
    refine zw_iload_n 0 rfl zd_PW_takeEscaped_36 ?_
    refine zw_callS (a := 0) (As := [.int (zI (bget t (p0 + 1)))]) (rest := []) (L2 := [zBRow ht (t) (nt), zObj h 0 [.ref ht, .ref hl, .ref hs, .ref ho, .ref hn, .int (zI (p0 + 1)), .int (zI (w0)), .int (zI (r0))], zTS hs (ts) (pend) (nb) (n)]) (L' := [zBRow ht (t) (nt), zObj h 0 [.ref ht, .ref hl, .ref hs, .ref ho, .ref hn, .int (zI (p0 + 1)), .int (zI (w0)), .int (zI (r0))], zTS hs (ts) (pend) (nb) (n)]) (stk' := [.int (zI (bI (sOct (bget t (p0 + 1)))))]) (c_PW_isOctal (bget t (p0 + 1)) (by omega)) [] [0, 1, 2] rfl rfl rfl zcal_PW_isOctal zl_PW_187 zst_PW_isOctal (Nat.le_of_ble_eq_true rfl) (Nat.le_of_ble_eq_true rfl) (by omega) (by omega) rfl (Nat.le_of_ble_eq_true rfl) rfl rfl zd_PW_takeEscaped_37 ?_
    have rb37 := bI_rg (sOct (bget t (p0 + 1)))
    refine zw_if_eq 57 (by omega) zd_PW_takeEscaped_40 (by decide) (fun c40 => ?_) (fun c40 => ?_)
    · -- 40 -> 57
      refine zw_iload_n 0 rfl zd_PW_takeEscaped_57 ?_
      refine zw_iconst zd_PW_takeEscaped_58 ?_
      refine zw_icmp_eq 83 (by omega) (by omega) zd_PW_takeEscaped_59 (by decide) (fun c59 => ?_) (fun c59 => ?_)
      · -- 59 -> 83
        refine zw_sub (L' := [zObj h 0 [.ref ht, .ref hl, .ref hs, .ref ho, .ref hn, .int (zI (p0 + 1)), .int (zI (w0)), .int (zI (r0))], zBRow ht (t) (nt), zTS hs (ts) (pend) (nb) (n)]) [1, 0, 2] rfl rfl ?_
        have e1 : escS t (p0 + 1) = ([], p0 + 1) := by rw [escS, if_neg (by rw [zbI0 (b := sLine (bget t (p0 + 1))) (by omega)]; decide), if_neg (by rw [zbI0 (b := sOct (bget t (p0 + 1))) (by omega)]; decide), if_pos (by omega)]
        have c0 : capN nb (ts.flatten ++ pend).length = nb := capN_id hts2.1
        exact zw_vret hR rfl (by rw [e1, List.append_nil]; show [_, _, zTS hs ts pend (capN nb ((ts.flatten ++ pend).length + 0)) n] = _; rw [Nat.add_zero, c0]) rfl (by omega) (by omega) zd_PW_takeEscaped_83
      · -- 59 -> 62
        refine zw_aload_n 1 rfl zd_PW_takeEscaped_62 ?_
        refine zw_dup rfl zd_PW_takeEscaped_63 ?_
        refine zw_get zc_PW 1 5 rfl (by decide) zf_PW_46 rfl zd_PW_takeEscaped_64 ?_
        refine zw_iconst zd_PW_takeEscaped_67 ?_
        refine zw_iadd zd_PW_takeEscaped_68 ?_
        refine zw_put (L' := [zBRow ht (t) (nt), zObj h 0 [.ref ht, .ref hl, .ref hs, .ref ho, .ref hn, .int (zI ((p0 + 1) + 1)), .int (zI (w0)), .int (zI (r0))], zTS hs (ts) (pend) (nb) (n)]) zc_PW 1 5 rfl (by decide) zf_PW_46 rfl rfl rfl (Nat.le_of_ble_eq_true rfl) rfl zd_PW_takeEscaped_69 ?_
        refine zw_aload_n 1 rfl zd_PW_takeEscaped_72 ?_
        refine zw_get zc_PW 1 2 rfl (by decide) zf_PW_26 rfl zd_PW_takeEscaped_73 ?_
        refine zw_iload_n 0 rfl zd_PW_takeEscaped_76 ?_
        refine zw_callS (a := 0) (As := [.int (zI (bget t (p0 + 1)))]) (rest := [.ref hs]) (L2 := [zBRow ht (t) (nt), zObj h 0 [.ref ht, .ref hl, .ref hs, .ref ho, .ref hn, .int (zI ((p0 + 1) + 1)), .int (zI (w0)), .int (zI (r0))], zTS hs (ts) (pend) (nb) (n)]) (L' := [zBRow ht (t) (nt), zObj h 0 [.ref ht, .ref hl, .ref hs, .ref ho, .ref hn, .int (zI ((p0 + 1) + 1)), .int (zI (w0)), .int (zI (r0))], zTS hs (ts) (pend) (nb) (n)]) (stk' := [.int (zI (meantV (bget t (p0 + 1)))), .ref hs]) (c_PW_meant (bget t (p0 + 1)) (by omega)) [] [0, 1, 2] rfl rfl rfl zcal_PW_meant zl_PW_193 zst_PW_meant (Nat.le_of_ble_eq_true rfl) (Nat.le_of_ble_eq_true rfl) (by omega) (by omega) rfl (Nat.le_of_ble_eq_true rfl) rfl rfl zd_PW_takeEscaped_77 ?_
        have e1 : escS t (p0 + 1) = ([meantV (bget t (p0 + 1)) % 256], p0 + 1 + 1) := by rw [escS, if_neg (by rw [zbI0 (b := sLine (bget t (p0 + 1))) (by omega)]; decide), if_neg (by rw [zbI0 (b := sOct (bget t (p0 + 1))) (by omega)]; decide), if_neg (by omega)]
        have c1 : capN nb ((ts.flatten ++ pend).length + (escS t (p0 + 1)).1.length) = capN nb ((ts.flatten ++ pend).length + 1) := by rw [e1]; rfl
        refine zw_callV (As := [.int (zI (meantV (bget t (p0 + 1))))]) (rest := []) (L2 := [zBRow ht (t) (nt), zObj h 0 [.ref ht, .ref hl, .ref hs, .ref ho, .ref hn, .int (zI ((p0 + 1) + 1)), .int (zI (w0)), .int (zI (r0))]]) (L' := [zTS hs (ts) (pend ++ [(meantV (bget t (p0 + 1))) % 256]) (capN nb ((ts.flatten ++ pend).length + 1)) (n), zBRow ht (t) (nt), zObj h 0 [.ref ht, .ref hl, .ref hs, .ref ho, .ref hn, .int (zI ((p0 + 1) + 1)), .int (zI (w0)), .int (zI (r0))]]) (stk' := []) (c_TS_putC hs (ts) (pend) (nb) (n) (meantV (bget t (p0 + 1))) ((ts.flatten ++ pend).length) (rfl) (by omega) (by omega)) [2] [0, 1] rfl rfl rfl zcal_TS_put zl_PW_160 zin_TS_put zse_TS_put 0 rfl zRv_TS rfl (Nat.le_of_ble_eq_true rfl) (Nat.le_of_ble_eq_true rfl) (by omega) (by omega) rfl (Nat.le_of_ble_eq_true rfl) rfl rfl zd_PW_takeEscaped_80 ?_
        refine zw_sub (L' := [zObj h 0 [.ref ht, .ref hl, .ref hs, .ref ho, .ref hn, .int (zI ((p0 + 1) + 1)), .int (zI (w0)), .int (zI (r0))], zBRow ht (t) (nt), zTS hs (ts) (pend ++ [(meantV (bget t (p0 + 1))) % 256]) (capN nb ((ts.flatten ++ pend).length + 1)) (n)]) [2, 1, 0] rfl rfl ?_
        have e1 : escS t (p0 + 1) = ([((meantV (bget t (p0 + 1))) % 256)], (p0 + 1) + 1) := by rw [escS, if_neg (by rw [zbI0 (b := sLine (bget t (p0 + 1))) (by omega)]; decide), if_neg (by rw [zbI0 (b := sOct (bget t (p0 + 1))) (by omega)]; decide), if_neg (by omega)]
        have c1 : capN nb ((ts.flatten ++ pend).length + (escS t (p0 + 1)).1.length) = capN nb ((ts.flatten ++ pend).length + 1) := by rw [e1]; rfl
        exact zw_vret hR rfl (by rw [c1, e1]) rfl (by omega) (by omega) zd_PW_takeEscaped_83
    · -- 40 -> 43
      refine zw_aload_n 1 rfl zd_PW_takeEscaped_43 ?_
      refine zw_get zc_PW 1 2 rfl (by decide) zf_PW_26 rfl zd_PW_takeEscaped_44 ?_
      refine zw_aload_n 1 rfl zd_PW_takeEscaped_47 ?_
      refine zw_callV (As := []) (rest := [.ref hs]) (L2 := [zTS hs (ts) (pend) (nb) (n)]) (L' := [zObj h 0 [.ref ht, .ref hl, .ref hs, .ref ho, .ref hn, .int (zI ((octS t 3 (p0 + 1) 0).2)), .int (zI (w0)), .int (zI (r0))], zBRow ht (t) (nt), zTS hs (ts) (pend) (nb) (n)]) (stk' := [.int (zI ((octS t 3 (p0 + 1) 0).1)), .ref hs]) (c_PW_readOctal h ht hl hs ho hn t nt (p0 + 1) w0 r0 (by omega)) [1, 0] [2] rfl rfl rfl zcal_PW_readOctal zl_PW_190 zin_PW_readOctal zse_PW_readOctal 0 rfl zRv_obj rfl (Nat.le_of_ble_eq_true rfl) (Nat.le_of_ble_eq_true rfl) (by omega) (by omega) rfl (Nat.le_of_ble_eq_true rfl) rfl rfl zd_PW_takeEscaped_48 ?_
      have e1 : escS t (p0 + 1) = ([(octS t 3 (p0 + 1) 0).1 % 256], (octS t 3 (p0 + 1) 0).2) := by rw [escS, if_neg (by rw [zbI0 (b := sLine (bget t (p0 + 1))) (by omega)]; decide), if_pos (zbI1 (by omega))]
      have c1 : capN nb ((ts.flatten ++ pend).length + (escS t (p0 + 1)).1.length) = capN nb ((ts.flatten ++ pend).length + 1) := by rw [e1]; rfl
      refine zw_callV (As := [.int (zI ((octS t 3 (p0 + 1) 0).1))]) (rest := []) (L2 := [zObj h 0 [.ref ht, .ref hl, .ref hs, .ref ho, .ref hn, .int (zI ((octS t 3 (p0 + 1) 0).2)), .int (zI (w0)), .int (zI (r0))], zBRow ht (t) (nt)]) (L' := [zTS hs (ts) (pend ++ [((octS t 3 (p0 + 1) 0).1) % 256]) (capN nb ((ts.flatten ++ pend).length + 1)) (n), zObj h 0 [.ref ht, .ref hl, .ref hs, .ref ho, .ref hn, .int (zI ((octS t 3 (p0 + 1) 0).2)), .int (zI (w0)), .int (zI (r0))], zBRow ht (t) (nt)]) (stk' := []) (c_TS_putC hs (ts) (pend) (nb) (n) ((octS t 3 (p0 + 1) 0).1) ((ts.flatten ++ pend).length) (rfl) (by omega) (by omega)) [2] [0, 1] rfl rfl rfl zcal_TS_put zl_PW_160 zin_TS_put zse_TS_put 0 rfl zRv_TS rfl (Nat.le_of_ble_eq_true rfl) (Nat.le_of_ble_eq_true rfl) (by omega) (by omega) rfl (Nat.le_of_ble_eq_true rfl) rfl rfl zd_PW_takeEscaped_51 ?_
      refine zw_goto 83 zd_PW_takeEscaped_54 (by decide) ?_
      refine zw_sub (L' := [zObj h 0 [.ref ht, .ref hl, .ref hs, .ref ho, .ref hn, .int (zI ((octS t 3 (p0 + 1) 0).2)), .int (zI (w0)), .int (zI (r0))], zBRow ht (t) (nt), zTS hs (ts) (pend ++ [((octS t 3 (p0 + 1) 0).1) % 256]) (capN nb ((ts.flatten ++ pend).length + 1)) (n)]) [1, 2, 0] rfl rfl ?_
      have e1 : escS t (p0 + 1) = ([(((octS t 3 (p0 + 1) 0).1) % 256)], (octS t 3 (p0 + 1) 0).2) := by rw [escS, if_neg (by rw [zbI0 (b := sLine (bget t (p0 + 1))) (by omega)]; decide), if_pos (zbI1 (by omega))]
      have c1 : capN nb ((ts.flatten ++ pend).length + (escS t (p0 + 1)).1.length) = capN nb ((ts.flatten ++ pend).length + 1) := by rw [e1]; rfl
      exact zw_vret hR rfl (by rw [c1, e1]) rfl (by omega) (by omega) zd_PW_takeEscaped_83
  · -- 26 -> 29
    refine zw_aload_n 1 rfl zd_PW_takeEscaped_29 ?_
    refine zw_callV (As := []) (rest := []) (L2 := [zTS hs (ts) (pend) (nb) (n)]) (L' := [zObj h 0 [.ref ht, .ref hl, .ref hs, .ref ho, .ref hn, .int (zI (lnPos t (p0 + 1))), .int (zI (w0)), .int (zI (r0))], zBRow ht (t) (nt), zTS hs (ts) (pend) (nb) (n)]) (stk' := []) (c_PW_skipLineEnd h ht hl hs ho hn t nt (p0 + 1) w0 r0 (by omega)) [1, 0] [2] rfl rfl rfl zcal_PW_skipLineEnd zl_PW_184 zin_PW_skipLineEnd zse_PW_skipLineEnd 0 rfl zRv_obj rfl (Nat.le_of_ble_eq_true rfl) (Nat.le_of_ble_eq_true rfl) (by omega) (by omega) rfl (Nat.le_of_ble_eq_true rfl) rfl rfl zd_PW_takeEscaped_30 ?_
    refine zw_goto 83 zd_PW_takeEscaped_33 (by decide) ?_
    have e1 : escS t (p0 + 1) = ([], lnPos t (p0 + 1)) := by rw [escS, if_pos (zbI1 (by omega))]
    have c0 : capN nb (ts.flatten ++ pend).length = nb := capN_id hts2.1
    exact zw_vret hR rfl (by rw [e1, List.append_nil]; show [_, _, zTS hs ts pend (capN nb ((ts.flatten ++ pend).length + 0)) n] = _; rw [Nat.add_zero, c0]) rfl (by omega) (by omega) zd_PW_takeEscaped_83
set_option maxHeartbeats 4000000 in
set_option maxRecDepth 100000 in
theorem c_PW_endText1 (h ht hl hs ho hn : Nat) (p0 w0 r0 : Int) (ws : List (Int32 × Int32 × Int32)) (nw : Nat) (ts : List (List Int)) (pend : List Int) (nb n : Nat) (bg : Int) (hw : ws.length < 16384) (hs1 : ts.length < 16384) : zCT zy_PW_endText zm_PW_endText (4 * (capN n (addT ts pend).length - n) + 3 * (capN nw (ws.length + 1) - nw)) (8 * (capN n (addT ts pend).length - n) + 6 * (capN nw (ws.length + 1) - nw)) [.ref h, .int (zI bg), .int (zI 1)] [zObj h 0 [.ref ht, .ref hl, .ref hs, .ref ho, .ref hn, .int (zI (p0)), .int (zI (w0)), .int (zI (r0))], zWL hl (ws) (nw), zTS hs (ts) (pend) (nb) (n)] (none) [zObj h 0 [.ref ht, .ref hl, .ref hs, .ref ho, .ref hn, .int (zI (p0 + 1)), .int (zI (w0)), .int (zI (r0))], zWL hl (ws ++ [(zI 5, zI ((ixOf ts pend : Nat) : Int), zI bg)]) (capN nw (ws.length + 1)), zTS hs (addT ts pend) ([]) (nb) (capN n (addT ts pend).length)] := by
  refine zCT.of [(0, .ref h), (1, .int (zI (bg))), (2, .int (zI (1)))] rfl (by decide) rfl (fun h => by first | rfl | cases h) (Nat.le_of_ble_eq_true rfl) (fun X hR => ?_)
  refine zw_fact 1 rfl (fun G w h => zWL_fact h) (fun hwl => ?_)
  refine zw_fact 2 rfl (fun G w h => zTS_fact h) (fun hts => ?_)
  obtain ⟨hts1, hts2, hts3, hts4⟩ := hts
  have mW := capN_ge nw (ws.length + 1)
  have mN := capN_ge n (addT ts pend).length
  refine zw_iload_n 2 rfl zd_PW_endText_0 ?_
  refine zw_if_eq 33 (by omega) zd_PW_endText_1 (by decide) (fun c1 => ?_) (fun c1 => ?_)
  · -- 1 -> 33
    exact absurd c1 (by decide)
  · -- 1 -> 4
    refine zw_aload_n 0 rfl zd_PW_endText_4 ?_
    refine zw_get zc_PW 0 1 rfl (by decide) zf_PW_19 rfl zd_PW_endText_5 ?_
    refine zw_iconst zd_PW_endText_8 ?_
    refine zw_aload_n 0 rfl zd_PW_endText_9 ?_
    refine zw_get zc_PW 0 2 rfl (by decide) zf_PW_26 rfl zd_PW_endText_10 ?_
    refine zw_callV (As := []) (rest := [.int (zI (5)), .ref hl]) (L2 := [zObj h 0 [.ref ht, .ref hl, .ref hs, .ref ho, .ref hn, .int (zI (p0)), .int (zI (w0)), .int (zI (r0))], zWL hl (ws) (nw)]) (L' := [zTS hs (addT ts pend) ([]) (nb) (capN n (addT ts pend).length), zObj h 0 [.ref ht, .ref hl, .ref hs, .ref ho, .ref hn, .int (zI (p0)), .int (zI (w0)), .int (zI (r0))], zWL hl (ws) (nw)]) (stk' := [.int (zI (((ixOf ts pend : Nat) : Int))), .int (zI (5)), .ref hl]) (c_TS_keepC hs (ts) (pend) (nb) (n) (by omega) (by omega)) [2] [0, 1] rfl rfl rfl zcal_TS_keep zl_PW_163 zin_TS_keep zse_TS_keep 0 rfl zRv_TS rfl (Nat.le_of_ble_eq_true rfl) (Nat.le_of_ble_eq_true rfl) (by omega) (by omega) rfl (Nat.le_of_ble_eq_true rfl) rfl rfl zd_PW_endText_13 ?_
    refine zw_iload_n 1 rfl zd_PW_endText_16 ?_
    refine zw_callV (As := [.int (zI (5)), .int (zI (((ixOf ts pend : Nat) : Int))), .int (zI (bg))]) (rest := []) (L2 := [zTS hs (addT ts pend) ([]) (nb) (capN n (addT ts pend).length), zObj h 0 [.ref ht, .ref hl, .ref hs, .ref ho, .ref hn, .int (zI (p0)), .int (zI (w0)), .int (zI (r0))]]) (L' := [zWL hl (ws ++ [((zI (5)), (zI (((ixOf ts pend : Nat) : Int))), (zI (bg)))]) (capN (nw) ((ws).length + 1)), zTS hs (addT ts pend) ([]) (nb) (capN n (addT ts pend).length), zObj h 0 [.ref ht, .ref hl, .ref hs, .ref ho, .ref hn, .int (zI (p0)), .int (zI (w0)), .int (zI (r0))]]) (stk' := []) (c_WL_addC hl (ws) (nw) (zI (5)) (zI (((ixOf ts pend : Nat) : Int))) (zI (bg)) (by omega) (by omega)) [2] [0, 1] rfl rfl rfl zcal_WL_add zl_PW_154 zin_WL_add zse_WL_add 0 rfl zRv_WL rfl (Nat.le_of_ble_eq_true rfl) (Nat.le_of_ble_eq_true rfl) (by omega) (by omega) rfl (Nat.le_of_ble_eq_true rfl) rfl rfl zd_PW_endText_17 ?_
    refine zw_aload_n 0 rfl zd_PW_endText_20 ?_
    refine zw_dup rfl zd_PW_endText_21 ?_
    refine zw_get zc_PW 2 5 rfl (by decide) zf_PW_46 rfl zd_PW_endText_22 ?_
    refine zw_iconst zd_PW_endText_25 ?_
    refine zw_iadd zd_PW_endText_26 ?_
    refine zw_put (L' := [zWL hl (ws ++ [((zI (5)), (zI (((ixOf ts pend : Nat) : Int))), (zI (bg)))]) (capN (nw) ((ws).length + 1)), zTS hs (addT ts pend) ([]) (nb) (capN n (addT ts pend).length), zObj h 0 [.ref ht, .ref hl, .ref hs, .ref ho, .ref hn, .int (zI (p0 + 1)), .int (zI (w0)), .int (zI (r0))]]) zc_PW 2 5 rfl (by decide) zf_PW_46 rfl rfl rfl (Nat.le_of_ble_eq_true rfl) rfl zd_PW_endText_27 ?_
    refine zw_goto 45 zd_PW_endText_30 (by decide) ?_
    refine zw_sub (L' := [zObj h 0 [.ref ht, .ref hl, .ref hs, .ref ho, .ref hn, .int (zI (p0 + 1)), .int (zI (w0)), .int (zI (r0))], zWL hl (ws ++ [((zI (5)), (zI (((ixOf ts pend : Nat) : Int))), (zI (bg)))]) (capN (nw) ((ws).length + 1)), zTS hs (addT ts pend) ([]) (nb) (capN n (addT ts pend).length)]) [2, 0, 1] rfl rfl ?_
    exact zw_vret hR rfl rfl rfl (by omega) (by omega) zd_PW_endText_45
set_option maxHeartbeats 4000000 in
set_option maxRecDepth 100000 in
theorem c_PW_endText0 (h ht hl hs ho hn : Nat) (t : List Int) (nt : Nat) (p0 w0 r0 : Int) (bg : Int) : zCT zy_PW_endText zm_PW_endText (0) (0) [.ref h, .int (zI bg), .int (zI 0)] [zObj h 0 [.ref ht, .ref hl, .ref hs, .ref ho, .ref hn, .int (zI (p0)), .int (zI (w0)), .int (zI (r0))], zBRow ht (t) (nt)] (none) [zObj h 0 [.ref ht, .ref hl, .ref hs, .ref ho, .ref hn, .int (zI (p0)), .int (zI (2)), .int (zI (((t.length : Nat) : Int)))], zBRow ht (t) (nt)] := by
  refine zCT.of [(0, .ref h), (1, .int (zI (bg))), (2, .int (zI (0)))] rfl (by decide) rfl (fun h => by first | rfl | cases h) (Nat.le_of_ble_eq_true rfl) (fun X hR => ?_)
  refine zw_fact 1 rfl (fun G w h => zBR_fact h) (fun hbr => ?_)
  obtain ⟨⟨ht1, ht2, ht3⟩, hby⟩ := hbr
  refine zw_iload_n 2 rfl zd_PW_endText_0 ?_
  refine zw_if_eq 33 (by omega) zd_PW_endText_1 (by decide) (fun c1 => ?_) (fun c1 => ?_)
  · -- 1 -> 33
    refine zw_aload_n 0 rfl zd_PW_endText_33 ?_
    refine zw_iconst zd_PW_endText_34 ?_
    refine zw_aload_n 0 rfl zd_PW_endText_35 ?_
    refine zw_get zc_PW 0 0 rfl (by decide) zf_PW_10 rfl zd_PW_endText_36 ?_
    refine zw_callV (As := []) (rest := [.int (zI (2)), .ref h]) (L2 := [zObj h 0 [.ref ht, .ref hl, .ref hs, .ref ho, .ref hn, .int (zI (p0)), .int (zI (w0)), .int (zI (r0))]]) (L' := [zBRow ht (t) (nt), zObj h 0 [.ref ht, .ref hl, .ref hs, .ref ho, .ref hn, .int (zI (p0)), .int (zI (w0)), .int (zI (r0))]]) (stk' := [.int (zI ((((t).length : Nat) : Int))), .int (zI (2)), .ref h]) (c_BR_count ht (t) (nt) ((t).length) (rfl)) [1] [0] rfl rfl rfl zcal_BR_count zl_PW_56 zin_BR_count zse_BR_count 0 rfl zRv_BRow rfl (Nat.le_of_ble_eq_true rfl) (Nat.le_of_ble_eq_true rfl) (by omega) (by omega) rfl (Nat.le_of_ble_eq_true rfl) rfl rfl zd_PW_endText_39 ?_
    refine zw_callV (As := [.int (zI (2)), .int (zI ((((t).length : Nat) : Int)))]) (rest := []) (L2 := [zBRow ht (t) (nt)]) (L' := [zObj h 0 [.ref ht, .ref hl, .ref hs, .ref ho, .ref hn, .int (zI (p0)), .int (zI (2)), .int (zI ((((t).length : Nat) : Int)))], zBRow ht (t) (nt)]) (stk' := []) (c_PW_goWrong h ht hl hs ho hn p0 w0 r0 2 ((((t).length : Nat) : Int))) [1] [0] rfl rfl rfl zcal_PW_goWrong zl_PW_75 zin_PW_goWrong zse_PW_goWrong 0 rfl zRv_obj rfl (Nat.le_of_ble_eq_true rfl) (Nat.le_of_ble_eq_true rfl) (by omega) (by omega) rfl (Nat.le_of_ble_eq_true rfl) rfl rfl zd_PW_endText_42 ?_
    exact zw_vret hR rfl rfl rfl (by omega) (by omega) zd_PW_endText_45
  · -- 1 -> 4
    exact absurd c1 (by decide)
