/-! THE CLASS: what it shows -/
def zPWA (h : Nat) (t : List Int) (nt : Nat) (ws : List (Int32 × Int32 × Int32)) (ts : List (List Int)) (r : Int) : zAt := fun G w => ∃ x : (Nat × Nat × Nat × Nat × Nat) × (Int × Int) × (List Int × Nat × Nat × Nat) × List Int32, True ∧
  zSt [zObj h 0 [.ref x.1.1, .ref x.1.2.1, .ref x.1.2.2.1, .ref x.1.2.2.2.1, .ref x.1.2.2.2.2, .int (zI x.2.1.1), .int (zI x.2.1.2), .int (zI r)], zBRow x.1.1 t nt, zWL x.1.2.1 ws x.2.2.1.2.2.2, zTS x.1.2.2.1 ts x.2.2.1.1 x.2.2.1.2.1 x.2.2.1.2.2.1, zIRow x.1.2.2.2.1 x.2.2.2 64 64, zNumA x.1.2.2.2.2] G w
theorem zRv_PWA {h nt : Nat} {t : List Int} {ws : List (Int32 × Int32 × Int32)} {ts : List (List Int)} {r : Int} : zRv (zPWA h t nt ws ts r) h 0 := fun _ _ ⟨_, _, hs⟩ => zRv_st hs
theorem zPWA_fact {h nt : Nat} {t : List Int} {ws : List (Int32 × Int32 × Int32)} {ts : List (List Int)} {r : Int} {G : zG} {w : va_W} (q : zPWA h t nt ws ts r G w) : (t.length ≤ nt ∧ 0 < nt ∧ nt ≤ 131072) ∧ (∀ b ∈ t, 0 ≤ b ∧ b ≤ 255) ∧ ws.length ≤ 16384 ∧ ts.length ≤ 16384 ∧ difT ts ∧ ∀ b ∈ ts.flatten, 0 ≤ b ∧ b ≤ 255 := by
  obtain ⟨x, -, h2⟩ := q
  obtain ⟨w1, y⟩ := zSt_in (j := 1) h2 rfl
  obtain ⟨w2, z⟩ := zSt_in (j := 2) h2 rfl
  obtain ⟨w3, v⟩ := zSt_in (j := 3) h2 rfl
  have a := zBR_fact y
  have b := zWL_fact z
  have c := zTS_fact v
  exact ⟨a.1, a.2, b.2.2.2, c.1.2.2.2, c.2.2.1, fun b hb => c.2.2.2 b (List.mem_append_left _ hb)⟩
theorem addT_ge (ts : List (List Int)) (xs : List Int) : ts.length ≤ (addT ts xs).length := by
  unfold addT
  split
  · exact Nat.le_refl _
  · rw [List.length_append]; omega
theorem txS_mono (u : zU) (kd : Int) (xs : List Int) (en : Int) : u.ws.length ≤ (txS u kd xs en).ws.length ∧ u.ts.length ≤ (txS u kd xs en).ts.length ∧ u.mb ≤ (txS u kd xs en).mb ∧ ((txS u kd xs en).y = u.y ∨ (0 ≤ (txS u kd xs en).y ∧ (txS u kd xs en).y ≤ 8)) := by
  refine ⟨?_, addT_ge _ _, Nat.le_max_left _ _, Or.inl rfl⟩
  show u.ws.length ≤ (u.ws ++ [_]).length
  rw [List.length_append]; omega
theorem flS_mono (u : zU) (y r : Int) (h : 0 ≤ y ∧ y ≤ 8) : u.ws.length ≤ (flS u y r).ws.length ∧ u.ts.length ≤ (flS u y r).ts.length ∧ u.mb ≤ (flS u y r).mb ∧ ((flS u y r).y = u.y ∨ (0 ≤ (flS u y r).y ∧ (flS u y r).y ≤ 8)) := ⟨Nat.le_refl _, Nat.le_refl _, Nat.le_refl _, Or.inr h⟩
theorem oneS_mono (t : List Int) (u : zU) : u.ws.length ≤ (oneS t u).ws.length ∧ u.ts.length ≤ (oneS t u).ts.length ∧ u.mb ≤ (oneS t u).mb ∧ ((oneS t u).y = u.y ∨ (0 ≤ (oneS t u).y ∧ (oneS t u).y ≤ 8)) := by
  have h8 : ∀ a : Int, 0 ≤ a → a ≤ 8 → 0 ≤ a ∧ a ≤ 8 := fun a h1 h2 => ⟨h1, h2⟩
  unfold oneS
  split
  · unfold brkS
    split
    · exact txS_mono ..
    · exact ⟨Nat.le_refl _, Nat.le_refl _, Nat.le_max_left _ _, Or.inr (h8 2 (by decide) (by decide))⟩
  split
  · exact flS_mono _ _ _ (by decide)
  split
  · split
    · exact flS_mono _ _ _ (by decide)
    · exact txS_mono ..
  split
  · split
    · exact txS_mono ..
    split
    · unfold prsS
      split
      · exact txS_mono ..
      split
      · exact ⟨Nat.le_refl _, Nat.le_refl _, Nat.le_max_left _ _, Or.inr (h8 2 (by decide) (by decide))⟩
      · exact ⟨Nat.le_refl _, Nat.le_refl _, Nat.le_max_left _ _, Or.inr (h8 3 (by decide) (by decide))⟩
    · exact flS_mono _ _ _ (by decide)
  split
  · exact txS_mono ..
  split
  · unfold opnS
    split
    · refine ⟨?_, Nat.le_refl _, Nat.le_refl _, Or.inl rfl⟩
      show u.ws.length ≤ (u.ws ++ [_]).length
      rw [List.length_append]; omega
    · exact flS_mono _ _ _ (by decide)
  split
  · unfold clsS
    split
    · exact flS_mono _ _ _ (by decide)
    · refine ⟨?_, Nat.le_refl _, Nat.le_refl _, Or.inl rfl⟩
      show u.ws.length ≤ (wsetN u.ws (u.op.getD (u.op.length - 1) 0) (zI ((u.ws.length : Nat) : Int)) ++ [_]).length
      rw [List.length_append, wsetN_len]; omega
  · unfold rowS
    split
    · exact flS_mono _ _ _ (by decide)
    split
    · exact txS_mono ..
    split
    · exact flS_mono _ _ _ (by decide)
    · refine ⟨?_, Nat.le_refl _, Nat.le_refl _, Or.inl rfl⟩
      show u.ws.length ≤ (u.ws ++ [_]).length
      rw [List.length_append]; omega
theorem c_PW_cutWordD (h ht hl hs ho hn : Nat) (t : List Int) (nt : Nat) (p0 r0 : Int) (ws : List (Int32 × Int32 × Int32)) (nw : Nat) (ts : List (List Int)) (nb n : Nat) (op : List Int) (mb : Nat) (u1 : zU) (hu : oneS t ⟨p0, ws, ts, op, 0, r0, [], mb⟩ = u1) (hp : 0 ≤ p0 ∧ p0 < t.length) (hF : ts.flatten.length + t.length < 60000) (hw : ws.length < 16384) (hs1 : ts.length < 16384) (hmb : mb ≤ nb) (hlv : lvOut t p0 = 0) (ho64 : op.length ≤ 64) (hox : ∀ x ∈ op, 0 ≤ x ∧ x < ws.length) (d1 d2 d3 : Nat) (hd1 : capN nb u1.mb - nb = d1) (hd2 : capN n u1.ts.length - n = d2) (hd3 : capN nw u1.ws.length - nw = d3) : zCT zy_PW_cutWord zm_PW_cutWord (d1 + 4 * d2 + 3 * d3) (2 * d1 + 8 * d2 + 6 * d3) [.ref h] [zObj h 0 [.ref ht, .ref hl, .ref hs, .ref ho, .ref hn, .int (zI (p0)), .int (zI (0)), .int (zI (r0))], zBRow ht (t) (nt), zWL hl (ws) (nw), zTS hs (ts) ([]) (nb) (n), zIRow ho (op.map zI) (64) (64), zNumA hn] none [zObj h 0 [.ref ht, .ref hl, .ref hs, .ref ho, .ref hn, .int (zI (u1.p)), .int (zI (u1.y)), .int (zI (u1.r))], zBRow ht (t) (nt), zWL hl (u1.ws) (capN nw u1.ws.length), zTS hs (u1.ts) (u1.pend) (capN nb u1.mb) (capN n u1.ts.length), zIRow ho (u1.op.map zI) (64) (64), zNumA hn] := by
  subst hd1 hd2 hd3
  exact c_PW_cutWord h ht hl hs ho hn t nt p0 r0 ws nw ts nb n op mb u1 hu hp hF hw hs1 hmb hlv ho64 hox
theorem runS_stop {t : List Int} : ∀ (k : Nat) (u : zU), ¬ (u.p < t.length ∧ u.y = 0) → runS t k u = u
  | 0, u, _ => rfl
  | k + 1, u, h => by unfold runS; rw [if_pos h]
theorem runS_skip {t : List Int} {k : Nat} {u : zU} (h1 : u.p < t.length) (h2 : u.y = 0) (h3 : lvOut t u.p = 1) : runS t (k + 1) u = runS t k (skpS t u) := by
  rw [runS, if_neg (fun q => q ⟨h1, h2⟩), if_pos h3]
theorem runS_one {t : List Int} {k : Nat} {u : zU} (h1 : u.p < t.length) (h2 : u.y = 0) (h3 : lvOut t u.p = 0) : runS t (k + 1) u = runS t k (oneS t u) := by
  rw [runS, if_neg (fun q => q ⟨h1, h2⟩), if_neg (by omega)]
theorem lvPos_0 {t : List Int} {p : Int} (h : lvOut t p = 0) : lvPos t p = p := by
  unfold lvOut at h
  unfold lvPos
  split
  · rename_i e; rw [if_pos e] at h; omega
  · rename_i e
    rw [if_neg e] at h
    split
    · rename_i e2; rw [if_pos e2] at h; omega
    · rfl
/-- the byte of a long at a shift, as the class takes it -/
def tyX (b : Int64) (s : Int) : Int32 := (b.toUInt64 >>> ((zI s).toInt64.toUInt64 &&& Int64.toUInt64 63)).toInt64.toInt32
def tyS (b : Int64) : Nat → List Int
  | 0 => []
  | k + 1 => ((tyX b (8 * (k : Int))).toInt % 256) :: tyS b k
theorem tyS_len (b : Int64) : ∀ k, (tyS b k).length = k
  | 0 => rfl
  | k + 1 => by show (_ :: _).length = _; rw [List.length_cons, tyS_len b k]
set_option maxHeartbeats 4000000 in
set_option maxRecDepth 100000 in
theorem c_PW_cut (h : Nat) (t : List Int) (nt : Nat) (ws : List (Int32 × Int32 × Int32)) (ts : List (List Int)) (r0 : Int) (c1 : zU) (hc : cutS t = c1) (ht4 : t.length ≤ 10000) : zCT zy_PW_cut zm_PW_cut (16 * t.length) (32 * t.length) [.ref h] [zPWA h (t) (nt) (ws) (ts) (r0)] (some (.int (zI (if c1.y = 0 then ((c1.ws.length : Nat) : Int) else -c1.y)))) [zPWA h ([]) (nt) (c1.ws) (c1.ts) (c1.r)] := by
  refine zCT.of [(0, .ref h)] rfl (by decide) rfl (fun h => by first | rfl | cases h) (Nat.le_of_ble_eq_true rfl) (fun X hR => ?_)
  refine zw_unp (fun G ws h => h) (fun x0 hx0 => ?_)
  obtain ⟨⟨ht, hl, hs, ho, hn⟩, ⟨p0, w0⟩, ⟨pend, nb, n, nw⟩, op⟩ := x0
  simp only [List.cons_append, List.nil_append]
  refine zw_fact 1 rfl (fun G w h => zBR_fact h) (fun hbr => ?_)
  obtain ⟨⟨ht1, ht2, ht3⟩, hby⟩ := hbr
  refine zw_fact 2 rfl (fun G w h => zWL_fact h) (fun hwl => ?_)
  refine zw_fact 3 rfl (fun G w h => zTS_fact h) (fun hts => ?_)
  obtain ⟨hts1, hts2, hts3, hts4⟩ := hts
  have lp : ∀ (fuel : Nat) (p : Int) (ws1 : List (Int32 × Int32 × Int32)) (ts1 : List (List Int)) (op1 : List Int) (y : Int) (r : Int) (pd : List Int) (mb : Nat) (stp : Int) (k1 : Nat) (k2 : Nat) (k3 : Nat), (zUok t (⟨p, ws1, ts1, op1, y, r, pd, mb⟩ : zU)) → (runS t ((t.length : Int) - stp).toNat (⟨p, ws1, ts1, op1, y, r, pd, mb⟩ : zU) = runS t t.length (⟨0, [], [], [], 0, t.length, [], 0⟩ : zU)) → ((0 ≤ stp ∧ stp ≤ t.length) ∧ (stp ≤ p ∨ y ≠ 0) ∧ (0 ≤ y ∧ y ≤ 8)) → (k1 + nb = capN nb mb ∧ k2 + n = capN n ts1.length ∧ k3 + nw = capN nw ws1.length) → ((t.length : Int) - stp).toNat < fuel → zZ X zm_PW_cut (16 * t.length) (32 * t.length) (k1 + 4 * k2 + 3 * k3) (2 * k1 + 8 * k2 + 6 * k3) [zObj h 0 [.ref ht, .ref hl, .ref hs, .ref ho, .ref hn, .int (zI (p)), .int (zI (y)), .int (zI (r))], zBRow ht (t) (nt), zWL hl (ws1) (capN nw ws1.length), zTS hs (ts1) (pd) (capN nb mb) (capN n ts1.length), zIRow ho (op1.map zI) (64) (64), zNumA hn] 15 [(0, .ref h), (1, .int (zI (((t.length : Nat) : Int)))), (2, .int (zI (stp)))] [] := by
    intro fuel
    induction fuel with
    | zero => intro p ws1 ts1 op1 y r pd mb stp k1 k2 k3 g0 g1 g2 g3 hm; exact absurd hm (Nat.not_lt_zero _)
    | succ fuel ih =>
      intro p ws1 ts1 op1 y r pd mb stp k1 k2 k3 g0 g1 g2 g3 hm
      have gy := g2.2.2
      have ok0 := id g0
      obtain ⟨o1, o2, o3, o4, o5, o6, o7, o8, o9, o10⟩ := ok0
      dsimp only [zU.p, zU.ws, zU.ts, zU.op, zU.y, zU.r, zU.pend, zU.mb] at o1 o2 o3 o4 o5 o6 o7 o8 o9 o10
      have cg_nb := capN_ge nb mb
      have cl_nb : capN nb mb ≤ nb + 2 * mb := by have := capN_le nb mb; omega
      have cg_n := capN_ge n ts1.length
      have cl_n : capN n ts1.length ≤ n + 2 * ts1.length := by have := capN_le n ts1.length; omega
      have cg_nw := capN_ge nw ws1.length
      have cl_nw : capN nw ws1.length ≤ nw + 2 * ws1.length := by have := capN_le nw ws1.length; omega
      refine zw_iload_n 2 rfl zd_PW_cut_15 ?_
      refine zw_iload_n 1 rfl zd_PW_cut_16 ?_
      refine zw_icmp_ge 52 (by omega) (by omega) zd_PW_cut_17 (by decide) (fun c17 => ?_) (fun c17 => ?_)
      · -- 17 -> 52
        have eR : runS t t.length (⟨0, [], [], [], 0, t.length, [], 0⟩ : zU) = (⟨p, ws1, ts1, op1, y, r, pd, mb⟩ : zU) := by
          rw [← g1]
          first | exact runS_stop _ _ (fun q => by have q1 : p < t.length := q.1; have q2 : y = 0 := q.2; omega) | (rw [show ((t.length : Int) - stp).toNat = 0 by omega]; rfl)
        refine zw_aload_n 0 rfl zd_PW_cut_52 ?_
        refine zw_get zc_PW 0 6 rfl (by decide) zf_PW_50 rfl zd_PW_cut_53 ?_
        refine zw_if_ne 75 (by omega) zd_PW_cut_56 (by decide) (fun c56 => ?_) (fun c56 => ?_)
        · -- 56 -> 75
          obtain rfl : (⟨p, ws1, ts1, op1, y, r, pd, mb⟩ : zU) = c1 := by rw [← hc]; unfold cutS; rw [eR]; dsimp only [zU.p, zU.ws, zU.ts, zU.op, zU.y, zU.r, zU.pend, zU.mb]; rw [if_neg (by omega)]
          dsimp only [zU.p, zU.ws, zU.ts, zU.op, zU.y, zU.r, zU.pend, zU.mb] at hR ⊢
          refine zw_aload_n 0 rfl zd_PW_cut_75 ?_
          refine zw_get zc_PW 0 0 rfl (by decide) zf_PW_10 rfl zd_PW_cut_76 ?_
          refine zw_iconst zd_PW_cut_79 ?_
          refine zw_callV (As := [.int (zI (0))]) (rest := []) (L2 := [zObj h 0 [.ref ht, .ref hl, .ref hs, .ref ho, .ref hn, .int (zI (p)), .int (zI (y)), .int (zI (r))], zWL hl (ws1) (capN nw ws1.length), zTS hs (ts1) (pd) (capN nb mb) (capN n ts1.length), zIRow ho (op1.map zI) (64) (64), zNumA hn]) (L' := [zBRow ht (rshort (t) (0)) (nt), zObj h 0 [.ref ht, .ref hl, .ref hs, .ref ho, .ref hn, .int (zI (p)), .int (zI (y)), .int (zI (r))], zWL hl (ws1) (capN nw ws1.length), zTS hs (ts1) (pd) (capN nb mb) (capN n ts1.length), zIRow ho (op1.map zI) (64) (64), zNumA hn]) (stk' := []) (c_BR_shorten ht (t) (nt) (0) (by omega)) [1] [0, 2, 3, 4, 5] rfl rfl rfl zcal_BR_shorten zl_PW_79 zin_BR_shorten zse_BR_shorten 0 rfl zRv_BRow rfl (Nat.le_of_ble_eq_true rfl) (Nat.le_of_ble_eq_true rfl) (by omega) (by omega) rfl (Nat.le_of_ble_eq_true rfl) rfl rfl zd_PW_cut_80 ?_
          refine zw_aload_n 0 rfl zd_PW_cut_83 ?_
          refine zw_get zc_PW 1 6 rfl (by decide) zf_PW_50 rfl zd_PW_cut_84 ?_
          refine zw_if_ne 100 (by omega) zd_PW_cut_87 (by decide) (fun c87 => ?_) (fun c87 => ?_)
          · -- 87 -> 100
            refine zw_aload_n 0 rfl zd_PW_cut_100 ?_
            refine zw_get zc_PW 1 6 rfl (by decide) zf_PW_50 rfl zd_PW_cut_101 ?_
            refine zw_ineg zd_PW_cut_104 ?_
            refine zw_sub (L' := [zObj h 0 [.ref ht, .ref hl, .ref hs, .ref ho, .ref hn, .int (zI (p)), .int (zI (y)), .int (zI (r))], zBRow ht (rshort (t) (0)) (nt), zWL hl (ws1) (capN nw ws1.length), zTS hs (ts1) (pd) (capN nb mb) (capN n ts1.length), zIRow ho (op1.map zI) (64) (64), zNumA hn]) [1, 0, 2, 3, 4, 5] rfl rfl ?_
            refine zw_pack (at0 := zPWA h (rshort (t) (0)) (nt) (ws1) (ts1) (r)) (Ls := [zObj h 0 [.ref ht, .ref hl, .ref hs, .ref ho, .ref hn, .int (zI (p)), .int (zI (y)), .int (zI (r))], zBRow ht (rshort (t) (0)) (nt), zWL hl (ws1) (capN nw ws1.length), zTS hs (ts1) (pd) (capN nb mb) (capN n ts1.length), zIRow ho (op1.map zI) (64) (64), zNumA hn]) (L2 := []) rfl (fun G w h => ⟨((ht, hl, hs, ho, hn), (p, y), (pd, capN nb mb, capN n ts1.length, capN nw ws1.length), op1.map zI), trivial, h⟩) ?_
            first | (exfalso; omega) | exact zw_iret hR (by first | rw [if_pos (by omega)] | rw [if_neg (by omega)]) (by rw [rshort0]) rfl (by omega) (by omega) zd_PW_cut_105
          · -- 87 -> 90
            refine zw_aload_n 0 rfl zd_PW_cut_90 ?_
            refine zw_get zc_PW 1 1 rfl (by decide) zf_PW_19 rfl zd_PW_cut_91 ?_
            refine zw_callV (As := []) (rest := []) (L2 := [zBRow ht (rshort (t) (0)) (nt), zObj h 0 [.ref ht, .ref hl, .ref hs, .ref ho, .ref hn, .int (zI (p)), .int (zI (y)), .int (zI (r))], zTS hs (ts1) (pd) (capN nb mb) (capN n ts1.length), zIRow ho (op1.map zI) (64) (64), zNumA hn]) (L' := [zWL hl (ws1) (capN nw ws1.length), zBRow ht (rshort (t) (0)) (nt), zObj h 0 [.ref ht, .ref hl, .ref hs, .ref ho, .ref hn, .int (zI (p)), .int (zI (y)), .int (zI (r))], zTS hs (ts1) (pd) (capN nb mb) (capN n ts1.length), zIRow ho (op1.map zI) (64) (64), zNumA hn]) (stk' := [.int (zI ((((ws1).length : Nat) : Int)))]) (c_WL_count hl (ws1) (capN nw ws1.length)) [2] [0, 1, 3, 4, 5] rfl rfl rfl zcal_WL_count zl_PW_82 zin_WL_count zse_WL_count 0 rfl zRv_WL rfl (Nat.le_of_ble_eq_true rfl) (Nat.le_of_ble_eq_true rfl) (by omega) (by omega) rfl (Nat.le_of_ble_eq_true rfl) rfl rfl zd_PW_cut_94 ?_
            refine zw_goto 105 zd_PW_cut_97 (by decide) ?_
            refine zw_sub (L' := [zObj h 0 [.ref ht, .ref hl, .ref hs, .ref ho, .ref hn, .int (zI (p)), .int (zI (y)), .int (zI (r))], zBRow ht (rshort (t) (0)) (nt), zWL hl (ws1) (capN nw ws1.length), zTS hs (ts1) (pd) (capN nb mb) (capN n ts1.length), zIRow ho (op1.map zI) (64) (64), zNumA hn]) [2, 1, 0, 3, 4, 5] rfl rfl ?_
            refine zw_pack (at0 := zPWA h (rshort (t) (0)) (nt) (ws1) (ts1) (r)) (Ls := [zObj h 0 [.ref ht, .ref hl, .ref hs, .ref ho, .ref hn, .int (zI (p)), .int (zI (y)), .int (zI (r))], zBRow ht (rshort (t) (0)) (nt), zWL hl (ws1) (capN nw ws1.length), zTS hs (ts1) (pd) (capN nb mb) (capN n ts1.length), zIRow ho (op1.map zI) (64) (64), zNumA hn]) (L2 := []) rfl (fun G w h => ⟨((ht, hl, hs, ho, hn), (p, y), (pd, capN nb mb, capN n ts1.length, capN nw ws1.length), op1.map zI), trivial, h⟩) ?_
            first | (exfalso; omega) | exact zw_iret hR (by first | rw [if_pos (by omega)] | rw [if_neg (by omega)]) (by rw [rshort0]) rfl (by omega) (by omega) zd_PW_cut_105
        · -- 56 -> 59
          refine zw_aload_n 0 rfl zd_PW_cut_59 ?_
          refine zw_get zc_PW 0 3 rfl (by decide) zf_PW_35 rfl zd_PW_cut_60 ?_
          refine zw_callV (As := []) (rest := []) (L2 := [zObj h 0 [.ref ht, .ref hl, .ref hs, .ref ho, .ref hn, .int (zI (p)), .int (zI (y)), .int (zI (r))], zBRow ht (t) (nt), zWL hl (ws1) (capN nw ws1.length), zTS hs (ts1) (pd) (capN nb mb) (capN n ts1.length), zNumA hn]) (L' := [zIRow ho (op1.map zI) (64) (64), zObj h 0 [.ref ht, .ref hl, .ref hs, .ref ho, .ref hn, .int (zI (p)), .int (zI (y)), .int (zI (r))], zBRow ht (t) (nt), zWL hl (ws1) (capN nw ws1.length), zTS hs (ts1) (pd) (capN nb mb) (capN n ts1.length), zNumA hn]) (stk' := [.int (zI (((op1.length : Nat) : Int)))]) (c_IR_count ho (op1.map zI) (64) (64) (op1.length) (List.length_map ..)) [4] [0, 1, 2, 3, 5] rfl rfl rfl zcal_IR_count zl_PW_74 zin_IR_count zse_IR_count 0 rfl zRv_IRow rfl (Nat.le_of_ble_eq_true rfl) (Nat.le_of_ble_eq_true rfl) (by omega) (by omega) rfl (Nat.le_of_ble_eq_true rfl) rfl rfl zd_PW_cut_63 ?_
          refine zw_if_le 75 (by omega) zd_PW_cut_66 (by decide) (fun c66 => ?_) (fun c66 => ?_)
          · -- 66 -> 75
            obtain rfl : (⟨p, ws1, ts1, op1, y, r, pd, mb⟩ : zU) = c1 := by rw [← hc]; unfold cutS; rw [eR]; dsimp only [zU.p, zU.ws, zU.ts, zU.op, zU.y, zU.r, zU.pend, zU.mb]; rw [if_neg (by omega)]
            dsimp only [zU.p, zU.ws, zU.ts, zU.op, zU.y, zU.r, zU.pend, zU.mb] at hR ⊢
            refine zw_aload_n 0 rfl zd_PW_cut_75 ?_
            refine zw_get zc_PW 1 0 rfl (by decide) zf_PW_10 rfl zd_PW_cut_76 ?_
            refine zw_iconst zd_PW_cut_79 ?_
            refine zw_callV (As := [.int (zI (0))]) (rest := []) (L2 := [zIRow ho (op1.map zI) (64) (64), zObj h 0 [.ref ht, .ref hl, .ref hs, .ref ho, .ref hn, .int (zI (p)), .int (zI (y)), .int (zI (r))], zWL hl (ws1) (capN nw ws1.length), zTS hs (ts1) (pd) (capN nb mb) (capN n ts1.length), zNumA hn]) (L' := [zBRow ht (rshort (t) (0)) (nt), zIRow ho (op1.map zI) (64) (64), zObj h 0 [.ref ht, .ref hl, .ref hs, .ref ho, .ref hn, .int (zI (p)), .int (zI (y)), .int (zI (r))], zWL hl (ws1) (capN nw ws1.length), zTS hs (ts1) (pd) (capN nb mb) (capN n ts1.length), zNumA hn]) (stk' := []) (c_BR_shorten ht (t) (nt) (0) (by omega)) [2] [0, 1, 3, 4, 5] rfl rfl rfl zcal_BR_shorten zl_PW_79 zin_BR_shorten zse_BR_shorten 0 rfl zRv_BRow rfl (Nat.le_of_ble_eq_true rfl) (Nat.le_of_ble_eq_true rfl) (by omega) (by omega) rfl (Nat.le_of_ble_eq_true rfl) rfl rfl zd_PW_cut_80 ?_
            refine zw_aload_n 0 rfl zd_PW_cut_83 ?_
            refine zw_get zc_PW 2 6 rfl (by decide) zf_PW_50 rfl zd_PW_cut_84 ?_
            refine zw_if_ne 100 (by omega) zd_PW_cut_87 (by decide) (fun c87 => ?_) (fun c87 => ?_)
            · -- 87 -> 100
              refine zw_aload_n 0 rfl zd_PW_cut_100 ?_
              refine zw_get zc_PW 2 6 rfl (by decide) zf_PW_50 rfl zd_PW_cut_101 ?_
              refine zw_ineg zd_PW_cut_104 ?_
              refine zw_sub (L' := [zObj h 0 [.ref ht, .ref hl, .ref hs, .ref ho, .ref hn, .int (zI (p)), .int (zI (y)), .int (zI (r))], zBRow ht (rshort (t) (0)) (nt), zWL hl (ws1) (capN nw ws1.length), zTS hs (ts1) (pd) (capN nb mb) (capN n ts1.length), zIRow ho (op1.map zI) (64) (64), zNumA hn]) [2, 0, 3, 4, 1, 5] rfl rfl ?_
              refine zw_pack (at0 := zPWA h (rshort (t) (0)) (nt) (ws1) (ts1) (r)) (Ls := [zObj h 0 [.ref ht, .ref hl, .ref hs, .ref ho, .ref hn, .int (zI (p)), .int (zI (y)), .int (zI (r))], zBRow ht (rshort (t) (0)) (nt), zWL hl (ws1) (capN nw ws1.length), zTS hs (ts1) (pd) (capN nb mb) (capN n ts1.length), zIRow ho (op1.map zI) (64) (64), zNumA hn]) (L2 := []) rfl (fun G w h => ⟨((ht, hl, hs, ho, hn), (p, y), (pd, capN nb mb, capN n ts1.length, capN nw ws1.length), op1.map zI), trivial, h⟩) ?_
              first | (exfalso; omega) | exact zw_iret hR (by first | rw [if_pos (by omega)] | rw [if_neg (by omega)]) (by rw [rshort0]) rfl (by omega) (by omega) zd_PW_cut_105
            · -- 87 -> 90
              refine zw_aload_n 0 rfl zd_PW_cut_90 ?_
              refine zw_get zc_PW 2 1 rfl (by decide) zf_PW_19 rfl zd_PW_cut_91 ?_
              refine zw_callV (As := []) (rest := []) (L2 := [zBRow ht (rshort (t) (0)) (nt), zIRow ho (op1.map zI) (64) (64), zObj h 0 [.ref ht, .ref hl, .ref hs, .ref ho, .ref hn, .int (zI (p)), .int (zI (y)), .int (zI (r))], zTS hs (ts1) (pd) (capN nb mb) (capN n ts1.length), zNumA hn]) (L' := [zWL hl (ws1) (capN nw ws1.length), zBRow ht (rshort (t) (0)) (nt), zIRow ho (op1.map zI) (64) (64), zObj h 0 [.ref ht, .ref hl, .ref hs, .ref ho, .ref hn, .int (zI (p)), .int (zI (y)), .int (zI (r))], zTS hs (ts1) (pd) (capN nb mb) (capN n ts1.length), zNumA hn]) (stk' := [.int (zI ((((ws1).length : Nat) : Int)))]) (c_WL_count hl (ws1) (capN nw ws1.length)) [3] [0, 1, 2, 4, 5] rfl rfl rfl zcal_WL_count zl_PW_82 zin_WL_count zse_WL_count 0 rfl zRv_WL rfl (Nat.le_of_ble_eq_true rfl) (Nat.le_of_ble_eq_true rfl) (by omega) (by omega) rfl (Nat.le_of_ble_eq_true rfl) rfl rfl zd_PW_cut_94 ?_
              refine zw_goto 105 zd_PW_cut_97 (by decide) ?_
              refine zw_sub (L' := [zObj h 0 [.ref ht, .ref hl, .ref hs, .ref ho, .ref hn, .int (zI (p)), .int (zI (y)), .int (zI (r))], zBRow ht (rshort (t) (0)) (nt), zWL hl (ws1) (capN nw ws1.length), zTS hs (ts1) (pd) (capN nb mb) (capN n ts1.length), zIRow ho (op1.map zI) (64) (64), zNumA hn]) [3, 1, 0, 4, 2, 5] rfl rfl ?_
              refine zw_pack (at0 := zPWA h (rshort (t) (0)) (nt) (ws1) (ts1) (r)) (Ls := [zObj h 0 [.ref ht, .ref hl, .ref hs, .ref ho, .ref hn, .int (zI (p)), .int (zI (y)), .int (zI (r))], zBRow ht (rshort (t) (0)) (nt), zWL hl (ws1) (capN nw ws1.length), zTS hs (ts1) (pd) (capN nb mb) (capN n ts1.length), zIRow ho (op1.map zI) (64) (64), zNumA hn]) (L2 := []) rfl (fun G w h => ⟨((ht, hl, hs, ho, hn), (p, y), (pd, capN nb mb, capN n ts1.length, capN nw ws1.length), op1.map zI), trivial, h⟩) ?_
              first | (exfalso; omega) | exact zw_iret hR (by first | rw [if_pos (by omega)] | rw [if_neg (by omega)]) (by rw [rshort0]) rfl (by omega) (by omega) zd_PW_cut_105
          · -- 66 -> 69
            obtain rfl : (⟨p, ws1, ts1, op1, 4, t.length, pd, mb⟩ : zU) = c1 := by rw [← hc]; unfold cutS; rw [eR]; dsimp only [zU.p, zU.ws, zU.ts, zU.op, zU.y, zU.r, zU.pend, zU.mb]; rw [if_pos (by omega)]
            dsimp only [zU.p, zU.ws, zU.ts, zU.op, zU.y, zU.r, zU.pend, zU.mb] at hR ⊢
            refine zw_aload_n 0 rfl zd_PW_cut_69 ?_
            refine zw_iconst zd_PW_cut_70 ?_
            refine zw_iload_n 1 rfl zd_PW_cut_71 ?_
            refine zw_callV (As := [.int (zI (4)), .int (zI (((t.length : Nat) : Int)))]) (rest := []) (L2 := [zIRow ho (op1.map zI) (64) (64), zBRow ht (t) (nt), zWL hl (ws1) (capN nw ws1.length), zTS hs (ts1) (pd) (capN nb mb) (capN n ts1.length), zNumA hn]) (L' := [zObj h 0 [.ref ht, .ref hl, .ref hs, .ref ho, .ref hn, .int (zI (p)), .int (zI (4)), .int (zI (((t.length : Nat) : Int)))], zIRow ho (op1.map zI) (64) (64), zBRow ht (t) (nt), zWL hl (ws1) (capN nw ws1.length), zTS hs (ts1) (pd) (capN nb mb) (capN n ts1.length), zNumA hn]) (stk' := []) (c_PW_goWrong h ht hl hs ho hn p y r 4 (((t.length : Nat) : Int))) [1] [0, 2, 3, 4, 5] rfl rfl rfl zcal_PW_goWrong zl_PW_75 zin_PW_goWrong zse_PW_goWrong 0 rfl zRv_obj rfl (Nat.le_of_ble_eq_true rfl) (Nat.le_of_ble_eq_true rfl) (by omega) (by omega) rfl (Nat.le_of_ble_eq_true rfl) rfl rfl zd_PW_cut_72 ?_
            refine zw_aload_n 0 rfl zd_PW_cut_75 ?_
            refine zw_get zc_PW 0 0 rfl (by decide) zf_PW_10 rfl zd_PW_cut_76 ?_
            refine zw_iconst zd_PW_cut_79 ?_
            refine zw_callV (As := [.int (zI (0))]) (rest := []) (L2 := [zObj h 0 [.ref ht, .ref hl, .ref hs, .ref ho, .ref hn, .int (zI (p)), .int (zI (4)), .int (zI (((t.length : Nat) : Int)))], zIRow ho (op1.map zI) (64) (64), zWL hl (ws1) (capN nw ws1.length), zTS hs (ts1) (pd) (capN nb mb) (capN n ts1.length), zNumA hn]) (L' := [zBRow ht (rshort (t) (0)) (nt), zObj h 0 [.ref ht, .ref hl, .ref hs, .ref ho, .ref hn, .int (zI (p)), .int (zI (4)), .int (zI (((t.length : Nat) : Int)))], zIRow ho (op1.map zI) (64) (64), zWL hl (ws1) (capN nw ws1.length), zTS hs (ts1) (pd) (capN nb mb) (capN n ts1.length), zNumA hn]) (stk' := []) (c_BR_shorten ht (t) (nt) (0) (by omega)) [2] [0, 1, 3, 4, 5] rfl rfl rfl zcal_BR_shorten zl_PW_79 zin_BR_shorten zse_BR_shorten 0 rfl zRv_BRow rfl (Nat.le_of_ble_eq_true rfl) (Nat.le_of_ble_eq_true rfl) (by omega) (by omega) rfl (Nat.le_of_ble_eq_true rfl) rfl rfl zd_PW_cut_80 ?_
            refine zw_aload_n 0 rfl zd_PW_cut_83 ?_
            refine zw_get zc_PW 1 6 rfl (by decide) zf_PW_50 rfl zd_PW_cut_84 ?_
            refine zw_if_ne 100 (by omega) zd_PW_cut_87 (by decide) (fun c87 => ?_) (fun c87 => ?_)
            · -- 87 -> 100
              refine zw_aload_n 0 rfl zd_PW_cut_100 ?_
              refine zw_get zc_PW 1 6 rfl (by decide) zf_PW_50 rfl zd_PW_cut_101 ?_
              refine zw_ineg zd_PW_cut_104 ?_
              refine zw_sub (L' := [zObj h 0 [.ref ht, .ref hl, .ref hs, .ref ho, .ref hn, .int (zI (p)), .int (zI (4)), .int (zI (((t.length : Nat) : Int)))], zBRow ht (rshort (t) (0)) (nt), zWL hl (ws1) (capN nw ws1.length), zTS hs (ts1) (pd) (capN nb mb) (capN n ts1.length), zIRow ho (op1.map zI) (64) (64), zNumA hn]) [1, 0, 3, 4, 2, 5] rfl rfl ?_
              refine zw_pack (at0 := zPWA h (rshort (t) (0)) (nt) (ws1) (ts1) (((t.length : Nat) : Int))) (Ls := [zObj h 0 [.ref ht, .ref hl, .ref hs, .ref ho, .ref hn, .int (zI (p)), .int (zI (4)), .int (zI (((t.length : Nat) : Int)))], zBRow ht (rshort (t) (0)) (nt), zWL hl (ws1) (capN nw ws1.length), zTS hs (ts1) (pd) (capN nb mb) (capN n ts1.length), zIRow ho (op1.map zI) (64) (64), zNumA hn]) (L2 := []) rfl (fun G w h => ⟨((ht, hl, hs, ho, hn), (p, 4), (pd, capN nb mb, capN n ts1.length, capN nw ws1.length), op1.map zI), trivial, h⟩) ?_
              first | (exfalso; omega) | exact zw_iret hR (by first | rw [if_pos (by omega)] | rw [if_neg (by omega)]) (by rw [rshort0]) rfl (by omega) (by omega) zd_PW_cut_105
            · -- 87 -> 90
              exact absurd c87 (by decide)
      · -- 17 -> 20
        refine zw_aload_n 0 rfl zd_PW_cut_20 ?_
        refine zw_get zc_PW 0 5 rfl (by decide) zf_PW_46 rfl zd_PW_cut_21 ?_
        refine zw_iload_n 1 rfl zd_PW_cut_24 ?_
        refine zw_icmp_ge 52 (by omega) (by omega) zd_PW_cut_25 (by decide) (fun c25 => ?_) (fun c25 => ?_)
        · -- 25 -> 52
          have eR : runS t t.length (⟨0, [], [], [], 0, t.length, [], 0⟩ : zU) = (⟨p, ws1, ts1, op1, y, r, pd, mb⟩ : zU) := by
            rw [← g1]
            first | exact runS_stop _ _ (fun q => by have q1 : p < t.length := q.1; have q2 : y = 0 := q.2; omega) | (rw [show ((t.length : Int) - stp).toNat = 0 by omega]; rfl)
          refine zw_aload_n 0 rfl zd_PW_cut_52 ?_
          refine zw_get zc_PW 0 6 rfl (by decide) zf_PW_50 rfl zd_PW_cut_53 ?_
          refine zw_if_ne 75 (by omega) zd_PW_cut_56 (by decide) (fun c56 => ?_) (fun c56 => ?_)
          · -- 56 -> 75
            obtain rfl : (⟨p, ws1, ts1, op1, y, r, pd, mb⟩ : zU) = c1 := by rw [← hc]; unfold cutS; rw [eR]; dsimp only [zU.p, zU.ws, zU.ts, zU.op, zU.y, zU.r, zU.pend, zU.mb]; rw [if_neg (by omega)]
            dsimp only [zU.p, zU.ws, zU.ts, zU.op, zU.y, zU.r, zU.pend, zU.mb] at hR ⊢
            refine zw_aload_n 0 rfl zd_PW_cut_75 ?_
            refine zw_get zc_PW 0 0 rfl (by decide) zf_PW_10 rfl zd_PW_cut_76 ?_
            refine zw_iconst zd_PW_cut_79 ?_
            refine zw_callV (As := [.int (zI (0))]) (rest := []) (L2 := [zObj h 0 [.ref ht, .ref hl, .ref hs, .ref ho, .ref hn, .int (zI (p)), .int (zI (y)), .int (zI (r))], zWL hl (ws1) (capN nw ws1.length), zTS hs (ts1) (pd) (capN nb mb) (capN n ts1.length), zIRow ho (op1.map zI) (64) (64), zNumA hn]) (L' := [zBRow ht (rshort (t) (0)) (nt), zObj h 0 [.ref ht, .ref hl, .ref hs, .ref ho, .ref hn, .int (zI (p)), .int (zI (y)), .int (zI (r))], zWL hl (ws1) (capN nw ws1.length), zTS hs (ts1) (pd) (capN nb mb) (capN n ts1.length), zIRow ho (op1.map zI) (64) (64), zNumA hn]) (stk' := []) (c_BR_shorten ht (t) (nt) (0) (by omega)) [1] [0, 2, 3, 4, 5] rfl rfl rfl zcal_BR_shorten zl_PW_79 zin_BR_shorten zse_BR_shorten 0 rfl zRv_BRow rfl (Nat.le_of_ble_eq_true rfl) (Nat.le_of_ble_eq_true rfl) (by omega) (by omega) rfl (Nat.le_of_ble_eq_true rfl) rfl rfl zd_PW_cut_80 ?_
            refine zw_aload_n 0 rfl zd_PW_cut_83 ?_
            refine zw_get zc_PW 1 6 rfl (by decide) zf_PW_50 rfl zd_PW_cut_84 ?_
            refine zw_if_ne 100 (by omega) zd_PW_cut_87 (by decide) (fun c87 => ?_) (fun c87 => ?_)
            · -- 87 -> 100
              refine zw_aload_n 0 rfl zd_PW_cut_100 ?_
              refine zw_get zc_PW 1 6 rfl (by decide) zf_PW_50 rfl zd_PW_cut_101 ?_
              refine zw_ineg zd_PW_cut_104 ?_
              refine zw_sub (L' := [zObj h 0 [.ref ht, .ref hl, .ref hs, .ref ho, .ref hn, .int (zI (p)), .int (zI (y)), .int (zI (r))], zBRow ht (rshort (t) (0)) (nt), zWL hl (ws1) (capN nw ws1.length), zTS hs (ts1) (pd) (capN nb mb) (capN n ts1.length), zIRow ho (op1.map zI) (64) (64), zNumA hn]) [1, 0, 2, 3, 4, 5] rfl rfl ?_
              refine zw_pack (at0 := zPWA h (rshort (t) (0)) (nt) (ws1) (ts1) (r)) (Ls := [zObj h 0 [.ref ht, .ref hl, .ref hs, .ref ho, .ref hn, .int (zI (p)), .int (zI (y)), .int (zI (r))], zBRow ht (rshort (t) (0)) (nt), zWL hl (ws1) (capN nw ws1.length), zTS hs (ts1) (pd) (capN nb mb) (capN n ts1.length), zIRow ho (op1.map zI) (64) (64), zNumA hn]) (L2 := []) rfl (fun G w h => ⟨((ht, hl, hs, ho, hn), (p, y), (pd, capN nb mb, capN n ts1.length, capN nw ws1.length), op1.map zI), trivial, h⟩) ?_
              first | (exfalso; omega) | exact zw_iret hR (by first | rw [if_pos (by omega)] | rw [if_neg (by omega)]) (by rw [rshort0]) rfl (by omega) (by omega) zd_PW_cut_105
            · -- 87 -> 90
              refine zw_aload_n 0 rfl zd_PW_cut_90 ?_
              refine zw_get zc_PW 1 1 rfl (by decide) zf_PW_19 rfl zd_PW_cut_91 ?_
              refine zw_callV (As := []) (rest := []) (L2 := [zBRow ht (rshort (t) (0)) (nt), zObj h 0 [.ref ht, .ref hl, .ref hs, .ref ho, .ref hn, .int (zI (p)), .int (zI (y)), .int (zI (r))], zTS hs (ts1) (pd) (capN nb mb) (capN n ts1.length), zIRow ho (op1.map zI) (64) (64), zNumA hn]) (L' := [zWL hl (ws1) (capN nw ws1.length), zBRow ht (rshort (t) (0)) (nt), zObj h 0 [.ref ht, .ref hl, .ref hs, .ref ho, .ref hn, .int (zI (p)), .int (zI (y)), .int (zI (r))], zTS hs (ts1) (pd) (capN nb mb) (capN n ts1.length), zIRow ho (op1.map zI) (64) (64), zNumA hn]) (stk' := [.int (zI ((((ws1).length : Nat) : Int)))]) (c_WL_count hl (ws1) (capN nw ws1.length)) [2] [0, 1, 3, 4, 5] rfl rfl rfl zcal_WL_count zl_PW_82 zin_WL_count zse_WL_count 0 rfl zRv_WL rfl (Nat.le_of_ble_eq_true rfl) (Nat.le_of_ble_eq_true rfl) (by omega) (by omega) rfl (Nat.le_of_ble_eq_true rfl) rfl rfl zd_PW_cut_94 ?_
              refine zw_goto 105 zd_PW_cut_97 (by decide) ?_
              refine zw_sub (L' := [zObj h 0 [.ref ht, .ref hl, .ref hs, .ref ho, .ref hn, .int (zI (p)), .int (zI (y)), .int (zI (r))], zBRow ht (rshort (t) (0)) (nt), zWL hl (ws1) (capN nw ws1.length), zTS hs (ts1) (pd) (capN nb mb) (capN n ts1.length), zIRow ho (op1.map zI) (64) (64), zNumA hn]) [2, 1, 0, 3, 4, 5] rfl rfl ?_
              refine zw_pack (at0 := zPWA h (rshort (t) (0)) (nt) (ws1) (ts1) (r)) (Ls := [zObj h 0 [.ref ht, .ref hl, .ref hs, .ref ho, .ref hn, .int (zI (p)), .int (zI (y)), .int (zI (r))], zBRow ht (rshort (t) (0)) (nt), zWL hl (ws1) (capN nw ws1.length), zTS hs (ts1) (pd) (capN nb mb) (capN n ts1.length), zIRow ho (op1.map zI) (64) (64), zNumA hn]) (L2 := []) rfl (fun G w h => ⟨((ht, hl, hs, ho, hn), (p, y), (pd, capN nb mb, capN n ts1.length, capN nw ws1.length), op1.map zI), trivial, h⟩) ?_
              first | (exfalso; omega) | exact zw_iret hR (by first | rw [if_pos (by omega)] | rw [if_neg (by omega)]) (by rw [rshort0]) rfl (by omega) (by omega) zd_PW_cut_105
          · -- 56 -> 59
            refine zw_aload_n 0 rfl zd_PW_cut_59 ?_
            refine zw_get zc_PW 0 3 rfl (by decide) zf_PW_35 rfl zd_PW_cut_60 ?_
            refine zw_callV (As := []) (rest := []) (L2 := [zObj h 0 [.ref ht, .ref hl, .ref hs, .ref ho, .ref hn, .int (zI (p)), .int (zI (y)), .int (zI (r))], zBRow ht (t) (nt), zWL hl (ws1) (capN nw ws1.length), zTS hs (ts1) (pd) (capN nb mb) (capN n ts1.length), zNumA hn]) (L' := [zIRow ho (op1.map zI) (64) (64), zObj h 0 [.ref ht, .ref hl, .ref hs, .ref ho, .ref hn, .int (zI (p)), .int (zI (y)), .int (zI (r))], zBRow ht (t) (nt), zWL hl (ws1) (capN nw ws1.length), zTS hs (ts1) (pd) (capN nb mb) (capN n ts1.length), zNumA hn]) (stk' := [.int (zI (((op1.length : Nat) : Int)))]) (c_IR_count ho (op1.map zI) (64) (64) (op1.length) (List.length_map ..)) [4] [0, 1, 2, 3, 5] rfl rfl rfl zcal_IR_count zl_PW_74 zin_IR_count zse_IR_count 0 rfl zRv_IRow rfl (Nat.le_of_ble_eq_true rfl) (Nat.le_of_ble_eq_true rfl) (by omega) (by omega) rfl (Nat.le_of_ble_eq_true rfl) rfl rfl zd_PW_cut_63 ?_
            refine zw_if_le 75 (by omega) zd_PW_cut_66 (by decide) (fun c66 => ?_) (fun c66 => ?_)
            · -- 66 -> 75
              obtain rfl : (⟨p, ws1, ts1, op1, y, r, pd, mb⟩ : zU) = c1 := by rw [← hc]; unfold cutS; rw [eR]; dsimp only [zU.p, zU.ws, zU.ts, zU.op, zU.y, zU.r, zU.pend, zU.mb]; rw [if_neg (by omega)]
              dsimp only [zU.p, zU.ws, zU.ts, zU.op, zU.y, zU.r, zU.pend, zU.mb] at hR ⊢
              refine zw_aload_n 0 rfl zd_PW_cut_75 ?_
              refine zw_get zc_PW 1 0 rfl (by decide) zf_PW_10 rfl zd_PW_cut_76 ?_
              refine zw_iconst zd_PW_cut_79 ?_
              refine zw_callV (As := [.int (zI (0))]) (rest := []) (L2 := [zIRow ho (op1.map zI) (64) (64), zObj h 0 [.ref ht, .ref hl, .ref hs, .ref ho, .ref hn, .int (zI (p)), .int (zI (y)), .int (zI (r))], zWL hl (ws1) (capN nw ws1.length), zTS hs (ts1) (pd) (capN nb mb) (capN n ts1.length), zNumA hn]) (L' := [zBRow ht (rshort (t) (0)) (nt), zIRow ho (op1.map zI) (64) (64), zObj h 0 [.ref ht, .ref hl, .ref hs, .ref ho, .ref hn, .int (zI (p)), .int (zI (y)), .int (zI (r))], zWL hl (ws1) (capN nw ws1.length), zTS hs (ts1) (pd) (capN nb mb) (capN n ts1.length), zNumA hn]) (stk' := []) (c_BR_shorten ht (t) (nt) (0) (by omega)) [2] [0, 1, 3, 4, 5] rfl rfl rfl zcal_BR_shorten zl_PW_79 zin_BR_shorten zse_BR_shorten 0 rfl zRv_BRow rfl (Nat.le_of_ble_eq_true rfl) (Nat.le_of_ble_eq_true rfl) (by omega) (by omega) rfl (Nat.le_of_ble_eq_true rfl) rfl rfl zd_PW_cut_80 ?_
              refine zw_aload_n 0 rfl zd_PW_cut_83 ?_
              refine zw_get zc_PW 2 6 rfl (by decide) zf_PW_50 rfl zd_PW_cut_84 ?_
              refine zw_if_ne 100 (by omega) zd_PW_cut_87 (by decide) (fun c87 => ?_) (fun c87 => ?_)
              · -- 87 -> 100
                refine zw_aload_n 0 rfl zd_PW_cut_100 ?_
                refine zw_get zc_PW 2 6 rfl (by decide) zf_PW_50 rfl zd_PW_cut_101 ?_
                refine zw_ineg zd_PW_cut_104 ?_
                refine zw_sub (L' := [zObj h 0 [.ref ht, .ref hl, .ref hs, .ref ho, .ref hn, .int (zI (p)), .int (zI (y)), .int (zI (r))], zBRow ht (rshort (t) (0)) (nt), zWL hl (ws1) (capN nw ws1.length), zTS hs (ts1) (pd) (capN nb mb) (capN n ts1.length), zIRow ho (op1.map zI) (64) (64), zNumA hn]) [2, 0, 3, 4, 1, 5] rfl rfl ?_
                refine zw_pack (at0 := zPWA h (rshort (t) (0)) (nt) (ws1) (ts1) (r)) (Ls := [zObj h 0 [.ref ht, .ref hl, .ref hs, .ref ho, .ref hn, .int (zI (p)), .int (zI (y)), .int (zI (r))], zBRow ht (rshort (t) (0)) (nt), zWL hl (ws1) (capN nw ws1.length), zTS hs (ts1) (pd) (capN nb mb) (capN n ts1.length), zIRow ho (op1.map zI) (64) (64), zNumA hn]) (L2 := []) rfl (fun G w h => ⟨((ht, hl, hs, ho, hn), (p, y), (pd, capN nb mb, capN n ts1.length, capN nw ws1.length), op1.map zI), trivial, h⟩) ?_
                first | (exfalso; omega) | exact zw_iret hR (by first | rw [if_pos (by omega)] | rw [if_neg (by omega)]) (by rw [rshort0]) rfl (by omega) (by omega) zd_PW_cut_105
              · -- 87 -> 90
                refine zw_aload_n 0 rfl zd_PW_cut_90 ?_
                refine zw_get zc_PW 2 1 rfl (by decide) zf_PW_19 rfl zd_PW_cut_91 ?_
                refine zw_callV (As := []) (rest := []) (L2 := [zBRow ht (rshort (t) (0)) (nt), zIRow ho (op1.map zI) (64) (64), zObj h 0 [.ref ht, .ref hl, .ref hs, .ref ho, .ref hn, .int (zI (p)), .int (zI (y)), .int (zI (r))], zTS hs (ts1) (pd) (capN nb mb) (capN n ts1.length), zNumA hn]) (L' := [zWL hl (ws1) (capN nw ws1.length), zBRow ht (rshort (t) (0)) (nt), zIRow ho (op1.map zI) (64) (64), zObj h 0 [.ref ht, .ref hl, .ref hs, .ref ho, .ref hn, .int (zI (p)), .int (zI (y)), .int (zI (r))], zTS hs (ts1) (pd) (capN nb mb) (capN n ts1.length), zNumA hn]) (stk' := [.int (zI ((((ws1).length : Nat) : Int)))]) (c_WL_count hl (ws1) (capN nw ws1.length)) [3] [0, 1, 2, 4, 5] rfl rfl rfl zcal_WL_count zl_PW_82 zin_WL_count zse_WL_count 0 rfl zRv_WL rfl (Nat.le_of_ble_eq_true rfl) (Nat.le_of_ble_eq_true rfl) (by omega) (by omega) rfl (Nat.le_of_ble_eq_true rfl) rfl rfl zd_PW_cut_94 ?_
                refine zw_goto 105 zd_PW_cut_97 (by decide) ?_
                refine zw_sub (L' := [zObj h 0 [.ref ht, .ref hl, .ref hs, .ref ho, .ref hn, .int (zI (p)), .int (zI (y)), .int (zI (r))], zBRow ht (rshort (t) (0)) (nt), zWL hl (ws1) (capN nw ws1.length), zTS hs (ts1) (pd) (capN nb mb) (capN n ts1.length), zIRow ho (op1.map zI) (64) (64), zNumA hn]) [3, 1, 0, 4, 2, 5] rfl rfl ?_
                refine zw_pack (at0 := zPWA h (rshort (t) (0)) (nt) (ws1) (ts1) (r)) (Ls := [zObj h 0 [.ref ht, .ref hl, .ref hs, .ref ho, .ref hn, .int (zI (p)), .int (zI (y)), .int (zI (r))], zBRow ht (rshort (t) (0)) (nt), zWL hl (ws1) (capN nw ws1.length), zTS hs (ts1) (pd) (capN nb mb) (capN n ts1.length), zIRow ho (op1.map zI) (64) (64), zNumA hn]) (L2 := []) rfl (fun G w h => ⟨((ht, hl, hs, ho, hn), (p, y), (pd, capN nb mb, capN n ts1.length, capN nw ws1.length), op1.map zI), trivial, h⟩) ?_
                first | (exfalso; omega) | exact zw_iret hR (by first | rw [if_pos (by omega)] | rw [if_neg (by omega)]) (by rw [rshort0]) rfl (by omega) (by omega) zd_PW_cut_105
            · -- 66 -> 69
              obtain rfl : (⟨p, ws1, ts1, op1, 4, t.length, pd, mb⟩ : zU) = c1 := by rw [← hc]; unfold cutS; rw [eR]; dsimp only [zU.p, zU.ws, zU.ts, zU.op, zU.y, zU.r, zU.pend, zU.mb]; rw [if_pos (by omega)]
              dsimp only [zU.p, zU.ws, zU.ts, zU.op, zU.y, zU.r, zU.pend, zU.mb] at hR ⊢
              refine zw_aload_n 0 rfl zd_PW_cut_69 ?_
              refine zw_iconst zd_PW_cut_70 ?_
              refine zw_iload_n 1 rfl zd_PW_cut_71 ?_
              refine zw_callV (As := [.int (zI (4)), .int (zI (((t.length : Nat) : Int)))]) (rest := []) (L2 := [zIRow ho (op1.map zI) (64) (64), zBRow ht (t) (nt), zWL hl (ws1) (capN nw ws1.length), zTS hs (ts1) (pd) (capN nb mb) (capN n ts1.length), zNumA hn]) (L' := [zObj h 0 [.ref ht, .ref hl, .ref hs, .ref ho, .ref hn, .int (zI (p)), .int (zI (4)), .int (zI (((t.length : Nat) : Int)))], zIRow ho (op1.map zI) (64) (64), zBRow ht (t) (nt), zWL hl (ws1) (capN nw ws1.length), zTS hs (ts1) (pd) (capN nb mb) (capN n ts1.length), zNumA hn]) (stk' := []) (c_PW_goWrong h ht hl hs ho hn p y r 4 (((t.length : Nat) : Int))) [1] [0, 2, 3, 4, 5] rfl rfl rfl zcal_PW_goWrong zl_PW_75 zin_PW_goWrong zse_PW_goWrong 0 rfl zRv_obj rfl (Nat.le_of_ble_eq_true rfl) (Nat.le_of_ble_eq_true rfl) (by omega) (by omega) rfl (Nat.le_of_ble_eq_true rfl) rfl rfl zd_PW_cut_72 ?_
              refine zw_aload_n 0 rfl zd_PW_cut_75 ?_
              refine zw_get zc_PW 0 0 rfl (by decide) zf_PW_10 rfl zd_PW_cut_76 ?_
              refine zw_iconst zd_PW_cut_79 ?_
              refine zw_callV (As := [.int (zI (0))]) (rest := []) (L2 := [zObj h 0 [.ref ht, .ref hl, .ref hs, .ref ho, .ref hn, .int (zI (p)), .int (zI (4)), .int (zI (((t.length : Nat) : Int)))], zIRow ho (op1.map zI) (64) (64), zWL hl (ws1) (capN nw ws1.length), zTS hs (ts1) (pd) (capN nb mb) (capN n ts1.length), zNumA hn]) (L' := [zBRow ht (rshort (t) (0)) (nt), zObj h 0 [.ref ht, .ref hl, .ref hs, .ref ho, .ref hn, .int (zI (p)), .int (zI (4)), .int (zI (((t.length : Nat) : Int)))], zIRow ho (op1.map zI) (64) (64), zWL hl (ws1) (capN nw ws1.length), zTS hs (ts1) (pd) (capN nb mb) (capN n ts1.length), zNumA hn]) (stk' := []) (c_BR_shorten ht (t) (nt) (0) (by omega)) [2] [0, 1, 3, 4, 5] rfl rfl rfl zcal_BR_shorten zl_PW_79 zin_BR_shorten zse_BR_shorten 0 rfl zRv_BRow rfl (Nat.le_of_ble_eq_true rfl) (Nat.le_of_ble_eq_true rfl) (by omega) (by omega) rfl (Nat.le_of_ble_eq_true rfl) rfl rfl zd_PW_cut_80 ?_
              refine zw_aload_n 0 rfl zd_PW_cut_83 ?_
              refine zw_get zc_PW 1 6 rfl (by decide) zf_PW_50 rfl zd_PW_cut_84 ?_
              refine zw_if_ne 100 (by omega) zd_PW_cut_87 (by decide) (fun c87 => ?_) (fun c87 => ?_)
              · -- 87 -> 100
                refine zw_aload_n 0 rfl zd_PW_cut_100 ?_
                refine zw_get zc_PW 1 6 rfl (by decide) zf_PW_50 rfl zd_PW_cut_101 ?_
                refine zw_ineg zd_PW_cut_104 ?_
                refine zw_sub (L' := [zObj h 0 [.ref ht, .ref hl, .ref hs, .ref ho, .ref hn, .int (zI (p)), .int (zI (4)), .int (zI (((t.length : Nat) : Int)))], zBRow ht (rshort (t) (0)) (nt), zWL hl (ws1) (capN nw ws1.length), zTS hs (ts1) (pd) (capN nb mb) (capN n ts1.length), zIRow ho (op1.map zI) (64) (64), zNumA hn]) [1, 0, 3, 4, 2, 5] rfl rfl ?_
                refine zw_pack (at0 := zPWA h (rshort (t) (0)) (nt) (ws1) (ts1) (((t.length : Nat) : Int))) (Ls := [zObj h 0 [.ref ht, .ref hl, .ref hs, .ref ho, .ref hn, .int (zI (p)), .int (zI (4)), .int (zI (((t.length : Nat) : Int)))], zBRow ht (rshort (t) (0)) (nt), zWL hl (ws1) (capN nw ws1.length), zTS hs (ts1) (pd) (capN nb mb) (capN n ts1.length), zIRow ho (op1.map zI) (64) (64), zNumA hn]) (L2 := []) rfl (fun G w h => ⟨((ht, hl, hs, ho, hn), (p, 4), (pd, capN nb mb, capN n ts1.length, capN nw ws1.length), op1.map zI), trivial, h⟩) ?_
                first | (exfalso; omega) | exact zw_iret hR (by first | rw [if_pos (by omega)] | rw [if_neg (by omega)]) (by rw [rshort0]) rfl (by omega) (by omega) zd_PW_cut_105
              · -- 87 -> 90
                exact absurd c87 (by decide)
        · -- 25 -> 28
          refine zw_aload_n 0 rfl zd_PW_cut_28 ?_
          refine zw_get zc_PW 0 6 rfl (by decide) zf_PW_50 rfl zd_PW_cut_29 ?_
          refine zw_if_ne 52 (by omega) zd_PW_cut_32 (by decide) (fun c32 => ?_) (fun c32 => ?_)
          · -- 32 -> 52
            have eR : runS t t.length (⟨0, [], [], [], 0, t.length, [], 0⟩ : zU) = (⟨p, ws1, ts1, op1, y, r, pd, mb⟩ : zU) := by
              rw [← g1]
              first | exact runS_stop _ _ (fun q => by have q1 : p < t.length := q.1; have q2 : y = 0 := q.2; omega) | (rw [show ((t.length : Int) - stp).toNat = 0 by omega]; rfl)
            refine zw_aload_n 0 rfl zd_PW_cut_52 ?_
            refine zw_get zc_PW 0 6 rfl (by decide) zf_PW_50 rfl zd_PW_cut_53 ?_
            refine zw_if_ne 75 (by omega) zd_PW_cut_56 (by decide) (fun c56 => ?_) (fun c56 => ?_)
            · -- 56 -> 75
              obtain rfl : (⟨p, ws1, ts1, op1, y, r, pd, mb⟩ : zU) = c1 := by rw [← hc]; unfold cutS; rw [eR]; dsimp only [zU.p, zU.ws, zU.ts, zU.op, zU.y, zU.r, zU.pend, zU.mb]; rw [if_neg (by omega)]
              dsimp only [zU.p, zU.ws, zU.ts, zU.op, zU.y, zU.r, zU.pend, zU.mb] at hR ⊢
              refine zw_aload_n 0 rfl zd_PW_cut_75 ?_
              refine zw_get zc_PW 0 0 rfl (by decide) zf_PW_10 rfl zd_PW_cut_76 ?_
              refine zw_iconst zd_PW_cut_79 ?_
              refine zw_callV (As := [.int (zI (0))]) (rest := []) (L2 := [zObj h 0 [.ref ht, .ref hl, .ref hs, .ref ho, .ref hn, .int (zI (p)), .int (zI (y)), .int (zI (r))], zWL hl (ws1) (capN nw ws1.length), zTS hs (ts1) (pd) (capN nb mb) (capN n ts1.length), zIRow ho (op1.map zI) (64) (64), zNumA hn]) (L' := [zBRow ht (rshort (t) (0)) (nt), zObj h 0 [.ref ht, .ref hl, .ref hs, .ref ho, .ref hn, .int (zI (p)), .int (zI (y)), .int (zI (r))], zWL hl (ws1) (capN nw ws1.length), zTS hs (ts1) (pd) (capN nb mb) (capN n ts1.length), zIRow ho (op1.map zI) (64) (64), zNumA hn]) (stk' := []) (c_BR_shorten ht (t) (nt) (0) (by omega)) [1] [0, 2, 3, 4, 5] rfl rfl rfl zcal_BR_shorten zl_PW_79 zin_BR_shorten zse_BR_shorten 0 rfl zRv_BRow rfl (Nat.le_of_ble_eq_true rfl) (Nat.le_of_ble_eq_true rfl) (by omega) (by omega) rfl (Nat.le_of_ble_eq_true rfl) rfl rfl zd_PW_cut_80 ?_
              refine zw_aload_n 0 rfl zd_PW_cut_83 ?_
              refine zw_get zc_PW 1 6 rfl (by decide) zf_PW_50 rfl zd_PW_cut_84 ?_
              refine zw_if_ne 100 (by omega) zd_PW_cut_87 (by decide) (fun c87 => ?_) (fun c87 => ?_)
              · -- 87 -> 100
                refine zw_aload_n 0 rfl zd_PW_cut_100 ?_
                refine zw_get zc_PW 1 6 rfl (by decide) zf_PW_50 rfl zd_PW_cut_101 ?_
                refine zw_ineg zd_PW_cut_104 ?_
                refine zw_sub (L' := [zObj h 0 [.ref ht, .ref hl, .ref hs, .ref ho, .ref hn, .int (zI (p)), .int (zI (y)), .int (zI (r))], zBRow ht (rshort (t) (0)) (nt), zWL hl (ws1) (capN nw ws1.length), zTS hs (ts1) (pd) (capN nb mb) (capN n ts1.length), zIRow ho (op1.map zI) (64) (64), zNumA hn]) [1, 0, 2, 3, 4, 5] rfl rfl ?_
                refine zw_pack (at0 := zPWA h (rshort (t) (0)) (nt) (ws1) (ts1) (r)) (Ls := [zObj h 0 [.ref ht, .ref hl, .ref hs, .ref ho, .ref hn, .int (zI (p)), .int (zI (y)), .int (zI (r))], zBRow ht (rshort (t) (0)) (nt), zWL hl (ws1) (capN nw ws1.length), zTS hs (ts1) (pd) (capN nb mb) (capN n ts1.length), zIRow ho (op1.map zI) (64) (64), zNumA hn]) (L2 := []) rfl (fun G w h => ⟨((ht, hl, hs, ho, hn), (p, y), (pd, capN nb mb, capN n ts1.length, capN nw ws1.length), op1.map zI), trivial, h⟩) ?_
                first | (exfalso; omega) | exact zw_iret hR (by first | rw [if_pos (by omega)] | rw [if_neg (by omega)]) (by rw [rshort0]) rfl (by omega) (by omega) zd_PW_cut_105
              · -- 87 -> 90
                refine zw_aload_n 0 rfl zd_PW_cut_90 ?_
                refine zw_get zc_PW 1 1 rfl (by decide) zf_PW_19 rfl zd_PW_cut_91 ?_
                refine zw_callV (As := []) (rest := []) (L2 := [zBRow ht (rshort (t) (0)) (nt), zObj h 0 [.ref ht, .ref hl, .ref hs, .ref ho, .ref hn, .int (zI (p)), .int (zI (y)), .int (zI (r))], zTS hs (ts1) (pd) (capN nb mb) (capN n ts1.length), zIRow ho (op1.map zI) (64) (64), zNumA hn]) (L' := [zWL hl (ws1) (capN nw ws1.length), zBRow ht (rshort (t) (0)) (nt), zObj h 0 [.ref ht, .ref hl, .ref hs, .ref ho, .ref hn, .int (zI (p)), .int (zI (y)), .int (zI (r))], zTS hs (ts1) (pd) (capN nb mb) (capN n ts1.length), zIRow ho (op1.map zI) (64) (64), zNumA hn]) (stk' := [.int (zI ((((ws1).length : Nat) : Int)))]) (c_WL_count hl (ws1) (capN nw ws1.length)) [2] [0, 1, 3, 4, 5] rfl rfl rfl zcal_WL_count zl_PW_82 zin_WL_count zse_WL_count 0 rfl zRv_WL rfl (Nat.le_of_ble_eq_true rfl) (Nat.le_of_ble_eq_true rfl) (by omega) (by omega) rfl (Nat.le_of_ble_eq_true rfl) rfl rfl zd_PW_cut_94 ?_
                refine zw_goto 105 zd_PW_cut_97 (by decide) ?_
                refine zw_sub (L' := [zObj h 0 [.ref ht, .ref hl, .ref hs, .ref ho, .ref hn, .int (zI (p)), .int (zI (y)), .int (zI (r))], zBRow ht (rshort (t) (0)) (nt), zWL hl (ws1) (capN nw ws1.length), zTS hs (ts1) (pd) (capN nb mb) (capN n ts1.length), zIRow ho (op1.map zI) (64) (64), zNumA hn]) [2, 1, 0, 3, 4, 5] rfl rfl ?_
                refine zw_pack (at0 := zPWA h (rshort (t) (0)) (nt) (ws1) (ts1) (r)) (Ls := [zObj h 0 [.ref ht, .ref hl, .ref hs, .ref ho, .ref hn, .int (zI (p)), .int (zI (y)), .int (zI (r))], zBRow ht (rshort (t) (0)) (nt), zWL hl (ws1) (capN nw ws1.length), zTS hs (ts1) (pd) (capN nb mb) (capN n ts1.length), zIRow ho (op1.map zI) (64) (64), zNumA hn]) (L2 := []) rfl (fun G w h => ⟨((ht, hl, hs, ho, hn), (p, y), (pd, capN nb mb, capN n ts1.length, capN nw ws1.length), op1.map zI), trivial, h⟩) ?_
                first | (exfalso; omega) | exact zw_iret hR (by first | rw [if_pos (by omega)] | rw [if_neg (by omega)]) (by rw [rshort0]) rfl (by omega) (by omega) zd_PW_cut_105
            · -- 56 -> 59
              refine zw_aload_n 0 rfl zd_PW_cut_59 ?_
              refine zw_get zc_PW 0 3 rfl (by decide) zf_PW_35 rfl zd_PW_cut_60 ?_
              refine zw_callV (As := []) (rest := []) (L2 := [zObj h 0 [.ref ht, .ref hl, .ref hs, .ref ho, .ref hn, .int (zI (p)), .int (zI (y)), .int (zI (r))], zBRow ht (t) (nt), zWL hl (ws1) (capN nw ws1.length), zTS hs (ts1) (pd) (capN nb mb) (capN n ts1.length), zNumA hn]) (L' := [zIRow ho (op1.map zI) (64) (64), zObj h 0 [.ref ht, .ref hl, .ref hs, .ref ho, .ref hn, .int (zI (p)), .int (zI (y)), .int (zI (r))], zBRow ht (t) (nt), zWL hl (ws1) (capN nw ws1.length), zTS hs (ts1) (pd) (capN nb mb) (capN n ts1.length), zNumA hn]) (stk' := [.int (zI (((op1.length : Nat) : Int)))]) (c_IR_count ho (op1.map zI) (64) (64) (op1.length) (List.length_map ..)) [4] [0, 1, 2, 3, 5] rfl rfl rfl zcal_IR_count zl_PW_74 zin_IR_count zse_IR_count 0 rfl zRv_IRow rfl (Nat.le_of_ble_eq_true rfl) (Nat.le_of_ble_eq_true rfl) (by omega) (by omega) rfl (Nat.le_of_ble_eq_true rfl) rfl rfl zd_PW_cut_63 ?_
              refine zw_if_le 75 (by omega) zd_PW_cut_66 (by decide) (fun c66 => ?_) (fun c66 => ?_)
              · -- 66 -> 75
                obtain rfl : (⟨p, ws1, ts1, op1, y, r, pd, mb⟩ : zU) = c1 := by rw [← hc]; unfold cutS; rw [eR]; dsimp only [zU.p, zU.ws, zU.ts, zU.op, zU.y, zU.r, zU.pend, zU.mb]; rw [if_neg (by omega)]
                dsimp only [zU.p, zU.ws, zU.ts, zU.op, zU.y, zU.r, zU.pend, zU.mb] at hR ⊢
                refine zw_aload_n 0 rfl zd_PW_cut_75 ?_
                refine zw_get zc_PW 1 0 rfl (by decide) zf_PW_10 rfl zd_PW_cut_76 ?_
                refine zw_iconst zd_PW_cut_79 ?_
                refine zw_callV (As := [.int (zI (0))]) (rest := []) (L2 := [zIRow ho (op1.map zI) (64) (64), zObj h 0 [.ref ht, .ref hl, .ref hs, .ref ho, .ref hn, .int (zI (p)), .int (zI (y)), .int (zI (r))], zWL hl (ws1) (capN nw ws1.length), zTS hs (ts1) (pd) (capN nb mb) (capN n ts1.length), zNumA hn]) (L' := [zBRow ht (rshort (t) (0)) (nt), zIRow ho (op1.map zI) (64) (64), zObj h 0 [.ref ht, .ref hl, .ref hs, .ref ho, .ref hn, .int (zI (p)), .int (zI (y)), .int (zI (r))], zWL hl (ws1) (capN nw ws1.length), zTS hs (ts1) (pd) (capN nb mb) (capN n ts1.length), zNumA hn]) (stk' := []) (c_BR_shorten ht (t) (nt) (0) (by omega)) [2] [0, 1, 3, 4, 5] rfl rfl rfl zcal_BR_shorten zl_PW_79 zin_BR_shorten zse_BR_shorten 0 rfl zRv_BRow rfl (Nat.le_of_ble_eq_true rfl) (Nat.le_of_ble_eq_true rfl) (by omega) (by omega) rfl (Nat.le_of_ble_eq_true rfl) rfl rfl zd_PW_cut_80 ?_
                refine zw_aload_n 0 rfl zd_PW_cut_83 ?_
                refine zw_get zc_PW 2 6 rfl (by decide) zf_PW_50 rfl zd_PW_cut_84 ?_
                refine zw_if_ne 100 (by omega) zd_PW_cut_87 (by decide) (fun c87 => ?_) (fun c87 => ?_)
                · -- 87 -> 100
                  refine zw_aload_n 0 rfl zd_PW_cut_100 ?_
                  refine zw_get zc_PW 2 6 rfl (by decide) zf_PW_50 rfl zd_PW_cut_101 ?_
                  refine zw_ineg zd_PW_cut_104 ?_
                  refine zw_sub (L' := [zObj h 0 [.ref ht, .ref hl, .ref hs, .ref ho, .ref hn, .int (zI (p)), .int (zI (y)), .int (zI (r))], zBRow ht (rshort (t) (0)) (nt), zWL hl (ws1) (capN nw ws1.length), zTS hs (ts1) (pd) (capN nb mb) (capN n ts1.length), zIRow ho (op1.map zI) (64) (64), zNumA hn]) [2, 0, 3, 4, 1, 5] rfl rfl ?_
                  refine zw_pack (at0 := zPWA h (rshort (t) (0)) (nt) (ws1) (ts1) (r)) (Ls := [zObj h 0 [.ref ht, .ref hl, .ref hs, .ref ho, .ref hn, .int (zI (p)), .int (zI (y)), .int (zI (r))], zBRow ht (rshort (t) (0)) (nt), zWL hl (ws1) (capN nw ws1.length), zTS hs (ts1) (pd) (capN nb mb) (capN n ts1.length), zIRow ho (op1.map zI) (64) (64), zNumA hn]) (L2 := []) rfl (fun G w h => ⟨((ht, hl, hs, ho, hn), (p, y), (pd, capN nb mb, capN n ts1.length, capN nw ws1.length), op1.map zI), trivial, h⟩) ?_
                  first | (exfalso; omega) | exact zw_iret hR (by first | rw [if_pos (by omega)] | rw [if_neg (by omega)]) (by rw [rshort0]) rfl (by omega) (by omega) zd_PW_cut_105
                · -- 87 -> 90
                  refine zw_aload_n 0 rfl zd_PW_cut_90 ?_
                  refine zw_get zc_PW 2 1 rfl (by decide) zf_PW_19 rfl zd_PW_cut_91 ?_
                  refine zw_callV (As := []) (rest := []) (L2 := [zBRow ht (rshort (t) (0)) (nt), zIRow ho (op1.map zI) (64) (64), zObj h 0 [.ref ht, .ref hl, .ref hs, .ref ho, .ref hn, .int (zI (p)), .int (zI (y)), .int (zI (r))], zTS hs (ts1) (pd) (capN nb mb) (capN n ts1.length), zNumA hn]) (L' := [zWL hl (ws1) (capN nw ws1.length), zBRow ht (rshort (t) (0)) (nt), zIRow ho (op1.map zI) (64) (64), zObj h 0 [.ref ht, .ref hl, .ref hs, .ref ho, .ref hn, .int (zI (p)), .int (zI (y)), .int (zI (r))], zTS hs (ts1) (pd) (capN nb mb) (capN n ts1.length), zNumA hn]) (stk' := [.int (zI ((((ws1).length : Nat) : Int)))]) (c_WL_count hl (ws1) (capN nw ws1.length)) [3] [0, 1, 2, 4, 5] rfl rfl rfl zcal_WL_count zl_PW_82 zin_WL_count zse_WL_count 0 rfl zRv_WL rfl (Nat.le_of_ble_eq_true rfl) (Nat.le_of_ble_eq_true rfl) (by omega) (by omega) rfl (Nat.le_of_ble_eq_true rfl) rfl rfl zd_PW_cut_94 ?_
                  refine zw_goto 105 zd_PW_cut_97 (by decide) ?_
                  refine zw_sub (L' := [zObj h 0 [.ref ht, .ref hl, .ref hs, .ref ho, .ref hn, .int (zI (p)), .int (zI (y)), .int (zI (r))], zBRow ht (rshort (t) (0)) (nt), zWL hl (ws1) (capN nw ws1.length), zTS hs (ts1) (pd) (capN nb mb) (capN n ts1.length), zIRow ho (op1.map zI) (64) (64), zNumA hn]) [3, 1, 0, 4, 2, 5] rfl rfl ?_
                  refine zw_pack (at0 := zPWA h (rshort (t) (0)) (nt) (ws1) (ts1) (r)) (Ls := [zObj h 0 [.ref ht, .ref hl, .ref hs, .ref ho, .ref hn, .int (zI (p)), .int (zI (y)), .int (zI (r))], zBRow ht (rshort (t) (0)) (nt), zWL hl (ws1) (capN nw ws1.length), zTS hs (ts1) (pd) (capN nb mb) (capN n ts1.length), zIRow ho (op1.map zI) (64) (64), zNumA hn]) (L2 := []) rfl (fun G w h => ⟨((ht, hl, hs, ho, hn), (p, y), (pd, capN nb mb, capN n ts1.length, capN nw ws1.length), op1.map zI), trivial, h⟩) ?_
                  first | (exfalso; omega) | exact zw_iret hR (by first | rw [if_pos (by omega)] | rw [if_neg (by omega)]) (by rw [rshort0]) rfl (by omega) (by omega) zd_PW_cut_105
              · -- 66 -> 69
                obtain rfl : (⟨p, ws1, ts1, op1, 4, t.length, pd, mb⟩ : zU) = c1 := by rw [← hc]; unfold cutS; rw [eR]; dsimp only [zU.p, zU.ws, zU.ts, zU.op, zU.y, zU.r, zU.pend, zU.mb]; rw [if_pos (by omega)]
                dsimp only [zU.p, zU.ws, zU.ts, zU.op, zU.y, zU.r, zU.pend, zU.mb] at hR ⊢
                refine zw_aload_n 0 rfl zd_PW_cut_69 ?_
                refine zw_iconst zd_PW_cut_70 ?_
                refine zw_iload_n 1 rfl zd_PW_cut_71 ?_
                refine zw_callV (As := [.int (zI (4)), .int (zI (((t.length : Nat) : Int)))]) (rest := []) (L2 := [zIRow ho (op1.map zI) (64) (64), zBRow ht (t) (nt), zWL hl (ws1) (capN nw ws1.length), zTS hs (ts1) (pd) (capN nb mb) (capN n ts1.length), zNumA hn]) (L' := [zObj h 0 [.ref ht, .ref hl, .ref hs, .ref ho, .ref hn, .int (zI (p)), .int (zI (4)), .int (zI (((t.length : Nat) : Int)))], zIRow ho (op1.map zI) (64) (64), zBRow ht (t) (nt), zWL hl (ws1) (capN nw ws1.length), zTS hs (ts1) (pd) (capN nb mb) (capN n ts1.length), zNumA hn]) (stk' := []) (c_PW_goWrong h ht hl hs ho hn p y r 4 (((t.length : Nat) : Int))) [1] [0, 2, 3, 4, 5] rfl rfl rfl zcal_PW_goWrong zl_PW_75 zin_PW_goWrong zse_PW_goWrong 0 rfl zRv_obj rfl (Nat.le_of_ble_eq_true rfl) (Nat.le_of_ble_eq_true rfl) (by omega) (by omega) rfl (Nat.le_of_ble_eq_true rfl) rfl rfl zd_PW_cut_72 ?_
                refine zw_aload_n 0 rfl zd_PW_cut_75 ?_
                refine zw_get zc_PW 0 0 rfl (by decide) zf_PW_10 rfl zd_PW_cut_76 ?_
                refine zw_iconst zd_PW_cut_79 ?_
                refine zw_callV (As := [.int (zI (0))]) (rest := []) (L2 := [zObj h 0 [.ref ht, .ref hl, .ref hs, .ref ho, .ref hn, .int (zI (p)), .int (zI (4)), .int (zI (((t.length : Nat) : Int)))], zIRow ho (op1.map zI) (64) (64), zWL hl (ws1) (capN nw ws1.length), zTS hs (ts1) (pd) (capN nb mb) (capN n ts1.length), zNumA hn]) (L' := [zBRow ht (rshort (t) (0)) (nt), zObj h 0 [.ref ht, .ref hl, .ref hs, .ref ho, .ref hn, .int (zI (p)), .int (zI (4)), .int (zI (((t.length : Nat) : Int)))], zIRow ho (op1.map zI) (64) (64), zWL hl (ws1) (capN nw ws1.length), zTS hs (ts1) (pd) (capN nb mb) (capN n ts1.length), zNumA hn]) (stk' := []) (c_BR_shorten ht (t) (nt) (0) (by omega)) [2] [0, 1, 3, 4, 5] rfl rfl rfl zcal_BR_shorten zl_PW_79 zin_BR_shorten zse_BR_shorten 0 rfl zRv_BRow rfl (Nat.le_of_ble_eq_true rfl) (Nat.le_of_ble_eq_true rfl) (by omega) (by omega) rfl (Nat.le_of_ble_eq_true rfl) rfl rfl zd_PW_cut_80 ?_
                refine zw_aload_n 0 rfl zd_PW_cut_83 ?_
                refine zw_get zc_PW 1 6 rfl (by decide) zf_PW_50 rfl zd_PW_cut_84 ?_
                refine zw_if_ne 100 (by omega) zd_PW_cut_87 (by decide) (fun c87 => ?_) (fun c87 => ?_)
                · -- 87 -> 100
                  refine zw_aload_n 0 rfl zd_PW_cut_100 ?_
                  refine zw_get zc_PW 1 6 rfl (by decide) zf_PW_50 rfl zd_PW_cut_101 ?_
                  refine zw_ineg zd_PW_cut_104 ?_
                  refine zw_sub (L' := [zObj h 0 [.ref ht, .ref hl, .ref hs, .ref ho, .ref hn, .int (zI (p)), .int (zI (4)), .int (zI (((t.length : Nat) : Int)))], zBRow ht (rshort (t) (0)) (nt), zWL hl (ws1) (capN nw ws1.length), zTS hs (ts1) (pd) (capN nb mb) (capN n ts1.length), zIRow ho (op1.map zI) (64) (64), zNumA hn]) [1, 0, 3, 4, 2, 5] rfl rfl ?_
                  refine zw_pack (at0 := zPWA h (rshort (t) (0)) (nt) (ws1) (ts1) (((t.length : Nat) : Int))) (Ls := [zObj h 0 [.ref ht, .ref hl, .ref hs, .ref ho, .ref hn, .int (zI (p)), .int (zI (4)), .int (zI (((t.length : Nat) : Int)))], zBRow ht (rshort (t) (0)) (nt), zWL hl (ws1) (capN nw ws1.length), zTS hs (ts1) (pd) (capN nb mb) (capN n ts1.length), zIRow ho (op1.map zI) (64) (64), zNumA hn]) (L2 := []) rfl (fun G w h => ⟨((ht, hl, hs, ho, hn), (p, 4), (pd, capN nb mb, capN n ts1.length, capN nw ws1.length), op1.map zI), trivial, h⟩) ?_
                  first | (exfalso; omega) | exact zw_iret hR (by first | rw [if_pos (by omega)] | rw [if_neg (by omega)]) (by rw [rshort0]) rfl (by omega) (by omega) zd_PW_cut_105
                · -- 87 -> 90
                  exact absurd c87 (by decide)
          · -- 32 -> 35
            obtain rfl : y = 0 := by omega
            obtain rfl : pd = [] := o9 rfl
            have l01 := lvOut_01 t p
            obtain ⟨fk, hfk⟩ : ∃ fk, ((t.length : Int) - stp).toNat = fk + 1 := ⟨((t.length : Int) - stp).toNat - 1, by omega⟩
            rw [hfk] at g1
            have efk : fk = ((t.length : Int) - (stp + 1)).toNat := by omega
            refine zw_aload_n 0 rfl zd_PW_cut_35 ?_
            refine zw_callV (As := []) (rest := []) (L2 := [zWL hl (ws1) (capN nw ws1.length), zTS hs (ts1) ([]) (capN nb mb) (capN n ts1.length), zIRow ho (op1.map zI) (64) (64), zNumA hn]) (L' := [zObj h 0 [.ref ht, .ref hl, .ref hs, .ref ho, .ref hn, .int (zI (lvPos t p)), .int (zI (0)), .int (zI (r))], zBRow ht (t) (nt), zWL hl (ws1) (capN nw ws1.length), zTS hs (ts1) ([]) (capN nb mb) (capN n ts1.length), zIRow ho (op1.map zI) (64) (64), zNumA hn]) (stk' := [.int (zI (lvOut t p))]) (c_PW_leaveOut h ht hl hs ho hn t nt p 0 r (by omega)) [0, 1] [2, 3, 4, 5] rfl rfl rfl zcal_PW_leaveOut zl_PW_67 zin_PW_leaveOut zse_PW_leaveOut 0 rfl zRv_obj rfl (Nat.le_of_ble_eq_true rfl) (Nat.le_of_ble_eq_true rfl) (by omega) (by omega) rfl (Nat.le_of_ble_eq_true rfl) rfl rfl zd_PW_cut_36 ?_
            refine zw_if_ne 46 (by omega) zd_PW_cut_39 (by decide) (fun c39 => ?_) (fun c39 => ?_)
            · -- 39 -> 46
              refine zw_iinc (lv' := [(2, .int (zI (stp + 1))), (0, .ref h), (1, .int (zI (((t.length : Nat) : Int))))]) 2 rfl (Nat.le_of_ble_eq_true rfl) rfl zd_PW_cut_46 ?_
              refine zw_goto 15 zd_PW_cut_49 (by decide) ?_
              refine zw_lpick (lv' := [(0, .ref h), (1, .int (zI (((t.length : Nat) : Int)))), (2, .int (zI (stp + 1)))]) [1, 2, 0] rfl ?_
              rw [runS_skip (by show p < t.length; omega) rfl (by show lvOut t p = 1; omega), efk] at g1
              have sk := skpS_ok g0 (by show p < t.length; omega) (by show lvOut t p = 1; omega)
              have sk2 : p < lvPos t p := sk.2
              exact ih (lvPos t p) ws1 ts1 op1 0 r [] mb (stp + 1) k1 k2 k3 sk.1 g1 (by omega) g3 (by omega)
            · -- 39 -> 42
              have el : lvPos t p = p := lvPos_0 (by omega)
              refine zw_eqL (L' := [zObj h 0 [.ref ht, .ref hl, .ref hs, .ref ho, .ref hn, .int (zI (p)), .int (zI (0)), .int (zI (r))], zBRow ht (t) (nt), zWL hl (ws1) (capN nw ws1.length), zTS hs (ts1) ([]) (capN nb mb) (capN n ts1.length), zIRow ho (op1.map zI) (64) (64), zNumA hn]) (by rw [el]) ?_
              rw [runS_one (by show p < t.length; omega) rfl (by show lvOut t p = 0; omega), efk] at g1
              have oo := oneS_ok g0 (by show p < t.length; omega) (by show lvOut t p = 0; omega)
              have om := oneS_mono t (⟨p, ws1, ts1, op1, 0, r, [], mb⟩ : zU)
              generalize hu1 : oneS t (⟨p, ws1, ts1, op1, 0, r, [], mb⟩ : zU) = u1 at g1 oo om
              have om : ws1.length ≤ u1.ws.length ∧ ts1.length ≤ u1.ts.length ∧ mb ≤ u1.mb ∧ (u1.y = 0 ∨ (0 ≤ u1.y ∧ u1.y ≤ 8)) := om
              obtain ⟨om1, om2, om3, om4⟩ := om
              have oz := oo.1
              obtain ⟨z1, z2, z3, z4, z5, z6, z7, z8, z9, z10⟩ := oz
              have ooy : p < u1.p ∨ u1.y ≠ 0 := oo.2.1
              have ce_nb : capN (capN nb mb) u1.mb = capN nb u1.mb := by rw [capN_capN hts2.2.1, Nat.max_eq_right om3]
              have cm_nb := capN_mono nb om3
              have ck_nb : capN nb u1.mb ≤ nb + 2 * u1.mb := by have := capN_le nb u1.mb; omega
              obtain ⟨d_nb, e_nb⟩ : ∃ d, d + capN nb mb = capN nb u1.mb := ⟨_, Nat.sub_add_cancel cm_nb⟩
              have ce_n : capN (capN n ts1.length) u1.ts.length = capN n u1.ts.length := by rw [capN_capN hts1.2.1, Nat.max_eq_right om2]
              have cm_n := capN_mono n om2
              have ck_n : capN n u1.ts.length ≤ n + 2 * u1.ts.length := by have := capN_le n u1.ts.length; omega
              obtain ⟨d_n, e_n⟩ : ∃ d, d + capN n ts1.length = capN n u1.ts.length := ⟨_, Nat.sub_add_cancel cm_n⟩
              have ce_nw : capN (capN nw ws1.length) u1.ws.length = capN nw u1.ws.length := by rw [capN_capN hwl.2.1, Nat.max_eq_right om1]
              have cm_nw := capN_mono nw om1
              have ck_nw : capN nw u1.ws.length ≤ nw + 2 * u1.ws.length := by have := capN_le nw u1.ws.length; omega
              obtain ⟨d_nw, e_nw⟩ : ∃ d, d + capN nw ws1.length = capN nw u1.ws.length := ⟨_, Nat.sub_add_cancel cm_nw⟩
              refine zw_aload_n 0 rfl zd_PW_cut_42 ?_
              refine zw_callV (As := []) (rest := []) (L2 := []) (L' := [zObj h 0 [.ref ht, .ref hl, .ref hs, .ref ho, .ref hn, .int (zI (u1.p)), .int (zI (u1.y)), .int (zI (u1.r))], zBRow ht (t) (nt), zWL hl (u1.ws) (capN (capN nw ws1.length) u1.ws.length), zTS hs (u1.ts) (u1.pend) (capN (capN nb mb) u1.mb) (capN (capN n ts1.length) u1.ts.length), zIRow ho (u1.op.map zI) (64) (64), zNumA hn]) (stk' := []) (c_PW_cutWordD h ht hl hs ho hn t nt p r ws1 (capN nw ws1.length) ts1 (capN nb mb) (capN n ts1.length) op1 mb u1 hu1 (by omega) (by omega) (by omega) (by omega) (capN_cov hts2.2.1 mb) (by omega) o6 o7 d_nb d_n d_nw (by rw [ce_nb, ← e_nb]; exact Nat.add_sub_cancel ..) (by rw [ce_n, ← e_n]; exact Nat.add_sub_cancel ..) (by rw [ce_nw, ← e_nw]; exact Nat.add_sub_cancel ..)) [0, 1, 2, 3, 4, 5] [] rfl rfl rfl zcal_PW_cutWord zl_PW_71 zin_PW_cutWord zse_PW_cutWord 0 rfl zRv_obj rfl (Nat.le_of_ble_eq_true rfl) (Nat.le_of_ble_eq_true rfl) (by omega) (by omega) rfl (Nat.le_of_ble_eq_true rfl) rfl rfl zd_PW_cut_43 ?_
              refine zw_eqL (L' := [zObj h 0 [.ref ht, .ref hl, .ref hs, .ref ho, .ref hn, .int (zI (u1.p)), .int (zI (u1.y)), .int (zI (u1.r))], zBRow ht (t) (nt), zWL hl (u1.ws) (capN nw u1.ws.length), zTS hs (u1.ts) (u1.pend) (capN nb u1.mb) (capN n u1.ts.length), zIRow ho (u1.op.map zI) (64) (64), zNumA hn]) (by rw [ce_nb, ce_n, ce_nw]) ?_
              refine zw_iinc (lv' := [(2, .int (zI (stp + 1))), (0, .ref h), (1, .int (zI (((t.length : Nat) : Int))))]) 2 rfl (Nat.le_of_ble_eq_true rfl) rfl zd_PW_cut_46 ?_
              refine zw_goto 15 zd_PW_cut_49 (by decide) ?_
              refine zw_lpick (lv' := [(0, .ref h), (1, .int (zI (((t.length : Nat) : Int)))), (2, .int (zI (stp + 1)))]) [1, 2, 0] rfl ?_
              refine zw_widen (k' := (k1 + d_nb) + 4 * (k2 + d_n) + 3 * (k3 + d_nw)) (n' := 2 * (k1 + d_nb) + 8 * (k2 + d_n) + 6 * (k3 + d_nw)) (by omega) (by omega) ?_
              exact ih u1.p u1.ws u1.ts u1.op u1.y u1.r u1.pend u1.mb (stp + 1) (k1 + d_nb) (k2 + d_n) (k3 + d_nw) oo.1 g1 (by omega) (by omega) (by omega)
  refine zw_aload_n 0 rfl zd_PW_cut_0 ?_
  refine zw_get zc_PW 0 0 rfl (by decide) zf_PW_10 rfl zd_PW_cut_1 ?_
  refine zw_callV (As := []) (rest := []) (L2 := [zObj h 0 [.ref ht, .ref hl, .ref hs, .ref ho, .ref hn, .int (zI (p0)), .int (zI (w0)), .int (zI (r0))], zWL hl (ws) (nw), zTS hs (ts) (pend) (nb) (n), zIRow ho (op) (64) (64), zNumA hn]) (L' := [zBRow ht (t) (nt), zObj h 0 [.ref ht, .ref hl, .ref hs, .ref ho, .ref hn, .int (zI (p0)), .int (zI (w0)), .int (zI (r0))], zWL hl (ws) (nw), zTS hs (ts) (pend) (nb) (n), zIRow ho (op) (64) (64), zNumA hn]) (stk' := [.int (zI ((((t).length : Nat) : Int)))]) (c_BR_count ht (t) (nt) ((t).length) (rfl)) [1] [0, 2, 3, 4, 5] rfl rfl rfl zcal_BR_count zl_PW_56 zin_BR_count zse_BR_count 0 rfl zRv_BRow rfl (Nat.le_of_ble_eq_true rfl) (Nat.le_of_ble_eq_true rfl) (by omega) (by omega) rfl (Nat.le_of_ble_eq_true rfl) rfl rfl zd_PW_cut_4 ?_
  refine zw_istore_n (lv' := [(1, .int (zI ((((t).length : Nat) : Int)))), (0, .ref h)]) (Nat.le_of_ble_eq_true rfl) rfl zd_PW_cut_7 ?_
  refine zw_aload_n 1 rfl zd_PW_cut_8 ?_
  refine zw_iload_n 0 rfl zd_PW_cut_9 ?_
  refine zw_callV (As := [.int (zI ((((t).length : Nat) : Int)))]) (rest := []) (L2 := [zBRow ht (t) (nt), zNumA hn]) (L' := [zObj h 0 [.ref ht, .ref hl, .ref hs, .ref ho, .ref hn, .int (zI (0)), .int (zI (0)), .int (zI ((((t).length : Nat) : Int)))], zWL hl ([]) (nw), zTS hs ([]) ([]) (nb) (n), zIRow ho ([]) (64) (64), zBRow ht (t) (nt), zNumA hn]) (stk' := []) (c_PW_startAnew h ht hl hs ho hn p0 w0 r0 ws nw ts pend nb n op ((((t).length : Nat) : Int))) [1, 2, 3, 4] [0, 5] rfl rfl rfl zcal_PW_startAnew zl_PW_64 zin_PW_startAnew zse_PW_startAnew 0 rfl zRv_obj rfl (Nat.le_of_ble_eq_true rfl) (Nat.le_of_ble_eq_true rfl) (by omega) (by omega) rfl (Nat.le_of_ble_eq_true rfl) rfl rfl zd_PW_cut_10 ?_
  refine zw_iconst zd_PW_cut_13 ?_
  refine zw_istore_n (lv' := [(2, .int (zI (0))), (1, .int (zI ((((t).length : Nat) : Int)))), (0, .ref h)]) (Nat.le_of_ble_eq_true rfl) rfl zd_PW_cut_14 ?_
  refine zw_sub (L' := [zObj h 0 [.ref ht, .ref hl, .ref hs, .ref ho, .ref hn, .int (zI (0)), .int (zI (0)), .int (zI ((((t).length : Nat) : Int)))], zBRow ht (t) (nt), zWL hl ([]) (nw), zTS hs ([]) ([]) (nb) (n), zIRow ho ([]) (64) (64), zNumA hn]) [0, 4, 1, 2, 3, 5] rfl rfl ?_
  refine zw_lpick (lv' := [(0, .ref h), (1, .int (zI ((((t).length : Nat) : Int)))), (2, .int (zI (0)))]) [2, 1, 0] rfl ?_
  refine zw_widen (k' := 0 + 4 * 0 + 3 * 0) (n' := 2 * 0 + 8 * 0 + 6 * 0) (by omega) (by omega) ?_
  exact lp _ 0 [] [] [] 0 ((t.length : Nat) : Int) [] 0 0 0 0 0 (zU0_ok t) (by rw [show ((t.length : Int) - 0).toNat = t.length by omega]) (by omega) ⟨Nat.zero_add _, Nat.zero_add _, Nat.zero_add _⟩ (Nat.lt_succ_self _)
set_option maxHeartbeats 4000000 in
set_option maxRecDepth 100000 in
theorem c_PW_place (h : Nat) (t : List Int) (nt : Nat) (ws : List (Int32 × Int32 × Int32)) (ts : List (List Int)) (r0 : Int) : zCT zy_PW_place zm_PW_place (0) (0) [.ref h] [zPWA h (t) (nt) (ws) (ts) (r0)] (some (.int (zI r0))) [zPWA h (t) (nt) (ws) (ts) (r0)] := by
  refine zCT.of [(0, .ref h)] rfl (by decide) rfl (fun h => by first | rfl | cases h) (Nat.le_of_ble_eq_true rfl) (fun X hR => ?_)
  refine zw_unp (fun G ws h => h) (fun x0 hx0 => ?_)
  obtain ⟨⟨ht, hl, hs, ho, hn⟩, ⟨p0, w0⟩, ⟨pend, nb, n, nw⟩, op⟩ := x0
  simp only [List.cons_append, List.nil_append]
  refine zw_fact 1 rfl (fun G w h => zBR_fact h) (fun hbr => ?_)
  obtain ⟨⟨ht1, ht2, ht3⟩, hby⟩ := hbr
  refine zw_fact 2 rfl (fun G w h => zWL_fact h) (fun hwl => ?_)
  refine zw_fact 3 rfl (fun G w h => zTS_fact h) (fun hts => ?_)
  obtain ⟨hts1, hts2, hts3, hts4⟩ := hts
  refine zw_aload_n 0 rfl zd_PW_place_0 ?_
  refine zw_get zc_PW 0 7 rfl (by decide) zf_PW_53 rfl zd_PW_place_1 ?_
  refine zw_pack (at0 := zPWA h (t) (nt) (ws) (ts) (r0)) (Ls := [zObj h 0 [.ref ht, .ref hl, .ref hs, .ref ho, .ref hn, .int (zI (p0)), .int (zI (w0)), .int (zI (r0))], zBRow ht (t) (nt), zWL hl (ws) (nw), zTS hs (ts) (pend) (nb) (n), zIRow ho (op) (64) (64), zNumA hn]) (L2 := []) rfl (fun G w h => ⟨((ht, hl, hs, ho, hn), (p0, w0), (pend, nb, n, nw), op), trivial, h⟩) ?_
  exact zw_iret hR rfl rfl rfl (by omega) (by omega) zd_PW_place_4
set_option maxHeartbeats 4000000 in
set_option maxRecDepth 100000 in
theorem c_PW_words (h : Nat) (t : List Int) (nt : Nat) (ws : List (Int32 × Int32 × Int32)) (ts : List (List Int)) (r0 : Int) : zCT zy_PW_words zm_PW_words (0) (0) [.ref h] [zPWA h (t) (nt) (ws) (ts) (r0)] (some (.int (zI ((ws.length : Nat) : Int)))) [zPWA h (t) (nt) (ws) (ts) (r0)] := by
  refine zCT.of [(0, .ref h)] rfl (by decide) rfl (fun h => by first | rfl | cases h) (Nat.le_of_ble_eq_true rfl) (fun X hR => ?_)
  refine zw_unp (fun G ws h => h) (fun x0 hx0 => ?_)
  obtain ⟨⟨ht, hl, hs, ho, hn⟩, ⟨p0, w0⟩, ⟨pend, nb, n, nw⟩, op⟩ := x0
  simp only [List.cons_append, List.nil_append]
  refine zw_fact 1 rfl (fun G w h => zBR_fact h) (fun hbr => ?_)
  obtain ⟨⟨ht1, ht2, ht3⟩, hby⟩ := hbr
  refine zw_fact 2 rfl (fun G w h => zWL_fact h) (fun hwl => ?_)
  refine zw_fact 3 rfl (fun G w h => zTS_fact h) (fun hts => ?_)
  obtain ⟨hts1, hts2, hts3, hts4⟩ := hts
  refine zw_aload_n 0 rfl zd_PW_words_0 ?_
  refine zw_get zc_PW 0 1 rfl (by decide) zf_PW_19 rfl zd_PW_words_1 ?_
  refine zw_callV (As := []) (rest := []) (L2 := [zObj h 0 [.ref ht, .ref hl, .ref hs, .ref ho, .ref hn, .int (zI (p0)), .int (zI (w0)), .int (zI (r0))], zBRow ht (t) (nt), zTS hs (ts) (pend) (nb) (n), zIRow ho (op) (64) (64), zNumA hn]) (L' := [zWL hl (ws) (nw), zObj h 0 [.ref ht, .ref hl, .ref hs, .ref ho, .ref hn, .int (zI (p0)), .int (zI (w0)), .int (zI (r0))], zBRow ht (t) (nt), zTS hs (ts) (pend) (nb) (n), zIRow ho (op) (64) (64), zNumA hn]) (stk' := [.int (zI ((((ws).length : Nat) : Int)))]) (c_WL_count hl (ws) (nw)) [2] [0, 1, 3, 4, 5] rfl rfl rfl zcal_WL_count zl_PW_82 zin_WL_count zse_WL_count 0 rfl zRv_WL rfl (Nat.le_of_ble_eq_true rfl) (Nat.le_of_ble_eq_true rfl) (by omega) (by omega) rfl (Nat.le_of_ble_eq_true rfl) rfl rfl zd_PW_words_4 ?_
  refine zw_sub (L' := [zObj h 0 [.ref ht, .ref hl, .ref hs, .ref ho, .ref hn, .int (zI (p0)), .int (zI (w0)), .int (zI (r0))], zBRow ht (t) (nt), zWL hl (ws) (nw), zTS hs (ts) (pend) (nb) (n), zIRow ho (op) (64) (64), zNumA hn]) [1, 2, 0, 3, 4, 5] rfl rfl ?_
  refine zw_pack (at0 := zPWA h (t) (nt) (ws) (ts) (r0)) (Ls := [zObj h 0 [.ref ht, .ref hl, .ref hs, .ref ho, .ref hn, .int (zI (p0)), .int (zI (w0)), .int (zI (r0))], zBRow ht (t) (nt), zWL hl (ws) (nw), zTS hs (ts) (pend) (nb) (n), zIRow ho (op) (64) (64), zNumA hn]) (L2 := []) rfl (fun G w h => ⟨((ht, hl, hs, ho, hn), (p0, w0), (pend, nb, n, nw), op), trivial, h⟩) ?_
  exact zw_iret hR rfl rfl rfl (by omega) (by omega) zd_PW_words_7
set_option maxHeartbeats 4000000 in
set_option maxRecDepth 100000 in
theorem c_PW_texts (h : Nat) (t : List Int) (nt : Nat) (ws : List (Int32 × Int32 × Int32)) (ts : List (List Int)) (r0 : Int) : zCT zy_PW_texts zm_PW_texts (0) (0) [.ref h] [zPWA h (t) (nt) (ws) (ts) (r0)] (some (.int (zI ((ts.length : Nat) : Int)))) [zPWA h (t) (nt) (ws) (ts) (r0)] := by
  refine zCT.of [(0, .ref h)] rfl (by decide) rfl (fun h => by first | rfl | cases h) (Nat.le_of_ble_eq_true rfl) (fun X hR => ?_)
  refine zw_unp (fun G ws h => h) (fun x0 hx0 => ?_)
  obtain ⟨⟨ht, hl, hs, ho, hn⟩, ⟨p0, w0⟩, ⟨pend, nb, n, nw⟩, op⟩ := x0
  simp only [List.cons_append, List.nil_append]
  refine zw_fact 1 rfl (fun G w h => zBR_fact h) (fun hbr => ?_)
  obtain ⟨⟨ht1, ht2, ht3⟩, hby⟩ := hbr
  refine zw_fact 2 rfl (fun G w h => zWL_fact h) (fun hwl => ?_)
  refine zw_fact 3 rfl (fun G w h => zTS_fact h) (fun hts => ?_)
  obtain ⟨hts1, hts2, hts3, hts4⟩ := hts
  refine zw_aload_n 0 rfl zd_PW_texts_0 ?_
  refine zw_get zc_PW 0 2 rfl (by decide) zf_PW_26 rfl zd_PW_texts_1 ?_
  refine zw_callV (As := []) (rest := []) (L2 := [zObj h 0 [.ref ht, .ref hl, .ref hs, .ref ho, .ref hn, .int (zI (p0)), .int (zI (w0)), .int (zI (r0))], zBRow ht (t) (nt), zWL hl (ws) (nw), zIRow ho (op) (64) (64), zNumA hn]) (L' := [zTS hs (ts) (pend) (nb) (n), zObj h 0 [.ref ht, .ref hl, .ref hs, .ref ho, .ref hn, .int (zI (p0)), .int (zI (w0)), .int (zI (r0))], zBRow ht (t) (nt), zWL hl (ws) (nw), zIRow ho (op) (64) (64), zNumA hn]) (stk' := [.int (zI ((((ts).length : Nat) : Int)))]) (c_TS_count hs (ts) (pend) (nb) (n)) [3] [0, 1, 2, 4, 5] rfl rfl rfl zcal_TS_count zl_PW_93 zin_TS_count zse_TS_count 0 rfl zRv_TS rfl (Nat.le_of_ble_eq_true rfl) (Nat.le_of_ble_eq_true rfl) (by omega) (by omega) rfl (Nat.le_of_ble_eq_true rfl) rfl rfl zd_PW_texts_4 ?_
  refine zw_sub (L' := [zObj h 0 [.ref ht, .ref hl, .ref hs, .ref ho, .ref hn, .int (zI (p0)), .int (zI (w0)), .int (zI (r0))], zBRow ht (t) (nt), zWL hl (ws) (nw), zTS hs (ts) (pend) (nb) (n), zIRow ho (op) (64) (64), zNumA hn]) [1, 2, 3, 0, 4, 5] rfl rfl ?_
  refine zw_pack (at0 := zPWA h (t) (nt) (ws) (ts) (r0)) (Ls := [zObj h 0 [.ref ht, .ref hl, .ref hs, .ref ho, .ref hn, .int (zI (p0)), .int (zI (w0)), .int (zI (r0))], zBRow ht (t) (nt), zWL hl (ws) (nw), zTS hs (ts) (pend) (nb) (n), zIRow ho (op) (64) (64), zNumA hn]) (L2 := []) rfl (fun G w h => ⟨((ht, hl, hs, ho, hn), (p0, w0), (pend, nb, n, nw), op), trivial, h⟩) ?_
  exact zw_iret hR rfl rfl rfl (by omega) (by omega) zd_PW_texts_7
set_option maxHeartbeats 4000000 in
set_option maxRecDepth 100000 in
theorem c_PW_kind (h : Nat) (t : List Int) (nt : Nat) (ws : List (Int32 × Int32 × Int32)) (ts : List (List Int)) (r0 : Int) (z : Int) (hz : -2147483648 ≤ z ∧ z ≤ 2147483647) : zCT zy_PW_kind zm_PW_kind (0) (0) [.ref h, .int (zI z)] [zPWA h (t) (nt) (ws) (ts) (r0)] (some (.int (iget (ws.map (fun q => q.1)) z))) [zPWA h (t) (nt) (ws) (ts) (r0)] := by
  refine zCT.of [(0, .ref h), (1, .int (zI (z)))] rfl (by decide) rfl (fun h => by first | rfl | cases h) (Nat.le_of_ble_eq_true rfl) (fun X hR => ?_)
  refine zw_unp (fun G ws h => h) (fun x0 hx0 => ?_)
  obtain ⟨⟨ht, hl, hs, ho, hn⟩, ⟨p0, w0⟩, ⟨pend, nb, n, nw⟩, op⟩ := x0
  simp only [List.cons_append, List.nil_append]
  refine zw_fact 1 rfl (fun G w h => zBR_fact h) (fun hbr => ?_)
  obtain ⟨⟨ht1, ht2, ht3⟩, hby⟩ := hbr
  refine zw_fact 2 rfl (fun G w h => zWL_fact h) (fun hwl => ?_)
  refine zw_fact 3 rfl (fun G w h => zTS_fact h) (fun hts => ?_)
  obtain ⟨hts1, hts2, hts3, hts4⟩ := hts
  refine zw_aload_n 0 rfl zd_PW_kind_0 ?_
  refine zw_get zc_PW 0 1 rfl (by decide) zf_PW_19 rfl zd_PW_kind_1 ?_
  refine zw_iload_n 1 rfl zd_PW_kind_4 ?_
  refine zw_callV (As := [.int (zI (z))]) (rest := []) (L2 := [zObj h 0 [.ref ht, .ref hl, .ref hs, .ref ho, .ref hn, .int (zI (p0)), .int (zI (w0)), .int (zI (r0))], zBRow ht (t) (nt), zTS hs (ts) (pend) (nb) (n), zIRow ho (op) (64) (64), zNumA hn]) (L' := [zWL hl (ws) (nw), zObj h 0 [.ref ht, .ref hl, .ref hs, .ref ho, .ref hn, .int (zI (p0)), .int (zI (w0)), .int (zI (r0))], zBRow ht (t) (nt), zTS hs (ts) (pend) (nb) (n), zIRow ho (op) (64) (64), zNumA hn]) (stk' := [.int (iget ((ws).map (fun q => q.1)) (z))]) (c_WL_kindOf hl (ws) (nw) (z) (by omega)) [2] [0, 1, 3, 4, 5] rfl rfl rfl zcal_WL_kindOf zl_PW_83 zin_WL_kindOf zse_WL_kindOf 0 rfl zRv_WL rfl (Nat.le_of_ble_eq_true rfl) (Nat.le_of_ble_eq_true rfl) (by omega) (by omega) rfl (Nat.le_of_ble_eq_true rfl) rfl rfl zd_PW_kind_5 ?_
  refine zw_sub (L' := [zObj h 0 [.ref ht, .ref hl, .ref hs, .ref ho, .ref hn, .int (zI (p0)), .int (zI (w0)), .int (zI (r0))], zBRow ht (t) (nt), zWL hl (ws) (nw), zTS hs (ts) (pend) (nb) (n), zIRow ho (op) (64) (64), zNumA hn]) [1, 2, 0, 3, 4, 5] rfl rfl ?_
  refine zw_pack (at0 := zPWA h (t) (nt) (ws) (ts) (r0)) (Ls := [zObj h 0 [.ref ht, .ref hl, .ref hs, .ref ho, .ref hn, .int (zI (p0)), .int (zI (w0)), .int (zI (r0))], zBRow ht (t) (nt), zWL hl (ws) (nw), zTS hs (ts) (pend) (nb) (n), zIRow ho (op) (64) (64), zNumA hn]) (L2 := []) rfl (fun G w h => ⟨((ht, hl, hs, ho, hn), (p0, w0), (pend, nb, n, nw), op), trivial, h⟩) ?_
  exact zw_iret hR rfl rfl rfl (by omega) (by omega) zd_PW_kind_8
set_option maxHeartbeats 4000000 in
set_option maxRecDepth 100000 in
theorem c_PW_number (h : Nat) (t : List Int) (nt : Nat) (ws : List (Int32 × Int32 × Int32)) (ts : List (List Int)) (r0 : Int) (z : Int) (hz : -2147483648 ≤ z ∧ z ≤ 2147483647) : zCT zy_PW_number zm_PW_number (0) (0) [.ref h, .int (zI z)] [zPWA h (t) (nt) (ws) (ts) (r0)] (some (.int (iget (ws.map (fun q => q.2.1)) z))) [zPWA h (t) (nt) (ws) (ts) (r0)] := by
  refine zCT.of [(0, .ref h), (1, .int (zI (z)))] rfl (by decide) rfl (fun h => by first | rfl | cases h) (Nat.le_of_ble_eq_true rfl) (fun X hR => ?_)
  refine zw_unp (fun G ws h => h) (fun x0 hx0 => ?_)
  obtain ⟨⟨ht, hl, hs, ho, hn⟩, ⟨p0, w0⟩, ⟨pend, nb, n, nw⟩, op⟩ := x0
  simp only [List.cons_append, List.nil_append]
  refine zw_fact 1 rfl (fun G w h => zBR_fact h) (fun hbr => ?_)
  obtain ⟨⟨ht1, ht2, ht3⟩, hby⟩ := hbr
  refine zw_fact 2 rfl (fun G w h => zWL_fact h) (fun hwl => ?_)
  refine zw_fact 3 rfl (fun G w h => zTS_fact h) (fun hts => ?_)
  obtain ⟨hts1, hts2, hts3, hts4⟩ := hts
  refine zw_aload_n 0 rfl zd_PW_number_0 ?_
  refine zw_get zc_PW 0 1 rfl (by decide) zf_PW_19 rfl zd_PW_number_1 ?_
  refine zw_iload_n 1 rfl zd_PW_number_4 ?_
  refine zw_callV (As := [.int (zI (z))]) (rest := []) (L2 := [zObj h 0 [.ref ht, .ref hl, .ref hs, .ref ho, .ref hn, .int (zI (p0)), .int (zI (w0)), .int (zI (r0))], zBRow ht (t) (nt), zTS hs (ts) (pend) (nb) (n), zIRow ho (op) (64) (64), zNumA hn]) (L' := [zWL hl (ws) (nw), zObj h 0 [.ref ht, .ref hl, .ref hs, .ref ho, .ref hn, .int (zI (p0)), .int (zI (w0)), .int (zI (r0))], zBRow ht (t) (nt), zTS hs (ts) (pend) (nb) (n), zIRow ho (op) (64) (64), zNumA hn]) (stk' := [.int (iget ((ws).map (fun q => q.2.1)) (z))]) (c_WL_numberOf hl (ws) (nw) (z) (by omega)) [2] [0, 1, 3, 4, 5] rfl rfl rfl zcal_WL_numberOf zl_PW_87 zin_WL_numberOf zse_WL_numberOf 0 rfl zRv_WL rfl (Nat.le_of_ble_eq_true rfl) (Nat.le_of_ble_eq_true rfl) (by omega) (by omega) rfl (Nat.le_of_ble_eq_true rfl) rfl rfl zd_PW_number_5 ?_
  refine zw_sub (L' := [zObj h 0 [.ref ht, .ref hl, .ref hs, .ref ho, .ref hn, .int (zI (p0)), .int (zI (w0)), .int (zI (r0))], zBRow ht (t) (nt), zWL hl (ws) (nw), zTS hs (ts) (pend) (nb) (n), zIRow ho (op) (64) (64), zNumA hn]) [1, 2, 0, 3, 4, 5] rfl rfl ?_
  refine zw_pack (at0 := zPWA h (t) (nt) (ws) (ts) (r0)) (Ls := [zObj h 0 [.ref ht, .ref hl, .ref hs, .ref ho, .ref hn, .int (zI (p0)), .int (zI (w0)), .int (zI (r0))], zBRow ht (t) (nt), zWL hl (ws) (nw), zTS hs (ts) (pend) (nb) (n), zIRow ho (op) (64) (64), zNumA hn]) (L2 := []) rfl (fun G w h => ⟨((ht, hl, hs, ho, hn), (p0, w0), (pend, nb, n, nw), op), trivial, h⟩) ?_
  exact zw_iret hR rfl rfl rfl (by omega) (by omega) zd_PW_number_8
set_option maxHeartbeats 4000000 in
set_option maxRecDepth 100000 in
theorem c_PW_begin (h : Nat) (t : List Int) (nt : Nat) (ws : List (Int32 × Int32 × Int32)) (ts : List (List Int)) (r0 : Int) (z : Int) (hz : -2147483648 ≤ z ∧ z ≤ 2147483647) : zCT zy_PW_begin zm_PW_begin (0) (0) [.ref h, .int (zI z)] [zPWA h (t) (nt) (ws) (ts) (r0)] (some (.int (iget (ws.map (fun q => q.2.2)) z))) [zPWA h (t) (nt) (ws) (ts) (r0)] := by
  refine zCT.of [(0, .ref h), (1, .int (zI (z)))] rfl (by decide) rfl (fun h => by first | rfl | cases h) (Nat.le_of_ble_eq_true rfl) (fun X hR => ?_)
  refine zw_unp (fun G ws h => h) (fun x0 hx0 => ?_)
  obtain ⟨⟨ht, hl, hs, ho, hn⟩, ⟨p0, w0⟩, ⟨pend, nb, n, nw⟩, op⟩ := x0
  simp only [List.cons_append, List.nil_append]
  refine zw_fact 1 rfl (fun G w h => zBR_fact h) (fun hbr => ?_)
  obtain ⟨⟨ht1, ht2, ht3⟩, hby⟩ := hbr
  refine zw_fact 2 rfl (fun G w h => zWL_fact h) (fun hwl => ?_)
  refine zw_fact 3 rfl (fun G w h => zTS_fact h) (fun hts => ?_)
  obtain ⟨hts1, hts2, hts3, hts4⟩ := hts
  refine zw_aload_n 0 rfl zd_PW_begin_0 ?_
  refine zw_get zc_PW 0 1 rfl (by decide) zf_PW_19 rfl zd_PW_begin_1 ?_
  refine zw_iload_n 1 rfl zd_PW_begin_4 ?_
  refine zw_callV (As := [.int (zI (z))]) (rest := []) (L2 := [zObj h 0 [.ref ht, .ref hl, .ref hs, .ref ho, .ref hn, .int (zI (p0)), .int (zI (w0)), .int (zI (r0))], zBRow ht (t) (nt), zTS hs (ts) (pend) (nb) (n), zIRow ho (op) (64) (64), zNumA hn]) (L' := [zWL hl (ws) (nw), zObj h 0 [.ref ht, .ref hl, .ref hs, .ref ho, .ref hn, .int (zI (p0)), .int (zI (w0)), .int (zI (r0))], zBRow ht (t) (nt), zTS hs (ts) (pend) (nb) (n), zIRow ho (op) (64) (64), zNumA hn]) (stk' := [.int (iget ((ws).map (fun q => q.2.2)) (z))]) (c_WL_beginOf hl (ws) (nw) (z) (by omega)) [2] [0, 1, 3, 4, 5] rfl rfl rfl zcal_WL_beginOf zl_PW_90 zin_WL_beginOf zse_WL_beginOf 0 rfl zRv_WL rfl (Nat.le_of_ble_eq_true rfl) (Nat.le_of_ble_eq_true rfl) (by omega) (by omega) rfl (Nat.le_of_ble_eq_true rfl) rfl rfl zd_PW_begin_5 ?_
  refine zw_sub (L' := [zObj h 0 [.ref ht, .ref hl, .ref hs, .ref ho, .ref hn, .int (zI (p0)), .int (zI (w0)), .int (zI (r0))], zBRow ht (t) (nt), zWL hl (ws) (nw), zTS hs (ts) (pend) (nb) (n), zIRow ho (op) (64) (64), zNumA hn]) [1, 2, 0, 3, 4, 5] rfl rfl ?_
  refine zw_pack (at0 := zPWA h (t) (nt) (ws) (ts) (r0)) (Ls := [zObj h 0 [.ref ht, .ref hl, .ref hs, .ref ho, .ref hn, .int (zI (p0)), .int (zI (w0)), .int (zI (r0))], zBRow ht (t) (nt), zWL hl (ws) (nw), zTS hs (ts) (pend) (nb) (n), zIRow ho (op) (64) (64), zNumA hn]) (L2 := []) rfl (fun G w h => ⟨((ht, hl, hs, ho, hn), (p0, w0), (pend, nb, n, nw), op), trivial, h⟩) ?_
  exact zw_iret hR rfl rfl rfl (by omega) (by omega) zd_PW_begin_8
set_option maxHeartbeats 4000000 in
set_option maxRecDepth 100000 in
theorem c_PW_size (h : Nat) (t : List Int) (nt : Nat) (ws : List (Int32 × Int32 × Int32)) (ts : List (List Int)) (r0 : Int) (z : Int) (hz : -2147483648 ≤ z ∧ z ≤ 2147483647) : zCT zy_PW_size zm_PW_size (0) (0) [.ref h, .int (zI z)] [zPWA h (t) (nt) (ws) (ts) (r0)] (some (.int (iget (tsSizes ts) z))) [zPWA h (t) (nt) (ws) (ts) (r0)] := by
  refine zCT.of [(0, .ref h), (1, .int (zI (z)))] rfl (by decide) rfl (fun h => by first | rfl | cases h) (Nat.le_of_ble_eq_true rfl) (fun X hR => ?_)
  refine zw_unp (fun G ws h => h) (fun x0 hx0 => ?_)
  obtain ⟨⟨ht, hl, hs, ho, hn⟩, ⟨p0, w0⟩, ⟨pend, nb, n, nw⟩, op⟩ := x0
  simp only [List.cons_append, List.nil_append]
  refine zw_fact 1 rfl (fun G w h => zBR_fact h) (fun hbr => ?_)
  obtain ⟨⟨ht1, ht2, ht3⟩, hby⟩ := hbr
  refine zw_fact 2 rfl (fun G w h => zWL_fact h) (fun hwl => ?_)
  refine zw_fact 3 rfl (fun G w h => zTS_fact h) (fun hts => ?_)
  obtain ⟨hts1, hts2, hts3, hts4⟩ := hts
  refine zw_aload_n 0 rfl zd_PW_size_0 ?_
  refine zw_get zc_PW 0 2 rfl (by decide) zf_PW_26 rfl zd_PW_size_1 ?_
  refine zw_iload_n 1 rfl zd_PW_size_4 ?_
  refine zw_callV (As := [.int (zI (z))]) (rest := []) (L2 := [zObj h 0 [.ref ht, .ref hl, .ref hs, .ref ho, .ref hn, .int (zI (p0)), .int (zI (w0)), .int (zI (r0))], zBRow ht (t) (nt), zWL hl (ws) (nw), zIRow ho (op) (64) (64), zNumA hn]) (L' := [zTS hs (ts) (pend) (nb) (n), zObj h 0 [.ref ht, .ref hl, .ref hs, .ref ho, .ref hn, .int (zI (p0)), .int (zI (w0)), .int (zI (r0))], zBRow ht (t) (nt), zWL hl (ws) (nw), zIRow ho (op) (64) (64), zNumA hn]) (stk' := [.int (iget (tsSizes (ts)) (z))]) (c_TS_sizeOf hs (ts) (pend) (nb) (n) (z) (by omega)) [3] [0, 1, 2, 4, 5] rfl rfl rfl zcal_TS_sizeOf zl_PW_94 zin_TS_sizeOf zse_TS_sizeOf 0 rfl zRv_TS rfl (Nat.le_of_ble_eq_true rfl) (Nat.le_of_ble_eq_true rfl) (by omega) (by omega) rfl (Nat.le_of_ble_eq_true rfl) rfl rfl zd_PW_size_5 ?_
  refine zw_sub (L' := [zObj h 0 [.ref ht, .ref hl, .ref hs, .ref ho, .ref hn, .int (zI (p0)), .int (zI (w0)), .int (zI (r0))], zBRow ht (t) (nt), zWL hl (ws) (nw), zTS hs (ts) (pend) (nb) (n), zIRow ho (op) (64) (64), zNumA hn]) [1, 2, 3, 0, 4, 5] rfl rfl ?_
  refine zw_pack (at0 := zPWA h (t) (nt) (ws) (ts) (r0)) (Ls := [zObj h 0 [.ref ht, .ref hl, .ref hs, .ref ho, .ref hn, .int (zI (p0)), .int (zI (w0)), .int (zI (r0))], zBRow ht (t) (nt), zWL hl (ws) (nw), zTS hs (ts) (pend) (nb) (n), zIRow ho (op) (64) (64), zNumA hn]) (L2 := []) rfl (fun G w h => ⟨((ht, hl, hs, ho, hn), (p0, w0), (pend, nb, n, nw), op), trivial, h⟩) ?_
  exact zw_iret hR rfl rfl rfl (by omega) (by omega) zd_PW_size_8
set_option maxHeartbeats 4000000 in
set_option maxRecDepth 100000 in
theorem c_PW_at (h : Nat) (t : List Int) (nt : Nat) (ws : List (Int32 × Int32 × Int32)) (ts : List (List Int)) (r0 : Int) (z : Int) (hz : -2147483648 ≤ z ∧ z ≤ 2147483647) (v : Int) (hv : -2147483648 ≤ v ∧ v ≤ 2147483647) : zCT zy_PW_at zm_PW_at (0) (0) [.ref h, .int (zI z), .int (zI v)] [zPWA h (t) (nt) (ws) (ts) (r0)] (some (.int (zI (tsAt ts z v)))) [zPWA h (t) (nt) (ws) (ts) (r0)] := by
  refine zCT.of [(0, .ref h), (1, .int (zI (z))), (2, .int (zI (v)))] rfl (by decide) rfl (fun h => by first | rfl | cases h) (Nat.le_of_ble_eq_true rfl) (fun X hR => ?_)
  refine zw_unp (fun G ws h => h) (fun x0 hx0 => ?_)
  obtain ⟨⟨ht, hl, hs, ho, hn⟩, ⟨p0, w0⟩, ⟨pend, nb, n, nw⟩, op⟩ := x0
  simp only [List.cons_append, List.nil_append]
  refine zw_fact 1 rfl (fun G w h => zBR_fact h) (fun hbr => ?_)
  obtain ⟨⟨ht1, ht2, ht3⟩, hby⟩ := hbr
  refine zw_fact 2 rfl (fun G w h => zWL_fact h) (fun hwl => ?_)
  refine zw_fact 3 rfl (fun G w h => zTS_fact h) (fun hts => ?_)
  obtain ⟨hts1, hts2, hts3, hts4⟩ := hts
  refine zw_aload_n 0 rfl zd_PW_at_0 ?_
  refine zw_get zc_PW 0 2 rfl (by decide) zf_PW_26 rfl zd_PW_at_1 ?_
  refine zw_iload_n 1 rfl zd_PW_at_4 ?_
  refine zw_iload_n 2 rfl zd_PW_at_5 ?_
  refine zw_callV (As := [.int (zI (z)), .int (zI (v))]) (rest := []) (L2 := [zObj h 0 [.ref ht, .ref hl, .ref hs, .ref ho, .ref hn, .int (zI (p0)), .int (zI (w0)), .int (zI (r0))], zBRow ht (t) (nt), zWL hl (ws) (nw), zIRow ho (op) (64) (64), zNumA hn]) (L' := [zTS hs (ts) (pend) (nb) (n), zObj h 0 [.ref ht, .ref hl, .ref hs, .ref ho, .ref hn, .int (zI (p0)), .int (zI (w0)), .int (zI (r0))], zBRow ht (t) (nt), zWL hl (ws) (nw), zIRow ho (op) (64) (64), zNumA hn]) (stk' := [.int (zI (tsAt (ts) (z) (v)))]) (c_TS_byteOf hs (ts) (pend) (nb) (n) (z) (by omega) (v) (by omega)) [3] [0, 1, 2, 4, 5] rfl rfl rfl zcal_TS_byteOf zl_PW_97 zin_TS_byteOf zse_TS_byteOf 0 rfl zRv_TS rfl (Nat.le_of_ble_eq_true rfl) (Nat.le_of_ble_eq_true rfl) (by omega) (by omega) rfl (Nat.le_of_ble_eq_true rfl) rfl rfl zd_PW_at_6 ?_
  refine zw_sub (L' := [zObj h 0 [.ref ht, .ref hl, .ref hs, .ref ho, .ref hn, .int (zI (p0)), .int (zI (w0)), .int (zI (r0))], zBRow ht (t) (nt), zWL hl (ws) (nw), zTS hs (ts) (pend) (nb) (n), zIRow ho (op) (64) (64), zNumA hn]) [1, 2, 3, 0, 4, 5] rfl rfl ?_
  refine zw_pack (at0 := zPWA h (t) (nt) (ws) (ts) (r0)) (Ls := [zObj h 0 [.ref ht, .ref hl, .ref hs, .ref ho, .ref hn, .int (zI (p0)), .int (zI (w0)), .int (zI (r0))], zBRow ht (t) (nt), zWL hl (ws) (nw), zTS hs (ts) (pend) (nb) (n), zIRow ho (op) (64) (64), zNumA hn]) (L2 := []) rfl (fun G w h => ⟨((ht, hl, hs, ho, hn), (p0, w0), (pend, nb, n, nw), op), trivial, h⟩) ?_
  exact zw_iret hR rfl rfl rfl (by omega) (by omega) zd_PW_at_9
set_option maxHeartbeats 4000000 in
set_option maxRecDepth 100000 in
theorem c_PW_type_bad (h : Nat) (t : List Int) (nt : Nat) (ws : List (Int32 × Int32 × Int32)) (ts : List (List Int)) (r0 : Int) (b : Int64) (z : Int) (hz : -2147483648 ≤ z ∧ z ≤ 2147483647) (hb : z < 1 ∨ 8 < z) : zCT zy_PW_type zm_PW_type (0) (0) [.ref h, .long b, .int (zI z)] [zPWA h (t) (nt) (ws) (ts) (r0)] (some (.int (zI (-1)))) [zPWA h (t) (nt) (ws) (ts) (r0)] := by
  refine zCT.of [(0, .ref h), (1, .long (b)), (3, .int (zI (z)))] rfl (by decide) rfl (fun h => by first | rfl | cases h) (Nat.le_of_ble_eq_true rfl) (fun X hR => ?_)
  refine zw_unp (fun G ws h => h) (fun x0 hx0 => ?_)
  obtain ⟨⟨ht, hl, hs, ho, hn⟩, ⟨p0, w0⟩, ⟨pend, nb, n, nw⟩, op⟩ := x0
  simp only [List.cons_append, List.nil_append]
  refine zw_fact 1 rfl (fun G w h => zBR_fact h) (fun hbr => ?_)
  obtain ⟨⟨ht1, ht2, ht3⟩, hby⟩ := hbr
  refine zw_fact 2 rfl (fun G w h => zWL_fact h) (fun hwl => ?_)
  refine zw_fact 3 rfl (fun G w h => zTS_fact h) (fun hts => ?_)
  obtain ⟨hts1, hts2, hts3, hts4⟩ := hts
  refine zw_iload_n 2 rfl zd_PW_type_0 ?_
  refine zw_iconst zd_PW_type_1 ?_
  refine zw_icmp_lt 11 (by omega) (by omega) zd_PW_type_2 (by decide) (fun c2 => ?_) (fun c2 => ?_)
  · -- 2 -> 11
    refine zw_iconst zd_PW_type_11 ?_
    refine zw_pack (at0 := zPWA h (t) (nt) (ws) (ts) (r0)) (Ls := [zObj h 0 [.ref ht, .ref hl, .ref hs, .ref ho, .ref hn, .int (zI (p0)), .int (zI (w0)), .int (zI (r0))], zBRow ht (t) (nt), zWL hl (ws) (nw), zTS hs (ts) (pend) (nb) (n), zIRow ho (op) (64) (64), zNumA hn]) (L2 := []) rfl (fun G w h => ⟨((ht, hl, hs, ho, hn), (p0, w0), (pend, nb, n, nw), op), trivial, h⟩) ?_
    exact zw_iret hR rfl rfl rfl (by omega) (by omega) zd_PW_type_12
  · -- 2 -> 5
    refine zw_iload_n 2 rfl zd_PW_type_5 ?_
    refine zw_bipush rfl zd_PW_type_6 ?_
    refine zw_icmp_le 13 (by omega) (by omega) zd_PW_type_8 (by decide) (fun c8 => ?_) (fun c8 => ?_)
    · -- 8 -> 13
      exact absurd c8 (by omega)
    · -- 8 -> 11
      refine zw_iconst zd_PW_type_11 ?_
      refine zw_pack (at0 := zPWA h (t) (nt) (ws) (ts) (r0)) (Ls := [zObj h 0 [.ref ht, .ref hl, .ref hs, .ref ho, .ref hn, .int (zI (p0)), .int (zI (w0)), .int (zI (r0))], zBRow ht (t) (nt), zWL hl (ws) (nw), zTS hs (ts) (pend) (nb) (n), zIRow ho (op) (64) (64), zNumA hn]) (L2 := []) rfl (fun G w h => ⟨((ht, hl, hs, ho, hn), (p0, w0), (pend, nb, n, nw), op), trivial, h⟩) ?_
      exact zw_iret hR rfl rfl rfl (by omega) (by omega) zd_PW_type_12
set_option maxHeartbeats 4000000 in
set_option maxRecDepth 100000 in
theorem c_PW_type_ok (h : Nat) (t : List Int) (nt : Nat) (ws : List (Int32 × Int32 × Int32)) (ts : List (List Int)) (r0 : Int) (b : Int64) (z : Int) (hz : 1 ≤ z ∧ z ≤ 8) (ht4 : t.length ≤ 60000) : zCT zy_PW_type zm_PW_type (capN nt (t.length + z.toNat) - nt) (2 * (capN nt (t.length + z.toNat) - nt)) [.ref h, .long b, .int (zI z)] [zPWA h (t) (nt) (ws) (ts) (r0)] (some (.int (zI (((t.length + z.toNat : Nat) : Int))))) [zPWA h (t ++ tyS b z.toNat) (capN nt (t.length + z.toNat)) (ws) (ts) (r0)] := by
  refine zCT.of [(0, .ref h), (1, .long (b)), (3, .int (zI (z)))] rfl (by decide) rfl (fun h => by first | rfl | cases h) (Nat.le_of_ble_eq_true rfl) (fun X hR => ?_)
  refine zw_unp (fun G ws h => h) (fun x0 hx0 => ?_)
  obtain ⟨⟨ht, hl, hs, ho, hn⟩, ⟨p0, w0⟩, ⟨pend, nb, n, nw⟩, op⟩ := x0
  simp only [List.cons_append, List.nil_append]
  refine zw_fact 1 rfl (fun G w h => zBR_fact h) (fun hbr => ?_)
  obtain ⟨⟨ht1, ht2, ht3⟩, hby⟩ := hbr
  refine zw_fact 2 rfl (fun G w h => zWL_fact h) (fun hwl => ?_)
  refine zw_fact 3 rfl (fun G w h => zTS_fact h) (fun hts => ?_)
  obtain ⟨hts1, hts2, hts3, hts4⟩ := hts
  have lp : ∀ (fuel : Nat) (j : Int) (pre : List Int), (((-1 ≤ j ∧ j ≤ 7) ∧ 0 ≤ 0) ∧ pre ++ tyS b (j + 1).toNat = tyS b z.toNat) → (j + 1).toNat < fuel → zZ X zm_PW_type (capN nt (t.length + z.toNat) - nt) (2 * (capN nt (t.length + z.toNat) - nt)) (capN nt (t ++ pre).length - nt) (2 * (capN nt (t ++ pre).length - nt)) [zObj h 0 [.ref ht, .ref hl, .ref hs, .ref ho, .ref hn, .int (zI (p0)), .int (zI (w0)), .int (zI (r0))], zBRow ht (t ++ pre) (capN nt (t ++ pre).length), zWL hl (ws) (nw), zTS hs (ts) (pend) (nb) (n), zIRow ho (op) (64) (64), zNumA hn] 38 [(0, .ref h), (1, .long (b)), (3, .int (zI (z))), (4, .int (zI (8 * j)))] [] := by
    intro fuel
    induction fuel with
    | zero => intro j pre g0 hm; exact absurd hm (Nat.not_lt_zero _)
    | succ fuel ih =>
      intro j pre g0 hm
      obtain ⟨⟨g1, g2⟩, g3⟩ := g0
      have pl := congrArg List.length g3
      rw [List.length_append, tyS_len, tyS_len] at pl
      have al : (t ++ pre).length = t.length + pre.length := List.length_append
      have q1 := capN_ge nt (t ++ pre).length
      have q2 := capN_cov ht2 (t ++ pre).length
      have q4 : gcap (t ++ pre).length (capN nt (t ++ pre).length) = capN nt ((t ++ pre).length + 1) := by rw [capN_step q2, capN_capN ht2, Nat.max_eq_right (Nat.le_succ _)]
      refine zw_iload 3 rfl zd_PW_type_38 ?_
      refine zw_if_lt 61 (by omega) zd_PW_type_40 (by decide) (fun c40 => ?_) (fun c40 => ?_)
      · -- 40 -> 61
        obtain rfl : j = -1 := by omega
        have g4 : pre = tyS b z.toNat := by rw [← g3]; exact (List.append_nil _).symm
        subst g4
        have al2 : (t ++ tyS b z.toNat).length = t.length + z.toNat := by rw [List.length_append, tyS_len]
        refine zw_eqL (L' := [zObj h 0 [.ref ht, .ref hl, .ref hs, .ref ho, .ref hn, .int (zI (p0)), .int (zI (w0)), .int (zI (r0))], zBRow ht (t ++ tyS b z.toNat) (capN nt (t.length + z.toNat)), zWL hl (ws) (nw), zTS hs (ts) (pend) (nb) (n), zIRow ho (op) (64) (64), zNumA hn]) (by rw [al2]) ?_
        refine zw_widen (k' := capN nt (t.length + z.toNat) - nt) (n' := 2 * (capN nt (t.length + z.toNat) - nt)) (by rw [al2]; exact Nat.le_refl _) (by rw [al2]; exact Nat.le_refl _) ?_
        refine zw_aload_n 0 rfl zd_PW_type_61 ?_
        refine zw_get zc_PW 0 0 rfl (by decide) zf_PW_10 rfl zd_PW_type_62 ?_
        refine zw_callV (As := []) (rest := []) (L2 := [zObj h 0 [.ref ht, .ref hl, .ref hs, .ref ho, .ref hn, .int (zI (p0)), .int (zI (w0)), .int (zI (r0))], zWL hl (ws) (nw), zTS hs (ts) (pend) (nb) (n), zIRow ho (op) (64) (64), zNumA hn]) (L' := [zBRow ht (t ++ tyS b z.toNat) (capN nt (t.length + z.toNat)), zObj h 0 [.ref ht, .ref hl, .ref hs, .ref ho, .ref hn, .int (zI (p0)), .int (zI (w0)), .int (zI (r0))], zWL hl (ws) (nw), zTS hs (ts) (pend) (nb) (n), zIRow ho (op) (64) (64), zNumA hn]) (stk' := [.int (zI (((t.length + z.toNat : Nat) : Int)))]) (c_BR_count ht (t ++ tyS b z.toNat) (capN nt (t.length + z.toNat)) (t.length + z.toNat) (al2)) [1] [0, 2, 3, 4, 5] rfl rfl rfl zcal_BR_count zl_PW_56 zin_BR_count zse_BR_count 0 rfl zRv_BRow rfl (Nat.le_of_ble_eq_true rfl) (Nat.le_of_ble_eq_true rfl) (by omega) (by omega) rfl (Nat.le_of_ble_eq_true rfl) rfl rfl zd_PW_type_65 ?_
        refine zw_sub (L' := [zObj h 0 [.ref ht, .ref hl, .ref hs, .ref ho, .ref hn, .int (zI (p0)), .int (zI (w0)), .int (zI (r0))], zBRow ht (t ++ tyS b z.toNat) (capN nt (t.length + z.toNat)), zWL hl (ws) (nw), zTS hs (ts) (pend) (nb) (n), zIRow ho (op) (64) (64), zNumA hn]) [1, 0, 2, 3, 4, 5] rfl rfl ?_
        refine zw_pack (at0 := zPWA h (t ++ tyS b z.toNat) (capN nt (t.length + z.toNat)) (ws) (ts) (r0)) (Ls := [zObj h 0 [.ref ht, .ref hl, .ref hs, .ref ho, .ref hn, .int (zI (p0)), .int (zI (w0)), .int (zI (r0))], zBRow ht (t ++ tyS b z.toNat) (capN nt (t.length + z.toNat)), zWL hl (ws) (nw), zTS hs (ts) (pend) (nb) (n), zIRow ho (op) (64) (64), zNumA hn]) (L2 := []) rfl (fun G w h => ⟨((ht, hl, hs, ho, hn), (p0, w0), (pend, nb, n, nw), op), trivial, h⟩) ?_
        exact zw_iret hR rfl rfl rfl (Nat.le_refl _) (Nat.le_refl _) zd_PW_type_68
      · -- 40 -> 43
        obtain ⟨k, rfl⟩ : ∃ k : Nat, j = (k : Int) := ⟨j.toNat, by omega⟩
        have q5 := capN_mono nt (show (t ++ pre).length + 1 ≤ t.length + z.toNat by omega)
        have q6 := capN_mono nt (show (t ++ pre).length ≤ (t ++ pre).length + 1 by omega)
        refine zw_aload_n 0 rfl zd_PW_type_43 ?_
        refine zw_get zc_PW 0 0 rfl (by decide) zf_PW_10 rfl zd_PW_type_44 ?_
        refine zw_lload_n 1 rfl zd_PW_type_47 ?_
        refine zw_iload 3 rfl zd_PW_type_48 ?_
        refine zw_lushrR zd_PW_type_50 ?_
        refine zw_l2iR zd_PW_type_51 ?_
        refine zw_eqs (st' := [.int (zI ((tyX b (8 * (k : Int))).toInt)), .ref ht]) (by rw [zI_of]; rfl) ?_
        refine zw_callV (As := [.int (zI ((tyX b (8 * (k : Int))).toInt))]) (rest := []) (L2 := [zObj h 0 [.ref ht, .ref hl, .ref hs, .ref ho, .ref hn, .int (zI (p0)), .int (zI (w0)), .int (zI (r0))], zWL hl (ws) (nw), zTS hs (ts) (pend) (nb) (n), zIRow ho (op) (64) (64), zNumA hn]) (L' := [zBRow ht ((t ++ pre) ++ [((tyX b (8 * (k : Int))).toInt) % 256]) (gcap ((t ++ pre).length) (capN nt (t ++ pre).length)), zObj h 0 [.ref ht, .ref hl, .ref hs, .ref ho, .ref hn, .int (zI (p0)), .int (zI (w0)), .int (zI (r0))], zWL hl (ws) (nw), zTS hs (ts) (pend) (nb) (n), zIRow ho (op) (64) (64), zNumA hn]) (stk' := []) (c_BR_add ht (t ++ pre) (capN nt (t ++ pre).length) ((tyX b (8 * (k : Int))).toInt) ((t ++ pre).length) (rfl) (by omega)) [1] [0, 2, 3, 4, 5] rfl rfl rfl zcal_BR_add zl_PW_61 zin_BR_add zse_BR_add 0 rfl zRv_BRow rfl (Nat.le_of_ble_eq_true rfl) (Nat.le_of_ble_eq_true rfl) (by omega) (by omega) rfl (Nat.le_of_ble_eq_true rfl) rfl rfl zd_PW_type_52 ?_
        refine zw_iinc (lv' := [(4, .int (zI ((8 * (k : Int)) + (-8)))), (0, .ref h), (1, .long (b)), (3, .int (zI (z)))]) 3 rfl (Nat.le_of_ble_eq_true rfl) rfl zd_PW_type_55 ?_
        refine zw_goto 38 zd_PW_type_58 (by decide) ?_
        have e5 : (t ++ (pre ++ [(tyX b (8 * (k : Int))).toInt % 256])).length = (t ++ pre).length + 1 := by rw [← List.append_assoc, List.length_append]; rfl
        have e6 : capN nt (t ++ (pre ++ [(tyX b (8 * (k : Int))).toInt % 256])).length = capN nt ((t ++ pre).length + 1) := by rw [e5]
        refine zw_eqL (L' := [zBRow ht (t ++ (pre ++ [(tyX b (8 * (k : Int))).toInt % 256])) (capN nt (t ++ (pre ++ [(tyX b (8 * (k : Int))).toInt % 256])).length), zObj h 0 [.ref ht, .ref hl, .ref hs, .ref ho, .ref hn, .int (zI (p0)), .int (zI (w0)), .int (zI (r0))], zWL hl (ws) (nw), zTS hs (ts) (pend) (nb) (n), zIRow ho (op) (64) (64), zNumA hn]) (by rw [e5, ← q4, ← List.append_assoc]) ?_
        refine zw_eqv (lv' := [(4, .int (zI (8 * ((k : Int) - 1)))), (0, .ref h), (1, .long (b)), (3, .int (zI (z)))]) (by rw [show 8 * (k : Int) + (-8) = 8 * ((k : Int) - 1) by omega]) ?_
        refine zw_sub (L' := [zObj h 0 [.ref ht, .ref hl, .ref hs, .ref ho, .ref hn, .int (zI (p0)), .int (zI (w0)), .int (zI (r0))], zBRow ht (t ++ (pre ++ [(tyX b (8 * (k : Int))).toInt % 256])) (capN nt (t ++ (pre ++ [(tyX b (8 * (k : Int))).toInt % 256])).length), zWL hl (ws) (nw), zTS hs (ts) (pend) (nb) (n), zIRow ho (op) (64) (64), zNumA hn]) [1, 0, 2, 3, 4, 5] rfl rfl ?_
        refine zw_lpick (lv' := [(0, .ref h), (1, .long (b)), (3, .int (zI (z))), (4, .int (zI (8 * ((k : Int) - 1))))]) [1, 2, 3, 0] rfl ?_
        refine zw_widen (k' := capN nt (t ++ (pre ++ [(tyX b (8 * (k : Int))).toInt % 256])).length - nt) (n' := 2 * (capN nt (t ++ (pre ++ [(tyX b (8 * (k : Int))).toInt % 256])).length - nt)) (by omega) (by omega) ?_
        exact ih ((k : Int) - 1) (pre ++ [(tyX b (8 * (k : Int))).toInt % 256]) ⟨by omega, by rw [show ((k : Int) - 1 + 1).toNat = k by omega, List.append_assoc, ← g3, show ((k : Int) + 1).toNat = k + 1 by omega]; rfl⟩ (by omega)
  refine zw_iload_n 2 rfl zd_PW_type_0 ?_
  refine zw_iconst zd_PW_type_1 ?_
  refine zw_icmp_lt 11 (by omega) (by omega) zd_PW_type_2 (by decide) (fun c2 => ?_) (fun c2 => ?_)
  · -- 2 -> 11
    exfalso; omega
  · -- 2 -> 5
    refine zw_iload_n 2 rfl zd_PW_type_5 ?_
    refine zw_bipush rfl zd_PW_type_6 ?_
    refine zw_icmp_le 13 (by omega) (by omega) zd_PW_type_8 (by decide) (fun c8 => ?_) (fun c8 => ?_)
    · -- 8 -> 13
      refine zw_aload_n 0 rfl zd_PW_type_13 ?_
      refine zw_get zc_PW 0 0 rfl (by decide) zf_PW_10 rfl zd_PW_type_14 ?_
      refine zw_callV (As := []) (rest := []) (L2 := [zObj h 0 [.ref ht, .ref hl, .ref hs, .ref ho, .ref hn, .int (zI (p0)), .int (zI (w0)), .int (zI (r0))], zWL hl (ws) (nw), zTS hs (ts) (pend) (nb) (n), zIRow ho (op) (64) (64), zNumA hn]) (L' := [zBRow ht (t) (nt), zObj h 0 [.ref ht, .ref hl, .ref hs, .ref ho, .ref hn, .int (zI (p0)), .int (zI (w0)), .int (zI (r0))], zWL hl (ws) (nw), zTS hs (ts) (pend) (nb) (n), zIRow ho (op) (64) (64), zNumA hn]) (stk' := [.int (zI ((((t).length : Nat) : Int)))]) (c_BR_count ht (t) (nt) ((t).length) (rfl)) [1] [0, 2, 3, 4, 5] rfl rfl rfl zcal_BR_count zl_PW_56 zin_BR_count zse_BR_count 0 rfl zRv_BRow rfl (Nat.le_of_ble_eq_true rfl) (Nat.le_of_ble_eq_true rfl) (by omega) (by omega) rfl (Nat.le_of_ble_eq_true rfl) rfl rfl zd_PW_type_17 ?_
      refine zw_iload_n 2 rfl zd_PW_type_20 ?_
      refine zw_iadd zd_PW_type_21 ?_
      refine zw_ldc zk_PW_60 65536 rfl zd_PW_type_22 ?_
      refine zw_icmp_le 30 (by omega) (by omega) zd_PW_type_24 (by decide) (fun c24 => ?_) (fun c24 => ?_)
      · -- 24 -> 30
        refine zw_bipush rfl zd_PW_type_30 ?_
        refine zw_iload_n 2 rfl zd_PW_type_32 ?_
        refine zw_iconst zd_PW_type_33 ?_
        refine zw_isub zd_PW_type_34 ?_
        refine zw_imul zd_PW_type_35 ?_
        refine zw_istore (lv' := [(4, .int (zI (8 * (z - 1)))), (0, .ref h), (1, .long (b)), (3, .int (zI (z)))]) (Nat.le_of_ble_eq_true rfl) rfl zd_PW_type_36 ?_
        refine zw_eqL (L' := [zBRow ht (t ++ []) (capN nt (t ++ ([] : List Int)).length), zObj h 0 [.ref ht, .ref hl, .ref hs, .ref ho, .ref hn, .int (zI (p0)), .int (zI (w0)), .int (zI (r0))], zWL hl (ws) (nw), zTS hs (ts) (pend) (nb) (n), zIRow ho (op) (64) (64), zNumA hn]) (by rw [List.append_nil, capN_id ht1]) ?_
        refine zw_sub (L' := [zObj h 0 [.ref ht, .ref hl, .ref hs, .ref ho, .ref hn, .int (zI (p0)), .int (zI (w0)), .int (zI (r0))], zBRow ht (t ++ []) (capN nt (t ++ ([] : List Int)).length), zWL hl (ws) (nw), zTS hs (ts) (pend) (nb) (n), zIRow ho (op) (64) (64), zNumA hn]) [1, 0, 2, 3, 4, 5] rfl rfl ?_
        refine zw_lpick (lv' := [(0, .ref h), (1, .long (b)), (3, .int (zI (z))), (4, .int (zI (8 * (z - 1))))]) [1, 2, 3, 0] rfl ?_
        refine zw_widen (k' := capN nt (t ++ ([] : List Int)).length - nt) (n' := 2 * (capN nt (t ++ ([] : List Int)).length - nt)) (by omega) (by omega) ?_
        exact lp _ (z - 1) [] ⟨by omega, by rw [show z - 1 + 1 = z by omega]; rfl⟩ (Nat.lt_succ_self _)
      · -- 24 -> 27
        exfalso; omega
    · -- 8 -> 11
      exfalso; omega
set_option maxHeartbeats 4000000 in
set_option maxRecDepth 100000 in
theorem c_PW_new (h : Nat) : zCT zy_PW_new zm_PW_new (25) (2766) [.ref h] [zObj h 0 [.null, .null, .null, .null, .null, .int (zI (0)), .int (zI (0)), .int (zI (0))]] (none) [zPWA h ([]) (512) ([]) ([]) (0)] := by
  refine zCT.of [(0, .ref h)] rfl (by decide) rfl (fun h => by first | rfl | cases h) (Nat.le_of_ble_eq_true rfl) (fun X hR => ?_)
  refine zw_aload_n 0 rfl zd_PW_new_0 ?_
  refine zw_objInit zl_PW_1 zoi_1 zoi_2 (Nat.le_of_ble_eq_true rfl) (Nat.le_of_ble_eq_true rfl) zd_PW_new_1 ?_
  refine zw_aload_n 0 rfl zd_PW_new_4 ?_
  refine zw_new [.null, .int (zI (0))] zc_BR zn_PW_7 zins_BR zini_BR zz_BR (by omega) (by omega) zd_PW_new_5 (fun q5 => ?_)
  simp only [List.cons_append, List.nil_append]
  refine zw_dup rfl zd_PW_new_8 ?_
  refine zw_callI (As := []) (rest := [.ref q5, .ref h]) (L2 := [zObj h 0 [.null, .null, .null, .null, .null, .int (zI (0)), .int (zI (0)), .int (zI (0))]]) (L' := [zBRow q5 ([]) (512), zObj h 0 [.null, .null, .null, .null, .null, .int (zI (0)), .int (zI (0)), .int (zI (0))]]) (stk' := [.ref q5, .ref h]) (c_BR_new q5) [1] [0] rfl rfl rfl zcal_BR_new zl_PW_9 zin_BR_new rfl (Nat.le_of_ble_eq_true rfl) (Nat.le_of_ble_eq_true rfl) (by omega) (by omega) rfl (Nat.le_of_ble_eq_true rfl) rfl rfl zd_PW_new_9 ?_
  refine zw_putF (L' := [zBRow q5 ([]) (512), zObj h 0 [.ref q5, .null, .null, .null, .null, .int (zI (0)), .int (zI (0)), .int (zI (0))]]) zc_PW 1 0 rfl (by decide) zf_PW_10 rfl rfl rfl rfl rfl (Nat.le_of_ble_eq_true rfl) rfl zd_PW_new_12 ?_
  refine zw_aload_n 0 rfl zd_PW_new_15 ?_
  refine zw_new [.null, .null, .null] zc_WL zn_PW_16 zins_WL zini_WL zz_WL (by omega) (by omega) zd_PW_new_16 (fun q16 => ?_)
  simp only [List.cons_append, List.nil_append]
  refine zw_dup rfl zd_PW_new_19 ?_
  refine zw_callI (As := []) (rest := [.ref q16, .ref h]) (L2 := [zBRow q5 ([]) (512), zObj h 0 [.ref q5, .null, .null, .null, .null, .int (zI (0)), .int (zI (0)), .int (zI (0))]]) (L' := [zWL q16 ([]) (64), zBRow q5 ([]) (512), zObj h 0 [.ref q5, .null, .null, .null, .null, .int (zI (0)), .int (zI (0)), .int (zI (0))]]) (stk' := [.ref q16, .ref h]) (c_WL_new q16) [2] [0, 1] rfl rfl rfl zcal_WL_new zl_PW_18 zin_WL_new rfl (Nat.le_of_ble_eq_true rfl) (Nat.le_of_ble_eq_true rfl) (by omega) (by omega) rfl (Nat.le_of_ble_eq_true rfl) rfl rfl zd_PW_new_20 ?_
  refine zw_putF (L' := [zWL q16 ([]) (64), zBRow q5 ([]) (512), zObj h 0 [.ref q5, .ref q16, .null, .null, .null, .int (zI (0)), .int (zI (0)), .int (zI (0))]]) zc_PW 2 1 rfl (by decide) zf_PW_19 rfl rfl rfl rfl rfl (Nat.le_of_ble_eq_true rfl) rfl zd_PW_new_23 ?_
  refine zw_aload_n 0 rfl zd_PW_new_26 ?_
  refine zw_new [.null, .null, .null, .null, .null, .null, .int (zI (0))] zc_TS zn_PW_23 zins_TS zini_TS zz_TS (by omega) (by omega) zd_PW_new_27 (fun q27 => ?_)
  simp only [List.cons_append, List.nil_append]
  refine zw_dup rfl zd_PW_new_30 ?_
  refine zw_callI (As := []) (rest := [.ref q27, .ref h]) (L2 := [zWL q16 ([]) (64), zBRow q5 ([]) (512), zObj h 0 [.ref q5, .ref q16, .null, .null, .null, .int (zI (0)), .int (zI (0)), .int (zI (0))]]) (L' := [zTS q27 ([]) ([]) (512) (64), zWL q16 ([]) (64), zBRow q5 ([]) (512), zObj h 0 [.ref q5, .ref q16, .null, .null, .null, .int (zI (0)), .int (zI (0)), .int (zI (0))]]) (stk' := [.ref q27, .ref h]) (c_TS_new q27) [3] [0, 1, 2] rfl rfl rfl zcal_TS_new zl_PW_25 zin_TS_new rfl (Nat.le_of_ble_eq_true rfl) (Nat.le_of_ble_eq_true rfl) (by omega) (by omega) rfl (Nat.le_of_ble_eq_true rfl) rfl rfl zd_PW_new_31 ?_
  refine zw_putF (L' := [zTS q27 ([]) ([]) (512) (64), zWL q16 ([]) (64), zBRow q5 ([]) (512), zObj h 0 [.ref q5, .ref q16, .ref q27, .null, .null, .int (zI (0)), .int (zI (0)), .int (zI (0))]]) zc_PW 3 2 rfl (by decide) zf_PW_26 rfl rfl rfl rfl rfl (Nat.le_of_ble_eq_true rfl) rfl zd_PW_new_34 ?_
  refine zw_aload_n 0 rfl zd_PW_new_37 ?_
  refine zw_new [.int (zI (0)), .null, .int (zI (0))] zc_IR zn_PW_30 zins_IR zini_IR zz_IR (by omega) (by omega) zd_PW_new_38 (fun q38 => ?_)
  simp only [List.cons_append, List.nil_append]
  refine zw_dup rfl zd_PW_new_41 ?_
  refine zw_bipush rfl zd_PW_new_42 ?_
  refine zw_callI (As := [.int (zI (64))]) (rest := [.ref q38, .ref h]) (L2 := [zTS q27 ([]) ([]) (512) (64), zWL q16 ([]) (64), zBRow q5 ([]) (512), zObj h 0 [.ref q5, .ref q16, .ref q27, .null, .null, .int (zI (0)), .int (zI (0)), .int (zI (0))]]) (L' := [zIRow q38 ([]) (64) (64), zTS q27 ([]) ([]) (512) (64), zWL q16 ([]) (64), zBRow q5 ([]) (512), zObj h 0 [.ref q5, .ref q16, .ref q27, .null, .null, .int (zI (0)), .int (zI (0)), .int (zI (0))]]) (stk' := [.ref q38, .ref h]) (c_IR_new q38 64) [4] [0, 1, 2, 3] rfl rfl rfl zcal_IR_new zl_PW_32 zin_IR_new rfl (Nat.le_of_ble_eq_true rfl) (Nat.le_of_ble_eq_true rfl) (by omega) (by omega) rfl (Nat.le_of_ble_eq_true rfl) rfl rfl zd_PW_new_44 ?_
  refine zw_putF (L' := [zIRow q38 ([]) (64) (64), zTS q27 ([]) ([]) (512) (64), zWL q16 ([]) (64), zBRow q5 ([]) (512), zObj h 0 [.ref q5, .ref q16, .ref q27, .ref q38, .null, .int (zI (0)), .int (zI (0)), .int (zI (0))]]) zc_PW 4 3 rfl (by decide) zf_PW_35 rfl rfl rfl rfl rfl (Nat.le_of_ble_eq_true rfl) rfl zd_PW_new_47 ?_
  refine zw_aload_n 0 rfl zd_PW_new_50 ?_
  refine zw_new [.null, .int (zI (0)), .int (zI (0)), .int (zI (0)), .int (zI (0)), .int (zI (0)), .int (zI (0)), .int (zI (0))] zc_NU zn_PW_39 zins_NU zini_NU zz_NU (by omega) (by omega) zd_PW_new_51 (fun q51 => ?_)
  simp only [List.cons_append, List.nil_append]
  refine zw_dup rfl zd_PW_new_54 ?_
  refine zw_callI (As := []) (rest := [.ref q51, .ref h]) (L2 := [zIRow q38 ([]) (64) (64), zTS q27 ([]) ([]) (512) (64), zWL q16 ([]) (64), zBRow q5 ([]) (512), zObj h 0 [.ref q5, .ref q16, .ref q27, .ref q38, .null, .int (zI (0)), .int (zI (0)), .int (zI (0))]]) (L' := [zNum q51 (zI 0) (0), zIRow q38 ([]) (64) (64), zTS q27 ([]) ([]) (512) (64), zWL q16 ([]) (64), zBRow q5 ([]) (512), zObj h 0 [.ref q5, .ref q16, .ref q27, .ref q38, .null, .int (zI (0)), .int (zI (0)), .int (zI (0))]]) (stk' := [.ref q51, .ref h]) (c_NU_new q51) [5] [0, 1, 2, 3, 4] rfl rfl rfl zcal_NU_new zl_PW_41 zin_NU_new rfl (Nat.le_of_ble_eq_true rfl) (Nat.le_of_ble_eq_true rfl) (by omega) (by omega) rfl (Nat.le_of_ble_eq_true rfl) rfl rfl zd_PW_new_55 ?_
  refine zw_putF (L' := [zNum q51 (zI 0) (0), zIRow q38 ([]) (64) (64), zTS q27 ([]) ([]) (512) (64), zWL q16 ([]) (64), zBRow q5 ([]) (512), zObj h 0 [.ref q5, .ref q16, .ref q27, .ref q38, .ref q51, .int (zI (0)), .int (zI (0)), .int (zI (0))]]) zc_PW 5 4 rfl (by decide) zf_PW_42 rfl rfl rfl rfl rfl (Nat.le_of_ble_eq_true rfl) rfl zd_PW_new_58 ?_
  refine zw_aload_n 0 rfl zd_PW_new_61 ?_
  refine zw_iconst zd_PW_new_62 ?_
  refine zw_put (L' := [zNum q51 (zI 0) (0), zIRow q38 ([]) (64) (64), zTS q27 ([]) ([]) (512) (64), zWL q16 ([]) (64), zBRow q5 ([]) (512), zObj h 0 [.ref q5, .ref q16, .ref q27, .ref q38, .ref q51, .int (zI (0)), .int (zI (0)), .int (zI (0))]]) zc_PW 5 5 rfl (by decide) zf_PW_46 rfl rfl rfl (Nat.le_of_ble_eq_true rfl) rfl zd_PW_new_63 ?_
  refine zw_aload_n 0 rfl zd_PW_new_66 ?_
  refine zw_iconst zd_PW_new_67 ?_
  refine zw_put (L' := [zNum q51 (zI 0) (0), zIRow q38 ([]) (64) (64), zTS q27 ([]) ([]) (512) (64), zWL q16 ([]) (64), zBRow q5 ([]) (512), zObj h 0 [.ref q5, .ref q16, .ref q27, .ref q38, .ref q51, .int (zI (0)), .int (zI (0)), .int (zI (0))]]) zc_PW 5 6 rfl (by decide) zf_PW_50 rfl rfl rfl (Nat.le_of_ble_eq_true rfl) rfl zd_PW_new_68 ?_
  refine zw_aload_n 0 rfl zd_PW_new_71 ?_
  refine zw_iconst zd_PW_new_72 ?_
  refine zw_put (L' := [zNum q51 (zI 0) (0), zIRow q38 ([]) (64) (64), zTS q27 ([]) ([]) (512) (64), zWL q16 ([]) (64), zBRow q5 ([]) (512), zObj h 0 [.ref q5, .ref q16, .ref q27, .ref q38, .ref q51, .int (zI (0)), .int (zI (0)), .int (zI (0))]]) zc_PW 5 7 rfl (by decide) zf_PW_53 rfl rfl rfl (Nat.le_of_ble_eq_true rfl) rfl zd_PW_new_73 ?_
  refine zw_sub (L' := [zNum q51 (zI 0) (0), zObj h 0 [.ref q5, .ref q16, .ref q27, .ref q38, .ref q51, .int (zI (0)), .int (zI (0)), .int (zI (0))], zBRow q5 ([]) (512), zWL q16 ([]) (64), zTS q27 ([]) ([]) (512) (64), zIRow q38 ([]) (64) (64)]) [0, 5, 4, 3, 2, 1] rfl rfl ?_
  refine zw_pack (at0 := zNumA q51) (Ls := [zNum q51 (zI 0) (0)]) (L2 := [zObj h 0 [.ref q5, .ref q16, .ref q27, .ref q38, .ref q51, .int (zI (0)), .int (zI (0)), .int (zI (0))], zBRow q5 ([]) (512), zWL q16 ([]) (64), zTS q27 ([]) ([]) (512) (64), zIRow q38 ([]) (64) (64)]) rfl (fun G w h => ⟨(zI 0, 0), trivial, h⟩) ?_
  refine zw_sub (L' := [zObj h 0 [.ref q5, .ref q16, .ref q27, .ref q38, .ref q51, .int (zI (0)), .int (zI (0)), .int (zI (0))], zBRow q5 ([]) (512), zWL q16 ([]) (64), zTS q27 ([]) ([]) (512) (64), zIRow q38 ([]) (64) (64), zNumA q51]) [1, 2, 3, 4, 5, 0] rfl rfl ?_
  refine zw_pack (at0 := zPWA h [] 512 [] [] 0) (Ls := [zObj h 0 [.ref q5, .ref q16, .ref q27, .ref q38, .ref q51, .int (zI (0)), .int (zI (0)), .int (zI (0))], zBRow q5 ([]) (512), zWL q16 ([]) (64), zTS q27 ([]) ([]) (512) (64), zIRow q38 ([]) (64) (64), zNumA q51]) (L2 := []) rfl (fun G w h => ⟨((q5, q16, q27, q38, q51), (0, 0), ([], 512, 64, 64), []), trivial, h⟩) ?_
  exact zw_vret hR rfl rfl rfl (by omega) (by omega) zd_PW_new_76
