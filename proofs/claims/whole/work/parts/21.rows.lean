set_option maxHeartbeats 4000000 in
set_option maxRecDepth 100000 in
theorem c_BR_count (h : Nat) (l : List Int) (n : Nat) (c : Nat) (hc : l.length = c) : zCT zy_BR_count zm_BR_count (0) (0) [.ref h] [zBRow h (l) (n)] (some (.int (zI ((c : Nat) : Int)))) [zBRow h (l) (n)] := by
  refine zCT.of [(0, .ref h)] rfl (by decide) rfl (fun h => by first | rfl | cases h) (Nat.le_of_ble_eq_true rfl) (fun X hR => ?_)
  refine zw_unp (fun G ws h => h) (fun x0 hx0 => ?_)
  obtain ⟨a, f⟩ := x0
  obtain ⟨h1, h2, h3, h5, h6, h4⟩ := hx0
  dsimp only at h4 h6
  simp only [List.cons_append, List.nil_append]
  refine zw_aload_n 0 rfl zd_BR_count_0 ?_
  refine zw_get zc_BR 0 1 rfl (by decide) zf_BR_15 rfl zd_BR_count_1 ?_
  refine zw_pack (at0 := zBRow h (l) (n)) (Ls := [zObj h 1 [.ref a, .int (zI (((l.length : Nat) : Int)))], zArB a (n) (f)]) (L2 := []) rfl (fun G ws h => ⟨(a, f), ⟨h1, h2, h3, h5, h6, h4⟩, h⟩) ?_
  exact zw_iret hR (by rw [hc]) rfl rfl (by omega) (by omega) zd_BR_count_4
set_option maxHeartbeats 4000000 in
set_option maxRecDepth 100000 in
theorem c_BR_get (h : Nat) (l : List Int) (n : Nat) (z : Int) (hz : -2147483648 ≤ z ∧ z ≤ 2147483647) : zCT zy_BR_get zm_BR_get (0) (0) [.ref h, .int (zI z)] [zBRow h (l) (n)] (some (.int (zI (bget l z)))) [zBRow h (l) (n)] := by
  refine zCT.of [(0, .ref h), (1, .int (zI (z)))] rfl (by decide) rfl (fun h => by first | rfl | cases h) (Nat.le_of_ble_eq_true rfl) (fun X hR => ?_)
  refine zw_unp (fun G ws h => h) (fun x0 hx0 => ?_)
  obtain ⟨a, f⟩ := x0
  obtain ⟨h1, h2, h3, h5, h6, h4⟩ := hx0
  dsimp only at h4 h6
  simp only [List.cons_append, List.nil_append]
  refine zw_iload_n 1 rfl zd_BR_get_0 ?_
  refine zw_if_lt 25 (by omega) zd_BR_get_1 (by decide) (fun c1 => ?_) (fun c1 => ?_)
  · -- 1 -> 25
    refine zw_iconst zd_BR_get_25 ?_
    refine zw_pack (at0 := zBRow h (l) (n)) (Ls := [zObj h 1 [.ref a, .int (zI (((l.length : Nat) : Int)))], zArB a (n) (f)]) (L2 := []) rfl (fun G ws h => ⟨(a, f), ⟨h1, h2, h3, h5, h6, h4⟩, h⟩) ?_
    exact zw_iret hR (by rw [bget, if_neg (by omega)]) rfl rfl (by omega) (by omega) zd_BR_get_26
  · -- 1 -> 4
    refine zw_iload_n 1 rfl zd_BR_get_4 ?_
    refine zw_aload_n 0 rfl zd_BR_get_5 ?_
    refine zw_get zc_BR 0 1 rfl (by decide) zf_BR_15 rfl zd_BR_get_6 ?_
    refine zw_icmp_ge 25 (by omega) (by omega) zd_BR_get_9 (by decide) (fun c9 => ?_) (fun c9 => ?_)
    · -- 9 -> 25
      refine zw_iconst zd_BR_get_25 ?_
      refine zw_pack (at0 := zBRow h (l) (n)) (Ls := [zObj h 1 [.ref a, .int (zI (((l.length : Nat) : Int)))], zArB a (n) (f)]) (L2 := []) rfl (fun G ws h => ⟨(a, f), ⟨h1, h2, h3, h5, h6, h4⟩, h⟩) ?_
      exact zw_iret hR (by rw [bget, if_neg (by omega)]) rfl rfl (by omega) (by omega) zd_BR_get_26
    · -- 9 -> 12
      refine zw_aload_n 0 rfl zd_BR_get_12 ?_
      refine zw_get zc_BR 0 0 rfl (by decide) zf_BR_11 rfl zd_BR_get_13 ?_
      refine zw_iload_n 1 rfl zd_BR_get_16 ?_
      refine zw_aldB 1 rfl (by omega) (by omega) zd_BR_get_17 ?_
      refine zw_sipush rfl zd_BR_get_18 ?_
      refine zw_iandR zd_BR_get_21 ?_
      refine zw_goto 26 zd_BR_get_22 (by decide) ?_
      refine zw_pack (at0 := zBRow h (l) (n)) (Ls := [zObj h 1 [.ref a, .int (zI (((l.length : Nat) : Int)))], zArB a (n) (f)]) (L2 := []) rfl (fun G ws h => ⟨(a, f), ⟨h1, h2, h3, h5, h6, h4⟩, h⟩) ?_
      exact zw_iret hR (by rw [bget, if_pos (by omega), h4 _ (by omega), zI_byte' (h5 _ (zmem_getD (by omega)))]) rfl rfl (by omega) (by omega) zd_BR_get_26
set_option maxHeartbeats 4000000 in
set_option maxRecDepth 100000 in
theorem c_BR_shorten (h : Nat) (l : List Int) (n : Nat) (z : Int) (hz : -2147483648 ≤ z ∧ z ≤ 2147483647) : zCT zy_BR_shorten zm_BR_shorten (0) (0) [.ref h, .int (zI z)] [zBRow h (l) (n)] (none) [zBRow h (rshort l z) (n)] := by
  refine zCT.of [(0, .ref h), (1, .int (zI (z)))] rfl (by decide) rfl (fun h => by first | rfl | cases h) (Nat.le_of_ble_eq_true rfl) (fun X hR => ?_)
  refine zw_unp (fun G ws h => h) (fun x0 hx0 => ?_)
  obtain ⟨a, f⟩ := x0
  obtain ⟨h1, h2, h3, h5, h6, h4⟩ := hx0
  dsimp only at h4 h6
  simp only [List.cons_append, List.nil_append]
  refine zw_iload_n 1 rfl zd_BR_shorten_0 ?_
  refine zw_if_lt 17 (by omega) zd_BR_shorten_1 (by decide) (fun c1 => ?_) (fun c1 => ?_)
  · -- 1 -> 17
    refine zw_pack (at0 := zBRow h (l) (n)) (Ls := [zObj h 1 [.ref a, .int (zI (((l.length : Nat) : Int)))], zArB a (n) (f)]) (L2 := []) rfl (fun G ws h => ⟨(a, f), ⟨h1, h2, h3, h5, h6, h4⟩, h⟩) ?_
    exact zw_vret hR rfl (by rw [rshort, if_neg (by omega)]) rfl (by omega) (by omega) zd_BR_shorten_17
  · -- 1 -> 4
    refine zw_iload_n 1 rfl zd_BR_shorten_4 ?_
    refine zw_aload_n 0 rfl zd_BR_shorten_5 ?_
    refine zw_get zc_BR 0 1 rfl (by decide) zf_BR_15 rfl zd_BR_shorten_6 ?_
    refine zw_icmp_ge 17 (by omega) (by omega) zd_BR_shorten_9 (by decide) (fun c9 => ?_) (fun c9 => ?_)
    · -- 9 -> 17
      refine zw_pack (at0 := zBRow h (l) (n)) (Ls := [zObj h 1 [.ref a, .int (zI (((l.length : Nat) : Int)))], zArB a (n) (f)]) (L2 := []) rfl (fun G ws h => ⟨(a, f), ⟨h1, h2, h3, h5, h6, h4⟩, h⟩) ?_
      exact zw_vret hR rfl (by rw [rshort, if_neg (by omega)]) rfl (by omega) (by omega) zd_BR_shorten_17
    · -- 9 -> 12
      refine zw_aload_n 0 rfl zd_BR_shorten_12 ?_
      refine zw_iload_n 1 rfl zd_BR_shorten_13 ?_
      refine zw_put (L' := [zObj h 1 [.ref a, .int (zI (z))], zArB a (n) (f)]) zc_BR 0 1 rfl (by decide) zf_BR_15 rfl rfl rfl (Nat.le_of_ble_eq_true rfl) rfl zd_BR_shorten_14 ?_
      have e9 : z = (((l.take z.toNat).length : Nat) : Int) := by rw [List.length_take]; omega
      refine zw_sub (L' := [zObj h 1 [.ref a, .int (zI ((((l.take z.toNat).length : Nat) : Int)))], zArB a (n) (f)]) [0, 1] rfl (by rw [← e9]; rfl) ?_
      refine zw_pack (at0 := zBRow h (l.take z.toNat) (n)) (Ls := [zObj h 1 [.ref a, .int (zI ((((l.take z.toNat).length : Nat) : Int)))], zArB a (n) (f)]) (L2 := []) rfl (fun G ws h => ⟨(a, f), ⟨by rw [List.length_take]; omega, h2, h3, fun b hb => h5 b (List.mem_of_mem_take hb), h6, fun j hj => by rw [List.length_take] at hj; show f j = _; rw [h4 j (by omega), zgD_take (by omega)]⟩, h⟩) ?_
      exact zw_vret hR rfl (by rw [rshort, if_pos (by omega)]) rfl (by omega) (by omega) zd_BR_shorten_17
set_option maxHeartbeats 4000000 in
set_option maxRecDepth 100000 in
theorem c_BR_add (h : Nat) (l : List Int) (n : Nat) (z : Int) (c : Nat) (hc : l.length = c) (hl : c < 65536) : zCT zy_BR_add zm_BR_add (gcap c n - n) (2 * (gcap c n - n)) [.ref h, .int (zI z)] [zBRow h (l) (n)] (none) [zBRow h (l ++ [z % 256]) (gcap c n)] := by
  refine zCT.of [(0, .ref h), (1, .int (zI (z)))] rfl (by decide) rfl (fun h => by first | rfl | cases h) (Nat.le_of_ble_eq_true rfl) (fun X hR => ?_)
  refine zw_unp (fun G ws h => h) (fun x0 hx0 => ?_)
  obtain ⟨a, f⟩ := x0
  obtain ⟨h1, h2, h3, h5, h6, h4⟩ := hx0
  dsimp only at h4 h6
  simp only [List.cons_append, List.nil_append]
  subst hc
  have hg := gcap_ge l.length n
  refine zw_aload_n 0 rfl zd_BR_add_0 ?_
  refine zw_get zc_BR 0 1 rfl (by decide) zf_BR_15 rfl zd_BR_add_1 ?_
  refine zw_ldc zk_BR_19 65536 rfl zd_BR_add_4 ?_
  refine zw_icmp_lt 10 (by omega) (by omega) zd_BR_add_6 (by decide) (fun c6 => ?_) (fun c6 => ?_)
  · -- 6 -> 10
    refine zw_aload_n 0 rfl zd_BR_add_10 ?_
    refine zw_get zc_BR 0 1 rfl (by decide) zf_BR_15 rfl zd_BR_add_11 ?_
    refine zw_aload_n 0 rfl zd_BR_add_14 ?_
    refine zw_get zc_BR 0 0 rfl (by decide) zf_BR_11 rfl zd_BR_add_15 ?_
    refine zw_alenB 1 rfl zd_BR_add_18 ?_
    refine zw_icmp_lt 40 (by omega) (by omega) zd_BR_add_19 (by decide) (fun c19 => ?_) (fun c19 => ?_)
    · -- 19 -> 40
      refine zw_aload_n 0 rfl zd_BR_add_40 ?_
      refine zw_get zc_BR 0 0 rfl (by decide) zf_BR_11 rfl zd_BR_add_41 ?_
      refine zw_aload_n 0 rfl zd_BR_add_44 ?_
      refine zw_get zc_BR 0 1 rfl (by decide) zf_BR_15 rfl zd_BR_add_45 ?_
      refine zw_iload_n 1 rfl zd_BR_add_48 ?_
      refine zw_i2bR zd_BR_add_49 ?_
      refine zw_astB (L' := [zObj h 1 [.ref a, .int (zI (((l.length : Nat) : Int)))], zArB a (n) (upd f (((l.length : Nat) : Int)).toNat (vp_nar .byte ((zI (z)).toInt8.toInt32)))]) 1 rfl (by omega) (by omega) rfl zd_BR_add_50 ?_
      refine zw_aload_n 0 rfl zd_BR_add_51 ?_
      refine zw_dup rfl zd_BR_add_52 ?_
      refine zw_get zc_BR 0 1 rfl (by decide) zf_BR_15 rfl zd_BR_add_53 ?_
      refine zw_iconst zd_BR_add_56 ?_
      refine zw_iadd zd_BR_add_57 ?_
      refine zw_put (L' := [zObj h 1 [.ref a, .int (zI ((((l.length : Nat) : Int)) + 1))], zArB a (n) (upd f (((l.length : Nat) : Int)).toNat (vp_nar .byte ((zI (z)).toInt8.toInt32)))]) zc_BR 0 1 rfl (by decide) zf_BR_15 rfl rfl rfl (Nat.le_of_ble_eq_true rfl) rfl zd_BR_add_58 ?_
      have e8 : ((l.length : Nat) : Int) + 1 = (((l ++ [z % 256]).length : Nat) : Int) := by simp
      have e7 : gcap l.length n = n := by unfold gcap; split <;> omega
      refine zw_sub (L' := [zObj h 1 [.ref a, .int (zI ((((l ++ [z % 256]).length : Nat) : Int)))], zArB a (gcap l.length n) (upd f (((l.length : Nat) : Int)).toNat (vp_nar .byte ((zI (z)).toInt8.toInt32)))]) [0, 1] rfl (by rw [e7, ← e8]; rfl) ?_
      refine zw_pack (at0 := zBRow h (l ++ [z % 256]) (gcap l.length n)) (Ls := [zObj h 1 [.ref a, .int (zI ((((l ++ [z % 256]).length : Nat) : Int)))], zArB a (gcap l.length n) (upd f (((l.length : Nat) : Int)).toNat (vp_nar .byte ((zI (z)).toInt8.toInt32)))]) (L2 := []) rfl (fun G ws h => ⟨(a, upd f (((l.length : Nat) : Int)).toNat (vp_nar .byte ((zI (z)).toInt8.toInt32))), ?_, h⟩) ?_
      · refine ⟨by rw [List.length_append, List.length_singleton]; have := gcap_gt h1 h2; omega, by omega, by omega, zbytes_snoc h5 (by omega), ?_, ?_⟩
        · intro j
          exact zfit_upd h6 j
        · exact zrow_sncB h4
      exact zw_vret hR rfl rfl rfl (by omega) (by omega) zd_BR_add_61
    · -- 19 -> 22
      have e6 : gcap l.length n = 2 * n := by unfold gcap; split <;> omega
      refine zw_aload_n 0 rfl zd_BR_add_22 ?_
      refine zw_aload_n 0 rfl zd_BR_add_23 ?_
      refine zw_get zc_BR 0 0 rfl (by decide) zf_BR_11 rfl zd_BR_add_24 ?_
      refine zw_iconst zd_BR_add_27 ?_
      refine zw_aload_n 0 rfl zd_BR_add_28 ?_
      refine zw_get zc_BR 0 0 rfl (by decide) zf_BR_11 rfl zd_BR_add_29 ?_
      refine zw_alenB 1 rfl zd_BR_add_32 ?_
      refine zw_imul zd_BR_add_33 ?_
      refine zw_callSr (As := [.ref a, .int (zI (2 * (((n : Nat) : Int))))]) (rest := [.ref h]) (L2 := [zObj h 1 [.ref a, .int (zI (((l.length : Nat) : Int)))]]) (c_AR_copyOfB a n f (2 * n) (2 * (((n : Nat) : Int))) h6 (by omega) (by omega) (by omega)) [1] [0] rfl rfl rfl zcal_AR_copyOfB zl_BR_20 zst_AR_copyOfB (Nat.le_of_ble_eq_true rfl) (Nat.le_of_ble_eq_true rfl) (by omega) (by omega) rfl (Nat.le_of_ble_eq_true rfl) zd_BR_add_34 (fun q34 => ?_)
      simp only [List.cons_append, List.nil_append]
      refine zw_put (L' := [zArB a (n) (f), zArB q34 (2 * n) (va_cpy f (fun _ => 0) 0 0 (min n (2 * n))), zObj h 1 [.ref q34, .int (zI (((l.length : Nat) : Int)))]]) zc_BR 2 0 rfl (by decide) zf_BR_11 rfl rfl rfl (Nat.le_of_ble_eq_true rfl) rfl zd_BR_add_37 ?_
      refine zw_sub (L' := [zObj h 1 [.ref q34, .int (zI (((l.length : Nat) : Int)))], zArB q34 (2 * n) (va_cpy f (fun _ => 0) 0 0 (min n (2 * n)))]) [2, 1] rfl rfl ?_
      refine zw_aload_n 0 rfl zd_BR_add_40 ?_
      refine zw_get zc_BR 0 0 rfl (by decide) zf_BR_11 rfl zd_BR_add_41 ?_
      refine zw_aload_n 0 rfl zd_BR_add_44 ?_
      refine zw_get zc_BR 0 1 rfl (by decide) zf_BR_15 rfl zd_BR_add_45 ?_
      refine zw_iload_n 1 rfl zd_BR_add_48 ?_
      refine zw_i2bR zd_BR_add_49 ?_
      refine zw_astB (L' := [zObj h 1 [.ref q34, .int (zI (((l.length : Nat) : Int)))], zArB q34 (2 * n) (upd (va_cpy f (fun _ => 0) 0 0 (min n (2 * n))) (((l.length : Nat) : Int)).toNat (vp_nar .byte ((zI (z)).toInt8.toInt32)))]) 1 rfl (by omega) (by omega) rfl zd_BR_add_50 ?_
      refine zw_aload_n 0 rfl zd_BR_add_51 ?_
      refine zw_dup rfl zd_BR_add_52 ?_
      refine zw_get zc_BR 0 1 rfl (by decide) zf_BR_15 rfl zd_BR_add_53 ?_
      refine zw_iconst zd_BR_add_56 ?_
      refine zw_iadd zd_BR_add_57 ?_
      refine zw_put (L' := [zObj h 1 [.ref q34, .int (zI ((((l.length : Nat) : Int)) + 1))], zArB q34 (2 * n) (upd (va_cpy f (fun _ => 0) 0 0 (min n (2 * n))) (((l.length : Nat) : Int)).toNat (vp_nar .byte ((zI (z)).toInt8.toInt32)))]) zc_BR 0 1 rfl (by decide) zf_BR_15 rfl rfl rfl (Nat.le_of_ble_eq_true rfl) rfl zd_BR_add_58 ?_
      have e8 : ((l.length : Nat) : Int) + 1 = (((l ++ [z % 256]).length : Nat) : Int) := by simp
      have e7 : gcap l.length n = 2 * n := by unfold gcap; split <;> omega
      refine zw_sub (L' := [zObj h 1 [.ref q34, .int (zI ((((l ++ [z % 256]).length : Nat) : Int)))], zArB q34 (gcap l.length n) (upd (va_cpy f (fun _ => 0) 0 0 (min n (2 * n))) (((l.length : Nat) : Int)).toNat (vp_nar .byte ((zI (z)).toInt8.toInt32)))]) [0, 1] rfl (by rw [e7, ← e8]; rfl) ?_
      refine zw_pack (at0 := zBRow h (l ++ [z % 256]) (gcap l.length n)) (Ls := [zObj h 1 [.ref q34, .int (zI ((((l ++ [z % 256]).length : Nat) : Int)))], zArB q34 (gcap l.length n) (upd (va_cpy f (fun _ => 0) 0 0 (min n (2 * n))) (((l.length : Nat) : Int)).toNat (vp_nar .byte ((zI (z)).toInt8.toInt32)))]) (L2 := []) rfl (fun G ws h => ⟨(q34, upd (va_cpy f (fun _ => 0) 0 0 (min n (2 * n))) (((l.length : Nat) : Int)).toNat (vp_nar .byte ((zI (z)).toInt8.toInt32))), ?_, h⟩) ?_
      · refine ⟨by rw [List.length_append, List.length_singleton]; have := gcap_gt h1 h2; omega, by omega, by omega, zbytes_snoc h5 (by omega), ?_, ?_⟩
        · intro j
          exact zfit_upd (zfit_cpy h6) j
        · exact zrow_sncB (fun j hj => by rw [← h4 j hj]; exact sb_cpy0 (by omega))
      exact zw_vret hR rfl rfl rfl (by omega) (by omega) zd_BR_add_61
  · -- 6 -> 9
    exact absurd hl (by omega)
set_option maxHeartbeats 4000000 in
set_option maxRecDepth 100000 in
theorem c_IR_count (h : Nat) (l : List Int32) (n : Nat) (most : Nat) (c : Nat) (hc : l.length = c) : zCT zy_IR_count zm_IR_count (0) (0) [.ref h] [zIRow h (l) (n) (most)] (some (.int (zI ((c : Nat) : Int)))) [zIRow h (l) (n) (most)] := by
  refine zCT.of [(0, .ref h)] rfl (by decide) rfl (fun h => by first | rfl | cases h) (Nat.le_of_ble_eq_true rfl) (fun X hR => ?_)
  refine zw_unp (fun G ws h => h) (fun x0 hx0 => ?_)
  obtain ⟨a, f⟩ := x0
  obtain ⟨h1, h2, h3, h4⟩ := hx0
  dsimp only at h4
  simp only [List.cons_append, List.nil_append]
  refine zw_aload_n 0 rfl zd_IR_count_0 ?_
  refine zw_get zc_IR 0 2 rfl (by decide) zf_IR_19 rfl zd_IR_count_1 ?_
  refine zw_pack (at0 := zIRow h (l) (n) (most)) (Ls := [zObj h 2 [.int (zI (((most : Nat) : Int))), .ref a, .int (zI (((l.length : Nat) : Int)))], zArI a (n) (f)]) (L2 := []) rfl (fun G ws h => ⟨(a, f), ⟨h1, h2, h3, h4⟩, h⟩) ?_
  exact zw_iret hR (by rw [hc]) rfl rfl (by omega) (by omega) zd_IR_count_4
set_option maxHeartbeats 4000000 in
set_option maxRecDepth 100000 in
theorem c_IR_get (h : Nat) (l : List Int32) (n : Nat) (most : Nat) (z : Int) (hz : -2147483648 ≤ z ∧ z ≤ 2147483647) : zCT zy_IR_get zm_IR_get (0) (0) [.ref h, .int (zI z)] [zIRow h (l) (n) (most)] (some (.int (iget l z))) [zIRow h (l) (n) (most)] := by
  refine zCT.of [(0, .ref h), (1, .int (zI (z)))] rfl (by decide) rfl (fun h => by first | rfl | cases h) (Nat.le_of_ble_eq_true rfl) (fun X hR => ?_)
  refine zw_unp (fun G ws h => h) (fun x0 hx0 => ?_)
  obtain ⟨a, f⟩ := x0
  obtain ⟨h1, h2, h3, h4⟩ := hx0
  dsimp only at h4
  simp only [List.cons_append, List.nil_append]
  refine zw_iload_n 1 rfl zd_IR_get_0 ?_
  refine zw_if_lt 21 (by omega) zd_IR_get_1 (by decide) (fun c1 => ?_) (fun c1 => ?_)
  · -- 1 -> 21
    refine zw_iconst zd_IR_get_21 ?_
    refine zw_pack (at0 := zIRow h (l) (n) (most)) (Ls := [zObj h 2 [.int (zI (((most : Nat) : Int))), .ref a, .int (zI (((l.length : Nat) : Int)))], zArI a (n) (f)]) (L2 := []) rfl (fun G ws h => ⟨(a, f), ⟨h1, h2, h3, h4⟩, h⟩) ?_
    exact zw_iret hR (by rw [iget, if_neg (by omega)]) rfl rfl (by omega) (by omega) zd_IR_get_22
  · -- 1 -> 4
    refine zw_iload_n 1 rfl zd_IR_get_4 ?_
    refine zw_aload_n 0 rfl zd_IR_get_5 ?_
    refine zw_get zc_IR 0 2 rfl (by decide) zf_IR_19 rfl zd_IR_get_6 ?_
    refine zw_icmp_ge 21 (by omega) (by omega) zd_IR_get_9 (by decide) (fun c9 => ?_) (fun c9 => ?_)
    · -- 9 -> 21
      refine zw_iconst zd_IR_get_21 ?_
      refine zw_pack (at0 := zIRow h (l) (n) (most)) (Ls := [zObj h 2 [.int (zI (((most : Nat) : Int))), .ref a, .int (zI (((l.length : Nat) : Int)))], zArI a (n) (f)]) (L2 := []) rfl (fun G ws h => ⟨(a, f), ⟨h1, h2, h3, h4⟩, h⟩) ?_
      exact zw_iret hR (by rw [iget, if_neg (by omega)]) rfl rfl (by omega) (by omega) zd_IR_get_22
    · -- 9 -> 12
      refine zw_aload_n 0 rfl zd_IR_get_12 ?_
      refine zw_get zc_IR 0 1 rfl (by decide) zf_IR_15 rfl zd_IR_get_13 ?_
      refine zw_iload_n 1 rfl zd_IR_get_16 ?_
      refine zw_aldI 1 rfl (by omega) (by omega) zd_IR_get_17 ?_
      refine zw_goto 22 zd_IR_get_18 (by decide) ?_
      refine zw_pack (at0 := zIRow h (l) (n) (most)) (Ls := [zObj h 2 [.int (zI (((most : Nat) : Int))), .ref a, .int (zI (((l.length : Nat) : Int)))], zArI a (n) (f)]) (L2 := []) rfl (fun G ws h => ⟨(a, f), ⟨h1, h2, h3, h4⟩, h⟩) ?_
      exact zw_iret hR (by rw [iget, if_pos (by omega), h4 _ (by omega)]) rfl rfl (by omega) (by omega) zd_IR_get_22
set_option maxHeartbeats 4000000 in
set_option maxRecDepth 100000 in
theorem c_IR_shorten (h : Nat) (l : List Int32) (n : Nat) (most : Nat) (z : Int) (hz : -2147483648 ≤ z ∧ z ≤ 2147483647) : zCT zy_IR_shorten zm_IR_shorten (0) (0) [.ref h, .int (zI z)] [zIRow h (l) (n) (most)] (none) [zIRow h (rshort l z) (n) (most)] := by
  refine zCT.of [(0, .ref h), (1, .int (zI (z)))] rfl (by decide) rfl (fun h => by first | rfl | cases h) (Nat.le_of_ble_eq_true rfl) (fun X hR => ?_)
  refine zw_unp (fun G ws h => h) (fun x0 hx0 => ?_)
  obtain ⟨a, f⟩ := x0
  obtain ⟨h1, h2, h3, h4⟩ := hx0
  dsimp only at h4
  simp only [List.cons_append, List.nil_append]
  refine zw_iload_n 1 rfl zd_IR_shorten_0 ?_
  refine zw_if_lt 17 (by omega) zd_IR_shorten_1 (by decide) (fun c1 => ?_) (fun c1 => ?_)
  · -- 1 -> 17
    refine zw_pack (at0 := zIRow h (l) (n) (most)) (Ls := [zObj h 2 [.int (zI (((most : Nat) : Int))), .ref a, .int (zI (((l.length : Nat) : Int)))], zArI a (n) (f)]) (L2 := []) rfl (fun G ws h => ⟨(a, f), ⟨h1, h2, h3, h4⟩, h⟩) ?_
    exact zw_vret hR rfl (by rw [rshort, if_neg (by omega)]) rfl (by omega) (by omega) zd_IR_shorten_17
  · -- 1 -> 4
    refine zw_iload_n 1 rfl zd_IR_shorten_4 ?_
    refine zw_aload_n 0 rfl zd_IR_shorten_5 ?_
    refine zw_get zc_IR 0 2 rfl (by decide) zf_IR_19 rfl zd_IR_shorten_6 ?_
    refine zw_icmp_ge 17 (by omega) (by omega) zd_IR_shorten_9 (by decide) (fun c9 => ?_) (fun c9 => ?_)
    · -- 9 -> 17
      refine zw_pack (at0 := zIRow h (l) (n) (most)) (Ls := [zObj h 2 [.int (zI (((most : Nat) : Int))), .ref a, .int (zI (((l.length : Nat) : Int)))], zArI a (n) (f)]) (L2 := []) rfl (fun G ws h => ⟨(a, f), ⟨h1, h2, h3, h4⟩, h⟩) ?_
      exact zw_vret hR rfl (by rw [rshort, if_neg (by omega)]) rfl (by omega) (by omega) zd_IR_shorten_17
    · -- 9 -> 12
      refine zw_aload_n 0 rfl zd_IR_shorten_12 ?_
      refine zw_iload_n 1 rfl zd_IR_shorten_13 ?_
      refine zw_put (L' := [zObj h 2 [.int (zI (((most : Nat) : Int))), .ref a, .int (zI (z))], zArI a (n) (f)]) zc_IR 0 2 rfl (by decide) zf_IR_19 rfl rfl rfl (Nat.le_of_ble_eq_true rfl) rfl zd_IR_shorten_14 ?_
      have e9 : z = (((l.take z.toNat).length : Nat) : Int) := by rw [List.length_take]; omega
      refine zw_sub (L' := [zObj h 2 [.int (zI (((most : Nat) : Int))), .ref a, .int (zI ((((l.take z.toNat).length : Nat) : Int)))], zArI a (n) (f)]) [0, 1] rfl (by rw [← e9]; rfl) ?_
      refine zw_pack (at0 := zIRow h (l.take z.toNat) (n) (most)) (Ls := [zObj h 2 [.int (zI (((most : Nat) : Int))), .ref a, .int (zI ((((l.take z.toNat).length : Nat) : Int)))], zArI a (n) (f)]) (L2 := []) rfl (fun G ws h => ⟨(a, f), ⟨by rw [List.length_take]; omega, h2, h3, fun j hj => by rw [List.length_take] at hj; rw [zgD_take (by omega)]; exact h4 j (by omega)⟩, h⟩) ?_
      exact zw_vret hR rfl (by rw [rshort, if_pos (by omega)]) rfl (by omega) (by omega) zd_IR_shorten_17
set_option maxHeartbeats 4000000 in
set_option maxRecDepth 100000 in
theorem c_IR_add (h : Nat) (l : List Int32) (n : Nat) (most : Nat) (x : Int32) (c : Nat) (hc : l.length = c) (hm : most ≤ 65536) (hl : c < most) : zCT zy_IR_add zm_IR_add (gcap c n - n) (2 * (gcap c n - n)) [.ref h, .int (x)] [zIRow h (l) (n) (most)] (none) [zIRow h (l ++ [x]) (gcap c n) (most)] := by
  refine zCT.of [(0, .ref h), (1, .int (x))] rfl (by decide) rfl (fun h => by first | rfl | cases h) (Nat.le_of_ble_eq_true rfl) (fun X hR => ?_)
  refine zw_unp (fun G ws h => h) (fun x0 hx0 => ?_)
  obtain ⟨a, f⟩ := x0
  obtain ⟨h1, h2, h3, h4⟩ := hx0
  dsimp only at h4
  simp only [List.cons_append, List.nil_append]
  subst hc
  have hg := gcap_ge l.length n
  refine zw_aload_n 0 rfl zd_IR_add_0 ?_
  refine zw_get zc_IR 0 2 rfl (by decide) zf_IR_19 rfl zd_IR_add_1 ?_
  refine zw_aload_n 0 rfl zd_IR_add_4 ?_
  refine zw_get zc_IR 0 0 rfl (by decide) zf_IR_9 rfl zd_IR_add_5 ?_
  refine zw_icmp_lt 12 (by omega) (by omega) zd_IR_add_8 (by decide) (fun c8 => ?_) (fun c8 => ?_)
  · -- 8 -> 12
    refine zw_aload_n 0 rfl zd_IR_add_12 ?_
    refine zw_get zc_IR 0 2 rfl (by decide) zf_IR_19 rfl zd_IR_add_13 ?_
    refine zw_aload_n 0 rfl zd_IR_add_16 ?_
    refine zw_get zc_IR 0 1 rfl (by decide) zf_IR_15 rfl zd_IR_add_17 ?_
    refine zw_alenI 1 rfl zd_IR_add_20 ?_
    refine zw_icmp_lt 42 (by omega) (by omega) zd_IR_add_21 (by decide) (fun c21 => ?_) (fun c21 => ?_)
    · -- 21 -> 42
      refine zw_aload_n 0 rfl zd_IR_add_42 ?_
      refine zw_get zc_IR 0 1 rfl (by decide) zf_IR_15 rfl zd_IR_add_43 ?_
      refine zw_aload_n 0 rfl zd_IR_add_46 ?_
      refine zw_get zc_IR 0 2 rfl (by decide) zf_IR_19 rfl zd_IR_add_47 ?_
      refine zw_iload_n 1 rfl zd_IR_add_50 ?_
      refine zw_astI (L' := [zObj h 2 [.int (zI (((most : Nat) : Int))), .ref a, .int (zI (((l.length : Nat) : Int)))], zArI a (n) (upd f (((l.length : Nat) : Int)).toNat x)]) 1 rfl (by omega) (by omega) rfl zd_IR_add_51 ?_
      refine zw_aload_n 0 rfl zd_IR_add_52 ?_
      refine zw_dup rfl zd_IR_add_53 ?_
      refine zw_get zc_IR 0 2 rfl (by decide) zf_IR_19 rfl zd_IR_add_54 ?_
      refine zw_iconst zd_IR_add_57 ?_
      refine zw_iadd zd_IR_add_58 ?_
      refine zw_put (L' := [zObj h 2 [.int (zI (((most : Nat) : Int))), .ref a, .int (zI ((((l.length : Nat) : Int)) + 1))], zArI a (n) (upd f (((l.length : Nat) : Int)).toNat x)]) zc_IR 0 2 rfl (by decide) zf_IR_19 rfl rfl rfl (Nat.le_of_ble_eq_true rfl) rfl zd_IR_add_59 ?_
      have e8 : ((l.length : Nat) : Int) + 1 = (((l ++ [x]).length : Nat) : Int) := by simp
      have e7 : gcap l.length n = n := by unfold gcap; split <;> omega
      refine zw_sub (L' := [zObj h 2 [.int (zI (((most : Nat) : Int))), .ref a, .int (zI ((((l ++ [x]).length : Nat) : Int)))], zArI a (gcap l.length n) (upd f (((l.length : Nat) : Int)).toNat x)]) [0, 1] rfl (by rw [e7, ← e8]; rfl) ?_
      refine zw_pack (at0 := zIRow h (l ++ [x]) (gcap l.length n) (most)) (Ls := [zObj h 2 [.int (zI (((most : Nat) : Int))), .ref a, .int (zI ((((l ++ [x]).length : Nat) : Int)))], zArI a (gcap l.length n) (upd f (((l.length : Nat) : Int)).toNat x)]) (L2 := []) rfl (fun G ws h => ⟨(a, upd f (((l.length : Nat) : Int)).toNat x), ?_, h⟩) ?_
      · refine ⟨by rw [List.length_append, List.length_singleton]; have := gcap_gt h1 h2; omega, by omega, by omega, ?_⟩
        exact zrow_snc h4
      exact zw_vret hR rfl rfl rfl (by omega) (by omega) zd_IR_add_62
    · -- 21 -> 24
      have e6 : gcap l.length n = 2 * n := by unfold gcap; split <;> omega
      refine zw_aload_n 0 rfl zd_IR_add_24 ?_
      refine zw_aload_n 0 rfl zd_IR_add_25 ?_
      refine zw_get zc_IR 0 1 rfl (by decide) zf_IR_15 rfl zd_IR_add_26 ?_
      refine zw_iconst zd_IR_add_29 ?_
      refine zw_aload_n 0 rfl zd_IR_add_30 ?_
      refine zw_get zc_IR 0 1 rfl (by decide) zf_IR_15 rfl zd_IR_add_31 ?_
      refine zw_alenI 1 rfl zd_IR_add_34 ?_
      refine zw_imul zd_IR_add_35 ?_
      refine zw_callSr (As := [.ref a, .int (zI (2 * (((n : Nat) : Int))))]) (rest := [.ref h]) (L2 := [zObj h 2 [.int (zI (((most : Nat) : Int))), .ref a, .int (zI (((l.length : Nat) : Int)))]]) (c_AR_copyOfI a n f (2 * n) (2 * (((n : Nat) : Int))) (by omega) (by omega) (by omega)) [1] [0] rfl rfl rfl zcal_AR_copyOfI zl_IR_22 zst_AR_copyOfI (Nat.le_of_ble_eq_true rfl) (Nat.le_of_ble_eq_true rfl) (by omega) (by omega) rfl (Nat.le_of_ble_eq_true rfl) zd_IR_add_36 (fun q36 => ?_)
      simp only [List.cons_append, List.nil_append]
      refine zw_put (L' := [zArI a (n) (f), zArI q36 (2 * n) (va_cpy f (fun _ => 0) 0 0 (min n (2 * n))), zObj h 2 [.int (zI (((most : Nat) : Int))), .ref q36, .int (zI (((l.length : Nat) : Int)))]]) zc_IR 2 1 rfl (by decide) zf_IR_15 rfl rfl rfl (Nat.le_of_ble_eq_true rfl) rfl zd_IR_add_39 ?_
      refine zw_sub (L' := [zObj h 2 [.int (zI (((most : Nat) : Int))), .ref q36, .int (zI (((l.length : Nat) : Int)))], zArI q36 (2 * n) (va_cpy f (fun _ => 0) 0 0 (min n (2 * n)))]) [2, 1] rfl rfl ?_
      refine zw_aload_n 0 rfl zd_IR_add_42 ?_
      refine zw_get zc_IR 0 1 rfl (by decide) zf_IR_15 rfl zd_IR_add_43 ?_
      refine zw_aload_n 0 rfl zd_IR_add_46 ?_
      refine zw_get zc_IR 0 2 rfl (by decide) zf_IR_19 rfl zd_IR_add_47 ?_
      refine zw_iload_n 1 rfl zd_IR_add_50 ?_
      refine zw_astI (L' := [zObj h 2 [.int (zI (((most : Nat) : Int))), .ref q36, .int (zI (((l.length : Nat) : Int)))], zArI q36 (2 * n) (upd (va_cpy f (fun _ => 0) 0 0 (min n (2 * n))) (((l.length : Nat) : Int)).toNat x)]) 1 rfl (by omega) (by omega) rfl zd_IR_add_51 ?_
      refine zw_aload_n 0 rfl zd_IR_add_52 ?_
      refine zw_dup rfl zd_IR_add_53 ?_
      refine zw_get zc_IR 0 2 rfl (by decide) zf_IR_19 rfl zd_IR_add_54 ?_
      refine zw_iconst zd_IR_add_57 ?_
      refine zw_iadd zd_IR_add_58 ?_
      refine zw_put (L' := [zObj h 2 [.int (zI (((most : Nat) : Int))), .ref q36, .int (zI ((((l.length : Nat) : Int)) + 1))], zArI q36 (2 * n) (upd (va_cpy f (fun _ => 0) 0 0 (min n (2 * n))) (((l.length : Nat) : Int)).toNat x)]) zc_IR 0 2 rfl (by decide) zf_IR_19 rfl rfl rfl (Nat.le_of_ble_eq_true rfl) rfl zd_IR_add_59 ?_
      have e8 : ((l.length : Nat) : Int) + 1 = (((l ++ [x]).length : Nat) : Int) := by simp
      have e7 : gcap l.length n = 2 * n := by unfold gcap; split <;> omega
      refine zw_sub (L' := [zObj h 2 [.int (zI (((most : Nat) : Int))), .ref q36, .int (zI ((((l ++ [x]).length : Nat) : Int)))], zArI q36 (gcap l.length n) (upd (va_cpy f (fun _ => 0) 0 0 (min n (2 * n))) (((l.length : Nat) : Int)).toNat x)]) [0, 1] rfl (by rw [e7, ← e8]; rfl) ?_
      refine zw_pack (at0 := zIRow h (l ++ [x]) (gcap l.length n) (most)) (Ls := [zObj h 2 [.int (zI (((most : Nat) : Int))), .ref q36, .int (zI ((((l ++ [x]).length : Nat) : Int)))], zArI q36 (gcap l.length n) (upd (va_cpy f (fun _ => 0) 0 0 (min n (2 * n))) (((l.length : Nat) : Int)).toNat x)]) (L2 := []) rfl (fun G ws h => ⟨(q36, upd (va_cpy f (fun _ => 0) 0 0 (min n (2 * n))) (((l.length : Nat) : Int)).toNat x), ?_, h⟩) ?_
      · refine ⟨by rw [List.length_append, List.length_singleton]; have := gcap_gt h1 h2; omega, by omega, by omega, ?_⟩
        exact zrow_snc (fun j hj => by rw [← h4 j hj]; exact sb_cpy0 (by omega))
      exact zw_vret hR rfl rfl rfl (by omega) (by omega) zd_IR_add_62
  · -- 8 -> 11
    exact absurd hl (by omega)
set_option maxHeartbeats 4000000 in
set_option maxRecDepth 100000 in
theorem c_IR_set (h : Nat) (l : List Int32) (n : Nat) (most : Nat) (z : Int) (x : Int32) (hz : -2147483648 ≤ z ∧ z ≤ 2147483647) : zCT zy_IR_set zm_IR_set (0) (0) [.ref h, .int (zI z), .int x] [zIRow h (l) (n) (most)] (none) [zIRow h (iset l z x) (n) (most)] := by
  refine zCT.of [(0, .ref h), (1, .int (zI (z))), (2, .int (x))] rfl (by decide) rfl (fun h => by first | rfl | cases h) (Nat.le_of_ble_eq_true rfl) (fun X hR => ?_)
  refine zw_unp (fun G ws h => h) (fun x0 hx0 => ?_)
  obtain ⟨a, f⟩ := x0
  obtain ⟨h1, h2, h3, h4⟩ := hx0
  dsimp only at h4
  simp only [List.cons_append, List.nil_append]
  refine zw_iload_n 1 rfl zd_IR_set_0 ?_
  refine zw_if_lt 19 (by omega) zd_IR_set_1 (by decide) (fun c1 => ?_) (fun c1 => ?_)
  · -- 1 -> 19
    refine zw_pack (at0 := zIRow h (l) (n) (most)) (Ls := [zObj h 2 [.int (zI (((most : Nat) : Int))), .ref a, .int (zI (((l.length : Nat) : Int)))], zArI a (n) (f)]) (L2 := []) rfl (fun G ws h => ⟨(a, f), ⟨h1, h2, h3, h4⟩, h⟩) ?_
    exact zw_vret hR rfl (by rw [iset, if_neg (by omega)]) rfl (by omega) (by omega) zd_IR_set_19
  · -- 1 -> 4
    refine zw_iload_n 1 rfl zd_IR_set_4 ?_
    refine zw_aload_n 0 rfl zd_IR_set_5 ?_
    refine zw_get zc_IR 0 2 rfl (by decide) zf_IR_19 rfl zd_IR_set_6 ?_
    refine zw_icmp_ge 19 (by omega) (by omega) zd_IR_set_9 (by decide) (fun c9 => ?_) (fun c9 => ?_)
    · -- 9 -> 19
      refine zw_pack (at0 := zIRow h (l) (n) (most)) (Ls := [zObj h 2 [.int (zI (((most : Nat) : Int))), .ref a, .int (zI (((l.length : Nat) : Int)))], zArI a (n) (f)]) (L2 := []) rfl (fun G ws h => ⟨(a, f), ⟨h1, h2, h3, h4⟩, h⟩) ?_
      exact zw_vret hR rfl (by rw [iset, if_neg (by omega)]) rfl (by omega) (by omega) zd_IR_set_19
    · -- 9 -> 12
      refine zw_aload_n 0 rfl zd_IR_set_12 ?_
      refine zw_get zc_IR 0 1 rfl (by decide) zf_IR_15 rfl zd_IR_set_13 ?_
      refine zw_iload_n 1 rfl zd_IR_set_16 ?_
      refine zw_iload_n 2 rfl zd_IR_set_17 ?_
      refine zw_astI (L' := [zObj h 2 [.int (zI (((most : Nat) : Int))), .ref a, .int (zI (((l.length : Nat) : Int)))], zArI a (n) (upd f (z).toNat x)]) 1 rfl (by omega) (by omega) rfl zd_IR_set_18 ?_
      have e9 : (l.set z.toNat x).length = l.length := List.length_set ..
      refine zw_eqL (L' := [zObj h 2 [.int (zI (((most : Nat) : Int))), .ref a, .int (zI ((((l.set z.toNat x).length : Nat) : Int)))], zArI a (n) (upd f (z).toNat x)]) (by rw [e9]) ?_
      refine zw_pack (at0 := zIRow h (l.set z.toNat x) (n) (most)) (Ls := [zObj h 2 [.int (zI (((most : Nat) : Int))), .ref a, .int (zI ((((l.set z.toNat x).length : Nat) : Int)))], zArI a (n) (upd f (z).toNat x)]) (L2 := []) rfl (fun G ws h => ⟨(a, upd f (z).toNat x), ⟨by rw [e9]; exact h1, h2, h3, zrow_set h4⟩, h⟩) ?_
      exact zw_vret hR rfl (by rw [iset, if_pos (by omega)]) rfl (by omega) (by omega) zd_IR_set_19
set_option maxHeartbeats 4000000 in
set_option maxRecDepth 100000 in
theorem c_BR_new (h : Nat) : zCT zy_BR_new zm_BR_new (1) (512) [.ref h] [zObj h 1 [.null, .int (zI (0))]] (none) [zBRow h ([]) (512)] := by
  refine zCT.of [(0, .ref h)] rfl (by decide) rfl (fun h => by first | rfl | cases h) (Nat.le_of_ble_eq_true rfl) (fun X hR => ?_)
  refine zw_aload_n 0 rfl zd_BR_new_0 ?_
  refine zw_objInit zl_BR_3 zoi_1 zoi_2 (Nat.le_of_ble_eq_true rfl) (Nat.le_of_ble_eq_true rfl) zd_BR_new_1 ?_
  refine zw_aload_n 0 rfl zd_BR_new_4 ?_
  refine zw_sipush rfl zd_BR_new_5 ?_
  refine zw_newaB (N := 512) (by first | rfl | omega) (by omega) zac_B (by omega) (by omega) zd_BR_new_8 (fun q8 => ?_)
  simp only [List.cons_append, List.nil_append]
  refine zw_put (L' := [zObj h 1 [.ref q8, .int (zI (0))], zArB q8 (512) (fun _ => 0)]) zc_BR 0 0 rfl (by decide) zf_BR_11 rfl rfl rfl (Nat.le_of_ble_eq_true rfl) rfl zd_BR_new_10 ?_
  refine zw_aload_n 0 rfl zd_BR_new_13 ?_
  refine zw_iconst zd_BR_new_14 ?_
  refine zw_put (L' := [zObj h 1 [.ref q8, .int (zI (0))], zArB q8 (512) (fun _ => 0)]) zc_BR 0 1 rfl (by decide) zf_BR_15 rfl rfl rfl (Nat.le_of_ble_eq_true rfl) rfl zd_BR_new_15 ?_
  refine zw_pack (at0 := zBRow h ([]) (512)) (Ls := [zObj h 1 [.ref q8, .int (zI (0))], zArB q8 (512) (fun _ => 0)]) (L2 := []) rfl (fun G ws h => ⟨(q8, fun _ => 0), ⟨Nat.zero_le _, by omega, by omega, fun b hb => absurd hb List.not_mem_nil, fun _ => rfl, fun j hj => absurd hj (Nat.not_lt_zero j)⟩, h⟩) ?_
  exact zw_vret hR rfl rfl rfl (by omega) (by omega) zd_BR_new_18
set_option maxHeartbeats 4000000 in
set_option maxRecDepth 100000 in
theorem c_IR_new (h : Nat) (most : Nat) : zCT zy_IR_new zm_IR_new (1) (64) [.ref h, .int (zI ((most : Nat) : Int))] [zObj h 2 [.int (zI (0)), .null, .int (zI (0))]] (none) [zIRow h ([]) (64) (most)] := by
  refine zCT.of [(0, .ref h), (1, .int (zI (((most : Nat) : Int))))] rfl (by decide) rfl (fun h => by first | rfl | cases h) (Nat.le_of_ble_eq_true rfl) (fun X hR => ?_)
  refine zw_aload_n 0 rfl zd_IR_new_0 ?_
  refine zw_objInit zl_IR_3 zoi_1 zoi_2 (Nat.le_of_ble_eq_true rfl) (Nat.le_of_ble_eq_true rfl) zd_IR_new_1 ?_
  refine zw_aload_n 0 rfl zd_IR_new_4 ?_
  refine zw_iload_n 1 rfl zd_IR_new_5 ?_
  refine zw_putF (L' := [zObj h 2 [.int (zI (((most : Nat) : Int))), .null, .int (zI (0))]]) zc_IR 0 0 rfl (by decide) zf_IR_9 rfl rfl rfl rfl rfl (Nat.le_of_ble_eq_true rfl) rfl zd_IR_new_6 ?_
  refine zw_aload_n 0 rfl zd_IR_new_9 ?_
  refine zw_bipush rfl zd_IR_new_10 ?_
  refine zw_newaI (N := 64) (by first | rfl | omega) (by omega) zac_I (by omega) (by omega) zd_IR_new_12 (fun q12 => ?_)
  simp only [List.cons_append, List.nil_append]
  refine zw_put (L' := [zObj h 2 [.int (zI (((most : Nat) : Int))), .ref q12, .int (zI (0))], zArI q12 (64) (fun _ => 0)]) zc_IR 0 1 rfl (by decide) zf_IR_15 rfl rfl rfl (Nat.le_of_ble_eq_true rfl) rfl zd_IR_new_14 ?_
  refine zw_aload_n 0 rfl zd_IR_new_17 ?_
  refine zw_iconst zd_IR_new_18 ?_
  refine zw_put (L' := [zObj h 2 [.int (zI (((most : Nat) : Int))), .ref q12, .int (zI (0))], zArI q12 (64) (fun _ => 0)]) zc_IR 0 2 rfl (by decide) zf_IR_19 rfl rfl rfl (Nat.le_of_ble_eq_true rfl) rfl zd_IR_new_19 ?_
  refine zw_pack (at0 := zIRow h ([]) (64) (most)) (Ls := [zObj h 2 [.int (zI (((most : Nat) : Int))), .ref q12, .int (zI (0))], zArI q12 (64) (fun _ => 0)]) (L2 := []) rfl (fun G ws h => ⟨(q12, fun _ => 0), ⟨Nat.zero_le _, by omega, by omega, fun j hj => absurd hj (Nat.not_lt_zero j)⟩, h⟩) ?_
  exact zw_vret hR rfl rfl rfl (by omega) (by omega) zd_IR_new_22
