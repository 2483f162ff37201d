theorem low8 (v : BitVec 64) (s : Nat) (hs : s ≤ 56) : ((v.sshiftRight s).signExtend 32).signExtend 8 = ((v >>> s).signExtend 32).signExtend 8 := by
  ext i hi
  rw [BitVec.getElem_signExtend, BitVec.getElem_signExtend, dif_pos (by omega), dif_pos (by omega), BitVec.getElem_signExtend, BitVec.getElem_signExtend, dif_pos (by omega), dif_pos (by omega), BitVec.getElem_sshiftRight, BitVec.getElem_ushiftRight, dif_pos (by omega)]
  rw [BitVec.getLsbD_eq_getElem (by omega)]
theorem ty_low (b : Int64) (k : Int) (hk : 0 ≤ k ∧ k ≤ 7) : (b >>> ((zI (8 * k)).toInt64 &&& 63)).toInt32.toInt8 = (tyX b (8 * k)).toInt8 := by
  have h : k = 0 ∨ k = 1 ∨ k = 2 ∨ k = 3 ∨ k = 4 ∨ k = 5 ∨ k = 6 ∨ k = 7 := by omega
  have l := fun s hs => low8 b.toBitVec s hs
  rcases h with rfl | rfl | rfl | rfl | rfl | rfl | rfl | rfl
  · exact Int8.toBitVec_inj.mp (l 0 (by omega))
  · exact Int8.toBitVec_inj.mp (l 8 (by omega))
  · exact Int8.toBitVec_inj.mp (l 16 (by omega))
  · exact Int8.toBitVec_inj.mp (l 24 (by omega))
  · exact Int8.toBitVec_inj.mp (l 32 (by omega))
  · exact Int8.toBitVec_inj.mp (l 40 (by omega))
  · exact Int8.toBitVec_inj.mp (l 48 (by omega))
  · exact Int8.toBitVec_inj.mp (l 56 (by omega))
theorem mtape_snoc {t : List Int} {f : Nat → Int32} {z : Int} {w : Int32} (m : mTape t f) (h : t.length < 65536) (hw : w.toInt8 = (zI z).toInt8) : mTape (t ++ [z % 256]) (upd f ((t.length : Nat) : Int).toNat (vp_nar .byte (w.toInt8.toInt32))) := by
  rw [hw]
  exact ⟨by rw [List.length_append, List.length_singleton]; omega, zbytes_snoc m.2.1 (by omega), zfit_upd m.2.2.1, zrow_sncB m.2.2.2⟩
set_option maxHeartbeats 4000000 in
set_option maxRecDepth 100000 in
theorem c_MO_type_bad (h : Nat) (t : List Int) (ws : List (Int32 × Int32 × Int32)) (ts : List (List Int)) (op : List Int) (y r ct wh : Int) (fd fr : Nat → Int32) (b : Int64) (z : Int) (hz : z < 1 ∨ 8 < z) (hz2 : -2147483648 ≤ z ∧ z ≤ 2147483647) : zCT zy_MO_type zm_MO_type (0) (0) [.ref h, .long b, .int (zI z)] [zMOd h (t) (ws) (ts) ([]) (op) (y) (r) (ct) (wh) (fd) (fr)] (some (.int (zI (-1)))) [zMOd h (t) (ws) (ts) ([]) (op) (y) (r) (ct) (wh) (fd) (fr)] := by
  refine zCT.of [(0, .ref h), (1, .long (b)), (3, .int (zI (z)))] rfl (by decide) rfl (fun h => by first | rfl | cases h) (Nat.le_of_ble_eq_true rfl) (fun X hR => ?_)
  refine zw_iload_n 2 rfl zd_MO_type_0 ?_
  refine zw_iconst zd_MO_type_1 ?_
  refine zw_icmp_lt 11 (by omega) (by omega) zd_MO_type_2 (by decide) (fun c2 => ?_) (fun c2 => ?_)
  · -- 2 -> 11
    refine zw_iconst zd_MO_type_11 ?_
    exact zw_iret hR (rfl) (rfl) rfl (by omega) (by omega) zd_MO_type_12
  · -- 2 -> 5
    refine zw_iload_n 2 rfl zd_MO_type_5 ?_
    refine zw_bipush rfl zd_MO_type_6 ?_
    refine zw_icmp_le 13 (by omega) (by omega) zd_MO_type_8 (by decide) (fun c8 => ?_) (fun c8 => ?_)
    · -- 8 -> 13
      exfalso; omega
    · -- 8 -> 11
      refine zw_iconst zd_MO_type_11 ?_
      exact zw_iret hR (rfl) (rfl) rfl (by omega) (by omega) zd_MO_type_12
set_option maxHeartbeats 4000000 in
set_option maxRecDepth 100000 in
theorem c_MO_type_ok (h : Nat) (t : List Int) (ws : List (Int32 × Int32 × Int32)) (ts : List (List Int)) (op : List Int) (y r ct wh : Int) (fd fr : Nat → Int32) (b : Int64) (z : Int) (hz : 1 ≤ z ∧ z ≤ 8) (ht4 : t.length ≤ 60000) : zCT zy_MO_type zm_MO_type (0) (0) [.ref h, .long b, .int (zI z)] [zMOd h (t) (ws) (ts) ([]) (op) (y) (r) (ct) (wh) (fd) (fr)] (some (.int (zI ((t.length + z.toNat : Nat) : Int)))) [zMOd h (t ++ tyS b z.toNat) (ws) (ts) ([]) (op) (y) (r) (ct) (wh) (fd) (fr)] := by
  refine zCT.of [(0, .ref h), (1, .long (b)), (3, .int (zI (z)))] rfl (by decide) rfl (fun h => by first | rfl | cases h) (Nat.le_of_ble_eq_true rfl) (fun X hR => ?_)
  refine zw_fact 0 rfl (fun G w h => zMOd_fact h) (fun mf => ?_)
  obtain ⟨⟨ht1, hby⟩, hw1, ⟨hs1, hs2, hs3⟩, ho1⟩ := mf
  have lp : ∀ (fuel : Nat) (acc : List Int) (k : Int), ((-1 ≤ k ∧ k ≤ 7) ∧ (acc.length : Int) = z - 1 - k ∧ acc ++ tyS b (k + 1).toNat = tyS b z.toNat) → (k + 1).toNat < fuel → zZ X zm_MO_type (0) (0) (0) (0) [zMOd h (t ++ acc) (ws) (ts) ([]) (op) (y) (r) (ct) (wh) (fd) (fr)] 32 [(0, .ref h), (1, .long (b)), (3, .int (zI (z))), (4, .int (zI (k)))] [] := by
    intro fuel
    induction fuel with
    | zero => intro acc k g0 hm; exact absurd hm (Nat.not_lt_zero _)
    | succ fuel ih =>
      intro acc k g0 hm
      obtain ⟨g1, g2, g3⟩ := g0
      have hla : (t ++ acc).length = t.length + acc.length := List.length_append
      refine zw_iload 3 rfl zd_MO_type_32 ?_
      refine zw_if_lt 71 (by omega) zd_MO_type_34 (by decide) (fun c34 => ?_) (fun c34 => ?_)
      · -- 34 -> 71
        rw [show (k + 1).toNat = 0 by omega] at g3
        have g4 : acc = tyS b z.toNat := by rw [← g3]; exact (List.append_nil acc).symm
        refine zw_aload_n 0 rfl zd_MO_type_71 ?_
        refine zw_unp (fun G ws h => h) (fun x0 hx0 => ?_)
        obtain ⟨⟨at_, ak, an, ab, aw, ay, af, ad, ar⟩, ft, fk, fn, fb, fo, fy, ff⟩ := x0
        obtain ⟨m1, m2, m3, m4, m5⟩ := hx0
        simp only [List.cons_append, List.nil_append]
        dsimp only at m1 m2 m3 m4 m5
        refine zw_get zc_MO 0 1 rfl (by decide) zf_MO_40 rfl zd_MO_type_72 ?_
        refine zw_pack (at0 := zMOd h (t ++ acc) (ws) (ts) ([]) (op) (y) (r) (ct) (wh) (fd) (fr)) (Ls := [zObj h 6 [.ref at_, .int (zI ((((t ++ acc).length : Nat) : Int))), .int (zI (r)), .int (zI (((ws.length : Nat) : Int))), .ref ak, .ref an, .ref ab, .ref aw, .int (zI (((op.length : Nat) : Int))), .int (zI (((ts.length : Nat) : Int))), .int (zI (((((ts.flatten ++ ([]))).length : Nat) : Int))), .ref ay, .ref af, .ref ad, .int (zI (ct)), .int (zI (wh)), .int (zI (y)), .ref ar], zArB at_ (65536) (ft), zArB ak (16384) (fk), zArI an (16384) (fn), zArI ab (16384) (fb), zArI aw (64) (fo), zArB ay (131072) (fy), zArI af (16385) (ff), zArB ad (400) (fd), zArB ar (420) (fr)]) (L2 := []) rfl (fun G w h => ⟨((at_, ak, an, ab, aw, ay, af, ad, ar), ft, fk, fn, fb, fo, fy, ff), ⟨m1, m2, m3, m4, m5⟩, h⟩) ?_
        exact zw_iret hR (by rw [show ((t.length + z.toNat : Nat) : Int) = (((t ++ acc).length : Nat) : Int) by omega]) (by rw [g4]) rfl (by omega) (by omega) zd_MO_type_75
      · -- 34 -> 37
        refine zw_unp (fun G ws h => h) (fun x0 hx0 => ?_)
        obtain ⟨⟨at_, ak, an, ab, aw, ay, af, ad, ar⟩, ft, fk, fn, fb, fo, fy, ff⟩ := x0
        obtain ⟨m1, m2, m3, m4, m5⟩ := hx0
        simp only [List.cons_append, List.nil_append]
        dsimp only at m1 m2 m3 m4 m5
        refine zw_aload_n 0 rfl zd_MO_type_37 ?_
        refine zw_get zc_MO 0 0 rfl (by decide) zf_MO_8 rfl zd_MO_type_38 ?_
        refine zw_aload_n 0 rfl zd_MO_type_41 ?_
        refine zw_get zc_MO 0 1 rfl (by decide) zf_MO_40 rfl zd_MO_type_42 ?_
        refine zw_lload_n 1 rfl zd_MO_type_45 ?_
        refine zw_bipush rfl zd_MO_type_46 ?_
        refine zw_iload 3 rfl zd_MO_type_48 ?_
        refine zw_imul zd_MO_type_50 ?_
        refine zw_lshrR zd_MO_type_51 ?_
        refine zw_l2iR zd_MO_type_52 ?_
        refine zw_i2bR zd_MO_type_53 ?_
        refine zw_astB (L' := [zObj h 6 [.ref at_, .int (zI ((((t ++ acc).length : Nat) : Int))), .int (zI (r)), .int (zI (((ws.length : Nat) : Int))), .ref ak, .ref an, .ref ab, .ref aw, .int (zI (((op.length : Nat) : Int))), .int (zI (((ts.length : Nat) : Int))), .int (zI (((((ts.flatten ++ ([]))).length : Nat) : Int))), .ref ay, .ref af, .ref ad, .int (zI (ct)), .int (zI (wh)), .int (zI (y)), .ref ar], zArB at_ (65536) (upd ft ((((t ++ acc).length : Nat) : Int)).toNat (vp_nar .byte (((b >>> ((zI (8 * k)).toInt64 &&& 63)).toInt32).toInt8.toInt32))), zArB ak (16384) (fk), zArI an (16384) (fn), zArI ab (16384) (fb), zArI aw (64) (fo), zArB ay (131072) (fy), zArI af (16385) (ff), zArB ad (400) (fd), zArB ar (420) (fr)]) 1 rfl (by omega) (by omega) rfl zd_MO_type_54 ?_
        refine zw_aload_n 0 rfl zd_MO_type_55 ?_
        refine zw_dup rfl zd_MO_type_56 ?_
        refine zw_get zc_MO 0 1 rfl (by decide) zf_MO_40 rfl zd_MO_type_57 ?_
        refine zw_iconst zd_MO_type_60 ?_
        refine zw_iadd zd_MO_type_61 ?_
        refine zw_put (L' := [zObj h 6 [.ref at_, .int (zI (((((t ++ acc).length : Nat) : Int)) + 1)), .int (zI (r)), .int (zI (((ws.length : Nat) : Int))), .ref ak, .ref an, .ref ab, .ref aw, .int (zI (((op.length : Nat) : Int))), .int (zI (((ts.length : Nat) : Int))), .int (zI (((((ts.flatten ++ ([]))).length : Nat) : Int))), .ref ay, .ref af, .ref ad, .int (zI (ct)), .int (zI (wh)), .int (zI (y)), .ref ar], zArB at_ (65536) (upd ft ((((t ++ acc).length : Nat) : Int)).toNat (vp_nar .byte (((b >>> ((zI (8 * k)).toInt64 &&& 63)).toInt32).toInt8.toInt32))), zArB ak (16384) (fk), zArI an (16384) (fn), zArI ab (16384) (fb), zArI aw (64) (fo), zArB ay (131072) (fy), zArI af (16385) (ff), zArB ad (400) (fd), zArB ar (420) (fr)]) zc_MO 0 1 rfl (by decide) zf_MO_40 rfl rfl rfl (Nat.le_of_ble_eq_true rfl) rfl zd_MO_type_62 ?_
        refine zw_iinc (lv' := [(4, .int (zI (k + (-1)))), (0, .ref h), (1, .long (b)), (3, .int (zI (z)))]) 3 rfl (Nat.le_of_ble_eq_true rfl) rfl zd_MO_type_65 ?_
        refine zw_goto 32 zd_MO_type_68 (by decide) ?_
        have m1x : mTape (t ++ acc ++ [(tyX b (8 * k)).toInt % 256]) (upd ft ((((t ++ acc).length : Nat) : Int)).toNat (vp_nar .byte (((b >>> ((zI (8 * k)).toInt64 &&& 63)).toInt32).toInt8.toInt32))) := mtape_snoc (z := (tyX b (8 * k)).toInt) (w := (b >>> ((zI (8 * k)).toInt64 &&& 63)).toInt32) m1 (by omega) (by rw [zI_of]; exact ty_low b k (by omega))
        generalize hfx : upd ft ((((t ++ acc).length : Nat) : Int)).toNat (vp_nar .byte (((b >>> ((zI (8 * k)).toInt64 &&& 63)).toInt32).toInt8.toInt32)) = fx at m1x ⊢
        refine zw_eqL (L' := [zObj h 6 [.ref at_, .int (zI ((((t ++ acc ++ [(tyX b (8 * k)).toInt % 256]).length : Nat) : Int))), .int (zI (r)), .int (zI (((ws.length : Nat) : Int))), .ref ak, .ref an, .ref ab, .ref aw, .int (zI (((op.length : Nat) : Int))), .int (zI (((ts.length : Nat) : Int))), .int (zI (((((ts.flatten ++ ([]))).length : Nat) : Int))), .ref ay, .ref af, .ref ad, .int (zI (ct)), .int (zI (wh)), .int (zI (y)), .ref ar], zArB at_ (65536) (fx), zArB ak (16384) (fk), zArI an (16384) (fn), zArI ab (16384) (fb), zArI aw (64) (fo), zArB ay (131072) (fy), zArI af (16385) (ff), zArB ad (400) (fd), zArB ar (420) (fr)]) (by rw [List.length_append (as := t ++ acc), List.length_singleton]; rfl) ?_
        refine zw_pack (at0 := zMOd h (t ++ acc ++ [(tyX b (8 * k)).toInt % 256]) (ws) (ts) ([]) (op) (y) (r) (ct) (wh) (fd) (fr)) (Ls := [zObj h 6 [.ref at_, .int (zI ((((t ++ acc ++ [(tyX b (8 * k)).toInt % 256]).length : Nat) : Int))), .int (zI (r)), .int (zI (((ws.length : Nat) : Int))), .ref ak, .ref an, .ref ab, .ref aw, .int (zI (((op.length : Nat) : Int))), .int (zI (((ts.length : Nat) : Int))), .int (zI (((((ts.flatten ++ ([]))).length : Nat) : Int))), .ref ay, .ref af, .ref ad, .int (zI (ct)), .int (zI (wh)), .int (zI (y)), .ref ar], zArB at_ (65536) (fx), zArB ak (16384) (fk), zArI an (16384) (fn), zArI ab (16384) (fb), zArI aw (64) (fo), zArB ay (131072) (fy), zArI af (16385) (ff), zArB ad (400) (fd), zArB ar (420) (fr)]) (L2 := []) rfl (fun G w h => ⟨((at_, ak, an, ab, aw, ay, af, ad, ar), fx, fk, fn, fb, fo, fy, ff), ⟨m1x, m2, m3, m4, m5⟩, h⟩) ?_
        refine zw_eqL (L' := [zMOd h (t ++ (acc ++ [(tyX b (8 * k)).toInt % 256])) (ws) (ts) ([]) (op) (y) (r) (ct) (wh) (fd) (fr)]) (by rw [List.append_assoc]) ?_
        refine zw_lpick (lv' := [(0, .ref h), (1, .long (b)), (3, .int (zI (z))), (4, .int (zI (k + (-1))))]) [1, 2, 3, 0] rfl ?_
        refine zw_widen (k' := 0) (n' := 0) (by omega) (by omega) ?_
        refine ih (acc ++ [(tyX b (8 * k)).toInt % 256]) (k + -1) ⟨by omega, by rw [List.length_append, List.length_singleton]; omega, ?_⟩ (by omega)
        rw [← g3, show (k + -1 + 1).toNat = k.toNat by omega, show (k + 1).toNat = k.toNat + 1 by omega, List.append_assoc]
        show _ = acc ++ ((tyX b (8 * ((k.toNat : Nat) : Int))).toInt % 256 :: tyS b k.toNat)
        rw [show ((k.toNat : Nat) : Int) = k by omega]
        rfl
  refine zw_iload_n 2 rfl zd_MO_type_0 ?_
  refine zw_iconst zd_MO_type_1 ?_
  refine zw_icmp_lt 11 (by omega) (by omega) zd_MO_type_2 (by decide) (fun c2 => ?_) (fun c2 => ?_)
  · -- 2 -> 11
    exfalso; omega
  · -- 2 -> 5
    refine zw_iload_n 2 rfl zd_MO_type_5 ?_
    refine zw_bipush rfl zd_MO_type_6 ?_
    refine zw_icmp_le 13 (by omega) (by omega) zd_MO_type_8 (by decide) (fun c8 => ?_) (fun c8 => ?_)
    · -- 8 -> 13
      refine zw_aload_n 0 rfl zd_MO_type_13 ?_
      refine zw_unp (fun G ws h => h) (fun x0 hx0 => ?_)
      obtain ⟨⟨at_, ak, an, ab, aw, ay, af, ad, ar⟩, ft, fk, fn, fb, fo, fy, ff⟩ := x0
      obtain ⟨m1, m2, m3, m4, m5⟩ := hx0
      simp only [List.cons_append, List.nil_append]
      dsimp only at m1 m2 m3 m4 m5
      refine zw_get zc_MO 0 1 rfl (by decide) zf_MO_40 rfl zd_MO_type_14 ?_
      refine zw_pack (at0 := zMOd h (t) (ws) (ts) ([]) (op) (y) (r) (ct) (wh) (fd) (fr)) (Ls := [zObj h 6 [.ref at_, .int (zI (((t.length : Nat) : Int))), .int (zI (r)), .int (zI (((ws.length : Nat) : Int))), .ref ak, .ref an, .ref ab, .ref aw, .int (zI (((op.length : Nat) : Int))), .int (zI (((ts.length : Nat) : Int))), .int (zI (((((ts.flatten ++ ([]))).length : Nat) : Int))), .ref ay, .ref af, .ref ad, .int (zI (ct)), .int (zI (wh)), .int (zI (y)), .ref ar], zArB at_ (65536) (ft), zArB ak (16384) (fk), zArI an (16384) (fn), zArI ab (16384) (fb), zArI aw (64) (fo), zArB ay (131072) (fy), zArI af (16385) (ff), zArB ad (400) (fd), zArB ar (420) (fr)]) (L2 := []) rfl (fun G w h => ⟨((at_, ak, an, ab, aw, ay, af, ad, ar), ft, fk, fn, fb, fo, fy, ff), ⟨m1, m2, m3, m4, m5⟩, h⟩) ?_
      refine zw_iload_n 2 rfl zd_MO_type_17 ?_
      refine zw_iadd zd_MO_type_18 ?_
      refine zw_ldc zk_MO_7 65536 rfl zd_MO_type_19 ?_
      refine zw_icmp_le 27 (by omega) (by omega) zd_MO_type_21 (by decide) (fun c21 => ?_) (fun c21 => ?_)
      · -- 21 -> 27
        refine zw_iload_n 2 rfl zd_MO_type_27 ?_
        refine zw_iconst zd_MO_type_28 ?_
        refine zw_isub zd_MO_type_29 ?_
        refine zw_istore (lv' := [(4, .int (zI (z - 1))), (0, .ref h), (1, .long (b)), (3, .int (zI (z)))]) (Nat.le_of_ble_eq_true rfl) rfl zd_MO_type_30 ?_
        refine zw_eqL (L' := [zMOd h (t ++ []) (ws) (ts) ([]) (op) (y) (r) (ct) (wh) (fd) (fr)]) (by rw [List.append_nil]) ?_
        refine zw_lpick (lv' := [(0, .ref h), (1, .long (b)), (3, .int (zI (z))), (4, .int (zI (z - 1)))]) [1, 2, 3, 0] rfl ?_
        refine zw_widen (k' := 0) (n' := 0) (by omega) (by omega) ?_
        exact lp _ [] (z - 1) ⟨by omega, by show ((0 : Nat) : Int) = _; omega, by rw [show (z - 1 + 1).toNat = z.toNat by omega]; rfl⟩ (Nat.lt_succ_self _)
      · -- 21 -> 24
        exfalso; omega
    · -- 8 -> 11
      exfalso; omega
set_option maxHeartbeats 4000000 in
set_option maxRecDepth 100000 in
theorem c_MO_new (h : Nat) : zCT zy_MO_new zm_MO_new (9) (263029) [.ref h] [zObj h 6 [.null, .int (zI (0)), .int (zI (0)), .int (zI (0)), .null, .null, .null, .null, .int (zI (0)), .int (zI (0)), .int (zI (0)), .null, .null, .null, .int (zI (0)), .int (zI (0)), .int (zI (0)), .null]] (none) [zMA h ([]) ([]) ([]) (0)] := by
  refine zCT.of [(0, .ref h)] rfl (by decide) rfl (fun h => by first | rfl | cases h) (Nat.le_of_ble_eq_true rfl) (fun X hR => ?_)
  refine zw_aload_n 0 rfl zd_MO_new_0 ?_
  refine zw_objInit zl_MO_1 zoi_1 zoi_2 (Nat.le_of_ble_eq_true rfl) (Nat.le_of_ble_eq_true rfl) zd_MO_new_1 ?_
  refine zw_aload_n 0 rfl zd_MO_new_4 ?_
  refine zw_ldc zk_MO_7 65536 rfl zd_MO_new_5 ?_
  refine zw_newaB (N := 65536) (by first | rfl | omega) (by omega) zac_B (by omega) (by omega) zd_MO_new_7 (fun q7 => ?_)
  simp only [List.cons_append, List.nil_append]
  refine zw_putF (L' := [zObj h 6 [.ref q7, .int (zI (0)), .int (zI (0)), .int (zI (0)), .null, .null, .null, .null, .int (zI (0)), .int (zI (0)), .int (zI (0)), .null, .null, .null, .int (zI (0)), .int (zI (0)), .int (zI (0)), .null], zArB q7 (65536) (fun _ => 0)]) zc_MO 0 0 rfl (by decide) zf_MO_8 rfl rfl rfl rfl rfl (Nat.le_of_ble_eq_true rfl) rfl zd_MO_new_9 ?_
  refine zw_aload_n 0 rfl zd_MO_new_12 ?_
  refine zw_sipush rfl zd_MO_new_13 ?_
  refine zw_newaB (N := 16384) (by first | rfl | omega) (by omega) zac_B (by omega) (by omega) zd_MO_new_16 (fun q16 => ?_)
  simp only [List.cons_append, List.nil_append]
  refine zw_putF (L' := [zObj h 6 [.ref q7, .int (zI (0)), .int (zI (0)), .int (zI (0)), .ref q16, .null, .null, .null, .int (zI (0)), .int (zI (0)), .int (zI (0)), .null, .null, .null, .int (zI (0)), .int (zI (0)), .int (zI (0)), .null], zArB q7 (65536) (fun _ => 0), zArB q16 (16384) (fun _ => 0)]) zc_MO 0 4 rfl (by decide) zf_MO_14 rfl rfl rfl rfl rfl (Nat.le_of_ble_eq_true rfl) rfl zd_MO_new_18 ?_
  refine zw_aload_n 0 rfl zd_MO_new_21 ?_
  refine zw_sipush rfl zd_MO_new_22 ?_
  refine zw_newaI (N := 16384) (by first | rfl | omega) (by omega) zac_I (by omega) (by omega) zd_MO_new_25 (fun q25 => ?_)
  simp only [List.cons_append, List.nil_append]
  refine zw_putF (L' := [zObj h 6 [.ref q7, .int (zI (0)), .int (zI (0)), .int (zI (0)), .ref q16, .ref q25, .null, .null, .int (zI (0)), .int (zI (0)), .int (zI (0)), .null, .null, .null, .int (zI (0)), .int (zI (0)), .int (zI (0)), .null], zArB q7 (65536) (fun _ => 0), zArB q16 (16384) (fun _ => 0), zArI q25 (16384) (fun _ => 0)]) zc_MO 0 5 rfl (by decide) zf_MO_17 rfl rfl rfl rfl rfl (Nat.le_of_ble_eq_true rfl) rfl zd_MO_new_27 ?_
  refine zw_aload_n 0 rfl zd_MO_new_30 ?_
  refine zw_sipush rfl zd_MO_new_31 ?_
  refine zw_newaI (N := 16384) (by first | rfl | omega) (by omega) zac_I (by omega) (by omega) zd_MO_new_34 (fun q34 => ?_)
  simp only [List.cons_append, List.nil_append]
  refine zw_putF (L' := [zObj h 6 [.ref q7, .int (zI (0)), .int (zI (0)), .int (zI (0)), .ref q16, .ref q25, .ref q34, .null, .int (zI (0)), .int (zI (0)), .int (zI (0)), .null, .null, .null, .int (zI (0)), .int (zI (0)), .int (zI (0)), .null], zArB q7 (65536) (fun _ => 0), zArB q16 (16384) (fun _ => 0), zArI q25 (16384) (fun _ => 0), zArI q34 (16384) (fun _ => 0)]) zc_MO 0 6 rfl (by decide) zf_MO_21 rfl rfl rfl rfl rfl (Nat.le_of_ble_eq_true rfl) rfl zd_MO_new_36 ?_
  refine zw_aload_n 0 rfl zd_MO_new_39 ?_
  refine zw_bipush rfl zd_MO_new_40 ?_
  refine zw_newaI (N := 64) (by first | rfl | omega) (by omega) zac_I (by omega) (by omega) zd_MO_new_42 (fun q42 => ?_)
  simp only [List.cons_append, List.nil_append]
  refine zw_putF (L' := [zObj h 6 [.ref q7, .int (zI (0)), .int (zI (0)), .int (zI (0)), .ref q16, .ref q25, .ref q34, .ref q42, .int (zI (0)), .int (zI (0)), .int (zI (0)), .null, .null, .null, .int (zI (0)), .int (zI (0)), .int (zI (0)), .null], zArB q7 (65536) (fun _ => 0), zArB q16 (16384) (fun _ => 0), zArI q25 (16384) (fun _ => 0), zArI q34 (16384) (fun _ => 0), zArI q42 (64) (fun _ => 0)]) zc_MO 0 7 rfl (by decide) zf_MO_24 rfl rfl rfl rfl rfl (Nat.le_of_ble_eq_true rfl) rfl zd_MO_new_44 ?_
  refine zw_aload_n 0 rfl zd_MO_new_47 ?_
  refine zw_ldc zk_MO_27 131072 rfl zd_MO_new_48 ?_
  refine zw_newaB (N := 131072) (by first | rfl | omega) (by omega) zac_B (by omega) (by omega) zd_MO_new_50 (fun q50 => ?_)
  simp only [List.cons_append, List.nil_append]
  refine zw_putF (L' := [zObj h 6 [.ref q7, .int (zI (0)), .int (zI (0)), .int (zI (0)), .ref q16, .ref q25, .ref q34, .ref q42, .int (zI (0)), .int (zI (0)), .int (zI (0)), .ref q50, .null, .null, .int (zI (0)), .int (zI (0)), .int (zI (0)), .null], zArB q7 (65536) (fun _ => 0), zArB q16 (16384) (fun _ => 0), zArI q25 (16384) (fun _ => 0), zArI q34 (16384) (fun _ => 0), zArI q42 (64) (fun _ => 0), zArB q50 (131072) (fun _ => 0)]) zc_MO 0 11 rfl (by decide) zf_MO_28 rfl rfl rfl rfl rfl (Nat.le_of_ble_eq_true rfl) rfl zd_MO_new_52 ?_
  refine zw_aload_n 0 rfl zd_MO_new_55 ?_
  refine zw_sipush rfl zd_MO_new_56 ?_
  refine zw_newaI (N := 16385) (by first | rfl | omega) (by omega) zac_I (by omega) (by omega) zd_MO_new_59 (fun q59 => ?_)
  simp only [List.cons_append, List.nil_append]
  refine zw_putF (L' := [zObj h 6 [.ref q7, .int (zI (0)), .int (zI (0)), .int (zI (0)), .ref q16, .ref q25, .ref q34, .ref q42, .int (zI (0)), .int (zI (0)), .int (zI (0)), .ref q50, .ref q59, .null, .int (zI (0)), .int (zI (0)), .int (zI (0)), .null], zArB q7 (65536) (fun _ => 0), zArB q16 (16384) (fun _ => 0), zArI q25 (16384) (fun _ => 0), zArI q34 (16384) (fun _ => 0), zArI q42 (64) (fun _ => 0), zArB q50 (131072) (fun _ => 0), zArI q59 (16385) (fun _ => 0)]) zc_MO 0 12 rfl (by decide) zf_MO_31 rfl rfl rfl rfl rfl (Nat.le_of_ble_eq_true rfl) rfl zd_MO_new_61 ?_
  refine zw_aload_n 0 rfl zd_MO_new_64 ?_
  refine zw_sipush rfl zd_MO_new_65 ?_
  refine zw_newaB (N := 400) (by first | rfl | omega) (by omega) zac_B (by omega) (by omega) zd_MO_new_68 (fun q68 => ?_)
  simp only [List.cons_append, List.nil_append]
  refine zw_putF (L' := [zObj h 6 [.ref q7, .int (zI (0)), .int (zI (0)), .int (zI (0)), .ref q16, .ref q25, .ref q34, .ref q42, .int (zI (0)), .int (zI (0)), .int (zI (0)), .ref q50, .ref q59, .ref q68, .int (zI (0)), .int (zI (0)), .int (zI (0)), .null], zArB q7 (65536) (fun _ => 0), zArB q16 (16384) (fun _ => 0), zArI q25 (16384) (fun _ => 0), zArI q34 (16384) (fun _ => 0), zArI q42 (64) (fun _ => 0), zArB q50 (131072) (fun _ => 0), zArI q59 (16385) (fun _ => 0), zArB q68 (400) (fun _ => 0)]) zc_MO 0 13 rfl (by decide) zf_MO_34 rfl rfl rfl rfl rfl (Nat.le_of_ble_eq_true rfl) rfl zd_MO_new_70 ?_
  refine zw_aload_n 0 rfl zd_MO_new_73 ?_
  refine zw_sipush rfl zd_MO_new_74 ?_
  refine zw_newaB (N := 420) (by first | rfl | omega) (by omega) zac_B (by omega) (by omega) zd_MO_new_77 (fun q77 => ?_)
  simp only [List.cons_append, List.nil_append]
  refine zw_putF (L' := [zObj h 6 [.ref q7, .int (zI (0)), .int (zI (0)), .int (zI (0)), .ref q16, .ref q25, .ref q34, .ref q42, .int (zI (0)), .int (zI (0)), .int (zI (0)), .ref q50, .ref q59, .ref q68, .int (zI (0)), .int (zI (0)), .int (zI (0)), .ref q77], zArB q7 (65536) (fun _ => 0), zArB q16 (16384) (fun _ => 0), zArI q25 (16384) (fun _ => 0), zArI q34 (16384) (fun _ => 0), zArI q42 (64) (fun _ => 0), zArB q50 (131072) (fun _ => 0), zArI q59 (16385) (fun _ => 0), zArB q68 (400) (fun _ => 0), zArB q77 (420) (fun _ => 0)]) zc_MO 0 17 rfl (by decide) zf_MO_37 rfl rfl rfl rfl rfl (Nat.le_of_ble_eq_true rfl) rfl zd_MO_new_79 ?_
  refine zw_pack (at0 := zMOd h ([]) ([]) ([]) ([]) ([]) (0) (0) (0) (0) ((fun _ => 0)) ((fun _ => 0))) (Ls := [zObj h 6 [.ref q7, .int (zI (0)), .int (zI (0)), .int (zI (0)), .ref q16, .ref q25, .ref q34, .ref q42, .int (zI (0)), .int (zI (0)), .int (zI (0)), .ref q50, .ref q59, .ref q68, .int (zI (0)), .int (zI (0)), .int (zI (0)), .ref q77], zArB q7 (65536) (fun _ => 0), zArB q16 (16384) (fun _ => 0), zArI q25 (16384) (fun _ => 0), zArI q34 (16384) (fun _ => 0), zArI q42 (64) (fun _ => 0), zArB q50 (131072) (fun _ => 0), zArI q59 (16385) (fun _ => 0), zArB q68 (400) (fun _ => 0), zArB q77 (420) (fun _ => 0)]) (L2 := []) rfl (fun G w h => ⟨((q7, q16, q25, q34, q42, q50, q59, q68, q77), (fun _ => 0), (fun _ => 0), (fun _ => 0), (fun _ => 0), (fun _ => 0), (fun _ => 0), (fun _ => 0)), ⟨⟨Nat.zero_le _, fun _ h => (by cases h), fun _ => rfl, fun _ h => absurd h (Nat.not_lt_zero _)⟩, ⟨Nat.zero_le _, fun _ => rfl, fun _ h => absurd h (Nat.not_lt_zero _)⟩, ⟨Nat.zero_le _, Nat.zero_le _, fun _ h => (by cases h), fun _ => rfl, fun _ h => absurd h (Nat.not_lt_zero _), fun i hi => (by rw [Nat.le_zero.mp hi]; rfl)⟩, mopen_nil _, ⟨fun _ => rfl, fun _ => rfl⟩⟩, h⟩) ?_
  refine zw_pack (at0 := zMA h ([]) ([]) ([]) (0)) (Ls := [zMOd h ([]) ([]) ([]) ([]) ([]) (0) (0) (0) (0) ((fun _ => 0)) ((fun _ => 0))]) (L2 := []) rfl (fun G w h => ⟨([], 0, 0, 0, (fun _ => 0), (fun _ => 0)), trivial, h⟩) ?_
  exact zw_vret hR rfl rfl rfl (by omega) (by omega) zd_MO_new_82
