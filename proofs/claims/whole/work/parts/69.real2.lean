theorem mFr_rg {ds : List Int} (h : ∀ x ∈ ds, 0 ≤ x ∧ x ≤ 9) (wh : Int) (j : Nat) : 0 ≤ mFr ds wh j ∧ mFr ds wh j ≤ 9 := by
  unfold mFr
  split
  · exact ⟨Int.le_refl 0, by decide⟩
  · exact zdg_rg h _
set_option maxHeartbeats 4000000 in
set_option maxRecDepth 100000 in
theorem c_MO_real_ok (h : Nat) (t : List Int) (ws : List (Int32 × Int32 × Int32)) (ts : List (List Int)) (op : List Int) (y r ct wh : Int) (fd fr : Nat → Int32) (z : Int) (hz : 0 ≤ z ∧ z ≤ t.length) (f q : Int) (hf : 0 ≤ f ∧ f ≤ q ∧ q ≤ t.length ∧ q - f ≤ 127) (hEq : frE t (scanE sDig t f) ≤ q) (hx : frE t (scanE sDig t f) = q ∨ expP t (frE t (scanE sDig t f)) q) (hw : ws.length < 16384) (hft : realF (rdN t z) (plS t f (frE t (scanE sDig t f)) (scanE sDig t f - f - 1 + rdX t (frE t (scanE sDig t f)) q, 0, (fun _ => 0), 1)) = 1) : zCT zy_MO_real zm_MO_real (0) (0) [.ref h, .int (zI z), .int (zI f), .int (zI q)] [zMOd h (t) (ws) (ts) ([]) (op) (y) (r) (ct) (wh) (fd) (fr)] (some (.int (zI q))) [zMOy h (t) (ws ++ [(zI 2, zI (wholeV (rdN t z) (realSum (rdN t z) (plS t f (frE t (scanE sDig t f)) (scanE sDig t f - f - 1 + rdX t (frE t (scanE sDig t f)) q, 0, (fun _ => 0), 1)))), zI z)]) (ts) (op) (y) (r)] := by
  refine zCT.of [(0, .ref h), (1, .int (zI (z))), (2, .int (zI (f))), (3, .int (zI (q)))] rfl (by decide) rfl (fun h => by first | rfl | cases h) (Nat.le_of_ble_eq_true rfl) (fun X hR => ?_)
  refine zw_unp (fun G ws h => h) (fun x0 hx0 => ?_)
  obtain ⟨⟨at_, ak, an, ab, aw, ay, af, ad, ar⟩, ft, fk, fn, fb, fo, fy, ff⟩ := x0
  obtain ⟨m1, m2, m3, m4, m5⟩ := hx0
  simp only [List.cons_append, List.nil_append]
  dsimp only at m1 m2 m3 m4 m5
  obtain ⟨t1, t2, t3, t4⟩ := id m1
  obtain ⟨w1, w2, w3⟩ := id m2
  obtain ⟨s1, s2, s3, s4, s5, s6⟩ := id m3
  obtain ⟨o1, o2⟩ := id m4
  obtain ⟨d1, d2⟩ := id m5
  obtain ⟨f1, f2, f3, f4, f5⟩ := rd_facts (t := t) (f := f) (by omega)
  obtain ⟨ds, hds⟩ : ∃ ds, dsL (slc t f (frE t (scanE sDig t f))) = ds := ⟨_, rfl⟩
  obtain ⟨wv, hwv⟩ : ∃ wv, scanE sDig t f - f + mE t (frE t (scanE sDig t f)) q = wv := ⟨_, rfl⟩
  have hP : plS t f (frE t (scanE sDig t f)) (scanE sDig t f - f - 1 + rdX t (frE t (scanE sDig t f)) q, 0, (fun _ => 0), 1) = plN ds (scanE sDig t f - f - 1 + rdX t (frE t (scanE sDig t f)) q) ds.length := by unfold plS; rw [dsL_fold, hds, ← plN_all]
  rw [hP] at hft
  have hdr : ∀ x ∈ ds, 0 ≤ x ∧ x ≤ 9 := by
    rw [← hds]
    refine dsL_rg (fun c hc => ?_)
    obtain ⟨j, k1, k2, k3, rfl⟩ := slc_mem (by omega) hc
    rcases (show j < scanE sDig t f ∨ j = scanE sDig t f ∨ scanE sDig t f < j by omega) with c | c | c
    · exact Or.inr (f3 j k1 c)
    · exact Or.inl (by rw [c]; exact f4 (by omega))
    · exact Or.inr (f5 j c k2)
  have hN : ds.length ≤ 127 := by
    rw [← hds]
    have d1 := dsL_len (slc t f (frE t (scanE sDig t f)))
    have d2 := slc_len (t := t) (a := f) (b := frE t (scanE sDig t f)) (by omega) (by omega) (by omega)
    omega
  obtain ⟨mx1, mx2⟩ := mE_X (t := t) (E := frE t (scanE sDig t f)) (q := q) (by omega) hx
  have rn := rdN_rg t z
  have hdg := zdg_rg hdr
  have p6 : p10 6 = 1000000 := by decide
  have hS0 : 0 ≤ scanE sDig t f - f ∧ scanE sDig t f - f ≤ 127 := by omega
  refine zw_aload_n 0 rfl zd_MO_real_0 ?_
  refine zw_iload_n 2 rfl zd_MO_real_1 ?_
  refine zw_iload_n 3 rfl zd_MO_real_2 ?_
  refine zw_callV (As := [.int (zI (f)), .int (zI (q))]) (rest := []) (L2 := [zArB ak (16384) (fk), zArI an (16384) (fn), zArI ab (16384) (fb), zArI aw (64) (fo), zArB ay (131072) (fy), zArI af (16385) (ff), zArB ar (420) (fr)]) (L' := [zObj h 6 [.ref at_, .int (zI (((t.length : Nat) : Int))), .int (zI (r)), .int (zI (((ws.length : Nat) : Int))), .ref ak, .ref an, .ref ab, .ref aw, .int (zI (((op.length : Nat) : Int))), .int (zI (((ts.length : Nat) : Int))), .int (zI (((((ts.flatten ++ ([]))).length : Nat) : Int))), .ref ay, .ref af, .ref ad, .int (zI (((ds.length : Nat) : Int))), .int (zI (wv)), .int (zI (y)), .ref ar], zArB at_ (65536) (ft), zDq ad (ds), zArB ak (16384) (fk), zArI an (16384) (fn), zArI ab (16384) (fb), zArI aw (64) (fo), zArB ay (131072) (fy), zArI af (16385) (ff), zArB ar (420) (fr)]) (stk' := []) (c_MO_read h at_ ak an ab aw ay af ad ar r (((ws.length : Nat) : Int)) (((op.length : Nat) : Int)) (((ts.length : Nat) : Int)) (((((ts.flatten ++ ([]))).length : Nat) : Int)) ct wh y t ft fd m1 d1 f q (by omega) hEq hx ds hds wv hwv) [0, 1, 8] [2, 3, 4, 5, 6, 7, 9] rfl rfl rfl zcal_MO_read zl_MO_132 zin_MO_read zse_MO_read 0 rfl zRv_obj rfl (Nat.le_of_ble_eq_true rfl) (Nat.le_of_ble_eq_true rfl) (by omega) (by omega) rfl (Nat.le_of_ble_eq_true rfl) rfl rfl zd_MO_real_3 ?_
  refine zw_sub (L' := [zDq ad (ds), zObj h 6 [.ref at_, .int (zI (((t.length : Nat) : Int))), .int (zI (r)), .int (zI (((ws.length : Nat) : Int))), .ref ak, .ref an, .ref ab, .ref aw, .int (zI (((op.length : Nat) : Int))), .int (zI (((ts.length : Nat) : Int))), .int (zI (((((ts.flatten ++ ([]))).length : Nat) : Int))), .ref ay, .ref af, .ref ad, .int (zI (((ds.length : Nat) : Int))), .int (zI (wv)), .int (zI (y)), .ref ar], zArB at_ (65536) (ft), zArB ak (16384) (fk), zArI an (16384) (fn), zArI ab (16384) (fb), zArI aw (64) (fo), zArB ay (131072) (fy), zArI af (16385) (ff), zArB ar (420) (fr)]) [2, 0, 1, 3, 4, 5, 6, 7, 8, 9] rfl rfl ?_
  refine zw_unp (fun G ws h => h) (fun gd hq_ => ?_)
  obtain ⟨hd1, hd2⟩ := hq_
  simp only [List.cons_append, List.nil_append]
  refine zw_sub (L' := [zObj h 6 [.ref at_, .int (zI (((t.length : Nat) : Int))), .int (zI (r)), .int (zI (((ws.length : Nat) : Int))), .ref ak, .ref an, .ref ab, .ref aw, .int (zI (((op.length : Nat) : Int))), .int (zI (((ts.length : Nat) : Int))), .int (zI (((((ts.flatten ++ ([]))).length : Nat) : Int))), .ref ay, .ref af, .ref ad, .int (zI (((ds.length : Nat) : Int))), .int (zI (wv)), .int (zI (y)), .ref ar], zArB at_ (65536) (ft), zArB ak (16384) (fk), zArI an (16384) (fn), zArI ab (16384) (fb), zArI aw (64) (fo), zArB ay (131072) (fy), zArI af (16385) (ff), zArB ad (400) (gd), zArB ar (420) (fr)]) [1, 2, 3, 4, 5, 6, 7, 8, 0, 9] rfl rfl ?_
  have jn : ∀ (x : Int), (0 ≤ x ∧ x ≤ ds.length) → (∀ j, j < x.toNat → zdg ds j = 0) → (x = ds.length ∨ (x < ds.length ∧ zdg ds x.toNat ≠ 0)) → zZ X zm_MO_real (0) (0) (0) (0) [zObj h 6 [.ref at_, .int (zI (((t.length : Nat) : Int))), .int (zI (r)), .int (zI (((ws.length : Nat) : Int))), .ref ak, .ref an, .ref ab, .ref aw, .int (zI (((op.length : Nat) : Int))), .int (zI (((ts.length : Nat) : Int))), .int (zI (((((ts.flatten ++ ([]))).length : Nat) : Int))), .ref ay, .ref af, .ref ad, .int (zI (((ds.length : Nat) : Int))), .int (zI (wv)), .int (zI (y)), .ref ar], zArB at_ (65536) (ft), zArB ak (16384) (fk), zArI an (16384) (fn), zArI ab (16384) (fb), zArI aw (64) (fo), zArB ay (131072) (fy), zArI af (16385) (ff), zArB ad (400) (gd), zArB ar (420) (fr)] 51 [(0, .ref h), (1, .int (zI (z))), (2, .int (zI (f))), (3, .int (zI (q))), (4, .int (zI (rdN t z))), (5, .int (zI (x)))] [] := by
    intro x j0 j1 j2
    refine zw_iload 5 rfl zd_MO_real_51 ?_
    refine zw_aload_n 0 rfl zd_MO_real_53 ?_
    refine zw_get zc_MO 0 14 rfl (by decide) zf_MO_136 rfl zd_MO_real_54 ?_
    refine zw_icmp_eq 72 (by omega) (by omega) zd_MO_real_57 (by decide) (fun c57 => ?_) (fun c57 => ?_)
    · -- 57 -> 72
      refine zw_pack (at0 := zMOd h (t) (ws) (ts) ([]) (op) (y) (r) (((ds.length : Nat) : Int)) (wv) (gd) (fr)) (Ls := [zObj h 6 [.ref at_, .int (zI (((t.length : Nat) : Int))), .int (zI (r)), .int (zI (((ws.length : Nat) : Int))), .ref ak, .ref an, .ref ab, .ref aw, .int (zI (((op.length : Nat) : Int))), .int (zI (((ts.length : Nat) : Int))), .int (zI (((((ts.flatten ++ ([]))).length : Nat) : Int))), .ref ay, .ref af, .ref ad, .int (zI (((ds.length : Nat) : Int))), .int (zI (wv)), .int (zI (y)), .ref ar], zArB at_ (65536) (ft), zArB ak (16384) (fk), zArI an (16384) (fn), zArI ab (16384) (fb), zArI aw (64) (fo), zArB ay (131072) (fy), zArI af (16385) (ff), zArB ad (400) (gd), zArB ar (420) (fr)]) (L2 := []) rfl (fun G w h => ⟨((at_, ak, an, ab, aw, ay, af, ad, ar), ft, fk, fn, fb, fo, fy, ff), ⟨m1, m2, m3, m4, ⟨hd2, d2⟩⟩, h⟩) ?_
      refine zw_aload_n 0 rfl zd_MO_real_72 ?_
      refine zw_iconst zd_MO_real_73 ?_
      refine zw_iconst zd_MO_real_74 ?_
      refine zw_iload_n 1 rfl zd_MO_real_75 ?_
      refine zw_callV (As := [.int (zI (2)), .int (zI (0)), .int (zI (z))]) (rest := []) (L2 := []) (L' := [zMOd h (t) (ws ++ [(zI 2, (zI (0)), (zI (z)))]) (ts) ([]) (op) (y) (r) (((ds.length : Nat) : Int)) (wv) (gd) (fr)]) (stk' := []) (c_MO_word h t ws ts ([]) op y r (((ds.length : Nat) : Int)) wv gd fr 2 (zI (0)) (zI (z)) (by omega) (by omega)) [0] [] rfl rfl rfl zcal_MO_word zl_MO_110 zin_MO_word zse_MO_word 0 rfl zRv_MOd rfl (Nat.le_of_ble_eq_true rfl) (Nat.le_of_ble_eq_true rfl) (by omega) (by omega) rfl (Nat.le_of_ble_eq_true rfl) rfl rfl zd_MO_real_76 ?_
      refine zw_iload_n 3 rfl zd_MO_real_79 ?_
      have lo := real_low (ng := rdN t z) (P0 := scanE sDig t f - f - 1 + rdX t (frE t (scanE sDig t f)) q) hdr (fun i hi hne => by
        have : ¬ i < x.toNat := fun c => hne (j1 i c)
        omega)
      have e9 : wholeV (rdN t z) (realSum (rdN t z) (plN ds (scanE sDig t f - f - 1 + rdX t (frE t (scanE sDig t f)) q) ds.length)) = 0 := by rw [lo.2]; unfold wholeV; split <;> rfl
      refine zw_pack (at0 := zMOy h (t) (ws ++ [(zI 2, (zI (0)), (zI (z)))]) (ts) (op) (y) (r)) (Ls := [zMOd h (t) (ws ++ [(zI 2, (zI (0)), (zI (z)))]) (ts) ([]) (op) (y) (r) (((ds.length : Nat) : Int)) (wv) (gd) (fr)]) (L2 := []) rfl (fun G w h => ⟨([], ((ds.length : Nat) : Int), wv, gd, fr), fun _ => rfl, h⟩) ?_
      exact zw_iret hR rfl (by first | rw [hP, e9] | rw [hP, hP0, e9]) rfl (by omega) (by omega) zd_MO_real_80
    · -- 57 -> 60
      refine zw_aload_n 0 rfl zd_MO_real_60 ?_
      refine zw_get zc_MO 0 15 rfl (by decide) zf_MO_139 rfl zd_MO_real_61 ?_
      refine zw_iload 5 rfl zd_MO_real_64 ?_
      refine zw_isub zd_MO_real_66 ?_
      refine zw_bipush rfl zd_MO_real_67 ?_
      refine zw_icmp_ge 81 (by omega) (by omega) zd_MO_real_69 (by decide) (fun c69 => ?_) (fun c69 => ?_)
      · -- 69 -> 81
        refine zw_aload_n 0 rfl zd_MO_real_81 ?_
        refine zw_get zc_MO 0 15 rfl (by decide) zf_MO_139 rfl zd_MO_real_82 ?_
        refine zw_iload 5 rfl zd_MO_real_85 ?_
        refine zw_isub zd_MO_real_87 ?_
        refine zw_bipush rfl zd_MO_real_88 ?_
        refine zw_icmp_le 100 (by omega) (by omega) zd_MO_real_90 (by decide) (fun c90 => ?_) (fun c90 => ?_)
        · -- 90 -> 100
          refine zw_lconst (a := 0) rfl zd_MO_real_100 ?_
          refine zw_lstore (lv' := [(6, .long (zJ (0))), (0, .ref h), (1, .int (zI (z))), (2, .int (zI (f))), (3, .int (zI (q))), (4, .int (zI (rdN t z))), (5, .int (zI (x)))]) (Nat.le_of_ble_eq_true rfl) rfl zd_MO_real_101 ?_
          refine zw_iconst zd_MO_real_103 ?_
          refine zw_istore (lv' := [(8, .int (zI (0))), (6, .long (zJ (0))), (0, .ref h), (1, .int (zI (z))), (2, .int (zI (f))), (3, .int (zI (q))), (4, .int (zI (rdN t z))), (5, .int (zI (x)))]) (Nat.le_of_ble_eq_true rfl) rfl zd_MO_real_104 ?_
          have hne : zdg ds x.toNat ≠ 0 := by
            rcases j2 with c | c
            · omega
            · exact c.2
          have hP0 : scanE sDig t f - f - 1 + rdX t (frE t (scanE sDig t f)) q = wv - 1 := by omega
          rw [hP0] at hft
          have hn0 : mFn ds wv = (-wv).toNat + (ds.length - wv.toNat) := rfl
          have vb := fv_rg (d := zdg ds) (n := wv.toNat) (fun j _ => hdg j)
          have vl := fv_lt (d := zdg ds) (f := x.toNat) (n := wv.toNat) (fun j _ => hdg j) (fun j hj _ => j1 j hj)
          have vm := p10_mono (a := wv.toNat - x.toNat) (b := 6) (by omega)
          have jb : ∀ (u a zz n : Int), (u = 65536 * fv (zdg ds) wv.toNat ∧ a = (wv.toNat : Int) ∧ zz = ((-wv).toNat : Int) ∧ n = ((mFn ds wv : Nat) : Int)) → zZ X zm_MO_real (0) (0) (0) (0) [zObj h 6 [.ref at_, .int (zI (((t.length : Nat) : Int))), .int (zI (r)), .int (zI (((ws.length : Nat) : Int))), .ref ak, .ref an, .ref ab, .ref aw, .int (zI (((op.length : Nat) : Int))), .int (zI (((ts.length : Nat) : Int))), .int (zI (((((ts.flatten ++ ([]))).length : Nat) : Int))), .ref ay, .ref af, .ref ad, .int (zI (((ds.length : Nat) : Int))), .int (zI (wv)), .int (zI (y)), .ref ar], zArB at_ (65536) (ft), zArB ak (16384) (fk), zArI an (16384) (fn), zArI ab (16384) (fb), zArI aw (64) (fo), zArB ay (131072) (fy), zArI af (16385) (ff), zArB ad (400) (gd), zArB ar (420) (fr)] 219 [(0, .ref h), (1, .int (zI (z))), (2, .int (zI (f))), (3, .int (zI (q))), (4, .int (zI (rdN t z))), (6, .long (zJ (u))), (8, .int (zI (a))), (9, .int (zI (zz))), (10, .int (zI (n)))] [] := by
            intro u a zz n jx0
            obtain ⟨hu, ha, hzz, hn⟩ := jx0
            subst hn
            have lpc : ∀ (fuel : Nat) (f2 : Nat → Int32) (k : Int), ((0 ≤ k ∧ k ≤ ((mFn ds wv : Nat) : Int)) ∧ (∀ j, j < k.toNat → f2 j = zI (mFr ds wv j)) ∧ ∀ j, fits .byte (.int (f2 j)) = true) → (((mFn ds wv : Nat) : Int) - k).toNat < fuel → zZ X zm_MO_real (0) (0) (0) (0) [zObj h 6 [.ref at_, .int (zI (((t.length : Nat) : Int))), .int (zI (r)), .int (zI (((ws.length : Nat) : Int))), .ref ak, .ref an, .ref ab, .ref aw, .int (zI (((op.length : Nat) : Int))), .int (zI (((ts.length : Nat) : Int))), .int (zI (((((ts.flatten ++ ([]))).length : Nat) : Int))), .ref ay, .ref af, .ref ad, .int (zI (((ds.length : Nat) : Int))), .int (zI (wv)), .int (zI (y)), .ref ar], zArB at_ (65536) (ft), zArB ak (16384) (fk), zArI an (16384) (fn), zArI ab (16384) (fb), zArI aw (64) (fo), zArB ay (131072) (fy), zArI af (16385) (ff), zArB ad (400) (gd), zArB ar (420) (f2)] 222 [(0, .ref h), (1, .int (zI (z))), (2, .int (zI (f))), (3, .int (zI (q))), (4, .int (zI (rdN t z))), (6, .long (zJ (u))), (8, .int (zI (a))), (9, .int (zI (zz))), (10, .int (zI (((mFn ds wv : Nat) : Int)))), (11, .int (zI (k)))] [] := by
              intro fuel
              induction fuel with
              | zero => intro f2 k g0 hm; exact absurd hm (Nat.not_lt_zero _)
              | succ fuel ih =>
                intro f2 k g0 hm
                obtain ⟨g1, g2, g3⟩ := g0
                refine zw_iload 9 rfl zd_MO_real_222 ?_
                refine zw_iload 8 rfl zd_MO_real_224 ?_
                refine zw_icmp_ge 266 (by omega) (by omega) zd_MO_real_226 (by decide) (fun c226 => ?_) (fun c226 => ?_)
                · -- 226 -> 266
                  refine zw_sub (L' := [zArB ar (420) (f2), zObj h 6 [.ref at_, .int (zI (((t.length : Nat) : Int))), .int (zI (r)), .int (zI (((ws.length : Nat) : Int))), .ref ak, .ref an, .ref ab, .ref aw, .int (zI (((op.length : Nat) : Int))), .int (zI (((ts.length : Nat) : Int))), .int (zI (((((ts.flatten ++ ([]))).length : Nat) : Int))), .ref ay, .ref af, .ref ad, .int (zI (((ds.length : Nat) : Int))), .int (zI (wv)), .int (zI (y)), .ref ar], zArB at_ (65536) (ft), zArB ak (16384) (fk), zArI an (16384) (fn), zArI ab (16384) (fb), zArI aw (64) (fo), zArB ay (131072) (fy), zArI af (16385) (ff), zArB ad (400) (gd)]) [9, 0, 1, 2, 3, 4, 5, 6, 7, 8] rfl rfl ?_
                  refine zw_pack (at0 := zFq ar (mFn ds wv) (mFr ds wv)) (Ls := [zArB ar (420) (f2)]) (L2 := [zObj h 6 [.ref at_, .int (zI (((t.length : Nat) : Int))), .int (zI (r)), .int (zI (((ws.length : Nat) : Int))), .ref ak, .ref an, .ref ab, .ref aw, .int (zI (((op.length : Nat) : Int))), .int (zI (((ts.length : Nat) : Int))), .int (zI (((((ts.flatten ++ ([]))).length : Nat) : Int))), .ref ay, .ref af, .ref ad, .int (zI (((ds.length : Nat) : Int))), .int (zI (wv)), .int (zI (y)), .ref ar], zArB at_ (65536) (ft), zArB ak (16384) (fk), zArI an (16384) (fn), zArI ab (16384) (fb), zArI aw (64) (fo), zArB ay (131072) (fy), zArI af (16385) (ff), zArB ad (400) (gd)]) rfl (fun G w h => ⟨f2, ⟨⟨fun j hj => g2 j (by omega), fun j _ => mFr_rg hdr wv j⟩, g3⟩, h⟩) ?_
                  have lpd : ∀ (fuel : Nat) (d : Nat → Int) (b : Int) (i : Int), (((0 ≤ i ∧ i ≤ 17) ∧ (0 ≤ b ∧ b < p2 i.toNat)) ∧ (∀ j, j < mFn ds wv → 0 ≤ d j ∧ d j ≤ 9) ∧ b * p10 (mFn ds wv) + fv d (mFn ds wv) = p2 i.toNat * fv (mFr ds wv) (mFn ds wv)) → (17 - i).toNat < fuel → zZ X zm_MO_real (0) (0) (0) (0) [zFq ar (mFn ds wv) (d), zObj h 6 [.ref at_, .int (zI (((t.length : Nat) : Int))), .int (zI (r)), .int (zI (((ws.length : Nat) : Int))), .ref ak, .ref an, .ref ab, .ref aw, .int (zI (((op.length : Nat) : Int))), .int (zI (((ts.length : Nat) : Int))), .int (zI (((((ts.flatten ++ ([]))).length : Nat) : Int))), .ref ay, .ref af, .ref ad, .int (zI (((ds.length : Nat) : Int))), .int (zI (wv)), .int (zI (y)), .ref ar], zArB at_ (65536) (ft), zArB ak (16384) (fk), zArI an (16384) (fn), zArI ab (16384) (fb), zArI aw (64) (fo), zArB ay (131072) (fy), zArI af (16385) (ff), zArB ad (400) (gd)] 272 [(0, .ref h), (1, .int (zI (z))), (2, .int (zI (f))), (3, .int (zI (q))), (4, .int (zI (rdN t z))), (6, .long (zJ (u))), (8, .int (zI (a))), (9, .int (zI (zz))), (10, .int (zI (((mFn ds wv : Nat) : Int)))), (11, .long (zJ (b))), (13, .int (zI (i)))] [] := by
                    intro fuel
                    induction fuel with
                    | zero => intro d b i g0 hm; exact absurd hm (Nat.not_lt_zero _)
                    | succ fuel ih =>
                      intro d b i g0 hm
                      obtain ⟨⟨u1, u2⟩, u3, u4⟩ := g0
                      have p17 := p2_le i.toNat (by omega)
                      refine zw_iload 10 rfl zd_MO_real_272 ?_
                      refine zw_bipush rfl zd_MO_real_274 ?_
                      refine zw_icmp_ge 301 (by omega) (by omega) zd_MO_real_276 (by decide) (fun c276 => ?_) (fun c276 => ?_)
                      · -- 276 -> 301
                        have e17 : p2 i.toNat = 131072 := by rw [show i.toNat = 17 by omega]; rfl
                        rw [e17] at u4 u2
                        have fR := fv_rg u3
                        have rb := rnd_bits (ng := rdN t z) (W := fv (zdg ds) wv.toNat) (p10_pos (mFn ds wv)) u4.symm fR
                        refine zw_unp (fun G ws h => h) (fun f4 hq_ => ?_)
                        obtain ⟨⟨hq1, hq2⟩, hq3⟩ := hq_
                        simp only [List.cons_append, List.nil_append]
                        refine zw_sub (L' := [zObj h 6 [.ref at_, .int (zI (((t.length : Nat) : Int))), .int (zI (r)), .int (zI (((ws.length : Nat) : Int))), .ref ak, .ref an, .ref ab, .ref aw, .int (zI (((op.length : Nat) : Int))), .int (zI (((ts.length : Nat) : Int))), .int (zI (((((ts.flatten ++ ([]))).length : Nat) : Int))), .ref ay, .ref af, .ref ad, .int (zI (((ds.length : Nat) : Int))), .int (zI (wv)), .int (zI (y)), .ref ar], zArB at_ (65536) (ft), zArB ak (16384) (fk), zArI an (16384) (fn), zArI ab (16384) (fb), zArI aw (64) (fo), zArB ay (131072) (fy), zArI af (16385) (ff), zArB ad (400) (gd), zArB ar (420) (f4)]) [1, 2, 3, 4, 5, 6, 7, 8, 9, 0] rfl rfl ?_
                        have je : ∀ (e : Int), ((e = 1 ∧ b % 2 = 1 ∧ (rdN t z = 0 ∨ fv d (mFn ds wv) ≠ 0)) ∨ (e = 0 ∧ ¬ (b % 2 = 1 ∧ (rdN t z = 0 ∨ fv d (mFn ds wv) ≠ 0)))) → zZ X zm_MO_real (0) (0) (0) (0) [zObj h 6 [.ref at_, .int (zI (((t.length : Nat) : Int))), .int (zI (r)), .int (zI (((ws.length : Nat) : Int))), .ref ak, .ref an, .ref ab, .ref aw, .int (zI (((op.length : Nat) : Int))), .int (zI (((ts.length : Nat) : Int))), .int (zI (((((ts.flatten ++ ([]))).length : Nat) : Int))), .ref ay, .ref af, .ref ad, .int (zI (((ds.length : Nat) : Int))), .int (zI (wv)), .int (zI (y)), .ref ar], zArB at_ (65536) (ft), zArB ak (16384) (fk), zArI an (16384) (fn), zArI ab (16384) (fb), zArI aw (64) (fo), zArB ay (131072) (fy), zArI af (16385) (ff), zArB ad (400) (gd), zArB ar (420) (f4)] 374 [(0, .ref h), (1, .int (zI (z))), (3, .int (zI (q))), (4, .int (zI (rdN t z))), (6, .long (zJ (u))), (11, .long (zJ (b))), (16, .int (zI (e)))] [] := by
                          intro e j0
                          refine zw_lload 4 rfl zd_MO_real_374 ?_
                          refine zw_lload 5 rfl zd_MO_real_376 ?_
                          refine zw_ldc2 zk_MO_144 2 rfl zd_MO_real_378 ?_
                          refine zw_ldiv (by omega) (by omega) zd_MO_real_381 ?_
                          refine zw_iload 6 rfl zd_MO_real_382 ?_
                          refine zw_if_eq 391 (by omega) zd_MO_real_384 (by decide) (fun c384 => ?_) (fun c384 => ?_)
                          · -- 384 -> 391
                            refine zw_lconst (a := 0) rfl zd_MO_real_391 ?_
                            refine zw_ladd zd_MO_real_392 ?_
                            refine zw_ladd zd_MO_real_393 ?_
                            refine zw_lstore (lv' := [(6, .long (zJ (u + ((b / 2) + 0)))), (0, .ref h), (1, .int (zI (z))), (3, .int (zI (q))), (4, .int (zI (rdN t z))), (11, .long (zJ (b))), (16, .int (zI (e)))]) (Nat.le_of_ble_eq_true rfl) rfl zd_MO_real_394 ?_
                            have mid := real_mid (ng := rdN t z) (wh := wv) (f := x.toNat) (U := u + ((b / 2) + 0)) hdr (by omega) j1 hne hN (by omega) (by rw [rb]; first | (rw [if_pos (by omega)]; omega) | (rw [if_neg (by omega)]; omega)) (by omega)
                            refine zw_lload 0 rfl zd_MO_real_396 ?_
                            refine zw_ldc2 zk_MO_120 2147483647 rfl zd_MO_real_398 ?_
                            refine zw_lcmpR zd_MO_real_401 ?_
                            refine zw_lif_le 412 (by omega) (by omega) zd_MO_real_402 (by decide) (fun c402 => ?_) (fun c402 => ?_)
                            · -- 402 -> 412
                              refine zw_pack (at0 := zMOd h (t) (ws) (ts) ([]) (op) (y) (r) (((ds.length : Nat) : Int)) (wv) (gd) (f4)) (Ls := [zObj h 6 [.ref at_, .int (zI (((t.length : Nat) : Int))), .int (zI (r)), .int (zI (((ws.length : Nat) : Int))), .ref ak, .ref an, .ref ab, .ref aw, .int (zI (((op.length : Nat) : Int))), .int (zI (((ts.length : Nat) : Int))), .int (zI (((((ts.flatten ++ ([]))).length : Nat) : Int))), .ref ay, .ref af, .ref ad, .int (zI (((ds.length : Nat) : Int))), .int (zI (wv)), .int (zI (y)), .ref ar], zArB at_ (65536) (ft), zArB ak (16384) (fk), zArI an (16384) (fn), zArI ab (16384) (fb), zArI aw (64) (fo), zArB ay (131072) (fy), zArI af (16385) (ff), zArB ad (400) (gd), zArB ar (420) (f4)]) (L2 := []) rfl (fun G w h => ⟨((at_, ak, an, ab, aw, ay, af, ad, ar), ft, fk, fn, fb, fo, fy, ff), ⟨m1, m2, m3, m4, ⟨hd2, hq3⟩⟩, h⟩) ?_
                              refine zw_aload_n 1 rfl zd_MO_real_412 ?_
                              refine zw_iconst zd_MO_real_413 ?_
                              refine zw_iload 4 rfl zd_MO_real_414 ?_
                              refine zw_if_eq 425 (by omega) zd_MO_real_416 (by decide) (fun c416 => ?_) (fun c416 => ?_)
                              · -- 416 -> 425
                                refine zw_lload 0 rfl zd_MO_real_425 ?_
                                refine zw_l2i zd_MO_real_427 ?_
                                refine zw_iload_n 2 rfl zd_MO_real_428 ?_
                                refine zw_callV (As := [.int (zI (2)), .int (zI (u + ((b / 2) + 0))), .int (zI (z))]) (rest := []) (L2 := []) (L' := [zMOd h (t) (ws ++ [(zI 2, (zI (u + ((b / 2) + 0))), (zI (z)))]) (ts) ([]) (op) (y) (r) (((ds.length : Nat) : Int)) (wv) (gd) (f4)]) (stk' := []) (c_MO_word h t ws ts ([]) op y r (((ds.length : Nat) : Int)) wv gd f4 2 (zI (u + ((b / 2) + 0))) (zI (z)) (by omega) (by omega)) [0] [] rfl rfl rfl zcal_MO_word zl_MO_110 zin_MO_word zse_MO_word 0 rfl zRv_MOd rfl (Nat.le_of_ble_eq_true rfl) (Nat.le_of_ble_eq_true rfl) (by omega) (by omega) rfl (Nat.le_of_ble_eq_true rfl) rfl rfl zd_MO_real_429 ?_
                                refine zw_iload_n 3 rfl zd_MO_real_432 ?_
                                have mid2 := mid.2 (by omega)
                                have e9 : wholeV (rdN t z) (realSum (rdN t z) (plN ds (wv - 1) ds.length)) = u + ((b / 2) + 0) := by rw [mid2.2]; unfold wholeV; split <;> omega
                                refine zw_pack (at0 := zMOy h (t) (ws ++ [(zI 2, (zI (u + ((b / 2) + 0))), (zI (z)))]) (ts) (op) (y) (r)) (Ls := [zMOd h (t) (ws ++ [(zI 2, (zI (u + ((b / 2) + 0))), (zI (z)))]) (ts) ([]) (op) (y) (r) (((ds.length : Nat) : Int)) (wv) (gd) (f4)]) (L2 := []) rfl (fun G w h => ⟨([], ((ds.length : Nat) : Int), wv, gd, f4), fun _ => rfl, h⟩) ?_
                                exact zw_iret hR rfl (by first | rw [hP, e9] | rw [hP, hP0, e9]) rfl (by omega) (by omega) zd_MO_real_433
                              · -- 416 -> 419
                                refine zw_lload 0 rfl zd_MO_real_419 ?_
                                refine zw_lneg zd_MO_real_421 ?_
                                refine zw_goto 427 zd_MO_real_422 (by decide) ?_
                                refine zw_l2i zd_MO_real_427 ?_
                                refine zw_iload_n 2 rfl zd_MO_real_428 ?_
                                refine zw_callV (As := [.int (zI (2)), .int (zI (-(u + ((b / 2) + 0)))), .int (zI (z))]) (rest := []) (L2 := []) (L' := [zMOd h (t) (ws ++ [(zI 2, (zI (-(u + ((b / 2) + 0)))), (zI (z)))]) (ts) ([]) (op) (y) (r) (((ds.length : Nat) : Int)) (wv) (gd) (f4)]) (stk' := []) (c_MO_word h t ws ts ([]) op y r (((ds.length : Nat) : Int)) wv gd f4 2 (zI (-(u + ((b / 2) + 0)))) (zI (z)) (by omega) (by omega)) [0] [] rfl rfl rfl zcal_MO_word zl_MO_110 zin_MO_word zse_MO_word 0 rfl zRv_MOd rfl (Nat.le_of_ble_eq_true rfl) (Nat.le_of_ble_eq_true rfl) (by omega) (by omega) rfl (Nat.le_of_ble_eq_true rfl) rfl rfl zd_MO_real_429 ?_
                                refine zw_iload_n 3 rfl zd_MO_real_432 ?_
                                have mid2 := mid.2 (by omega)
                                have e9 : wholeV (rdN t z) (realSum (rdN t z) (plN ds (wv - 1) ds.length)) = -(u + ((b / 2) + 0)) := by rw [mid2.2]; unfold wholeV; split <;> omega
                                refine zw_pack (at0 := zMOy h (t) (ws ++ [(zI 2, (zI (-(u + ((b / 2) + 0)))), (zI (z)))]) (ts) (op) (y) (r)) (Ls := [zMOd h (t) (ws ++ [(zI 2, (zI (-(u + ((b / 2) + 0)))), (zI (z)))]) (ts) ([]) (op) (y) (r) (((ds.length : Nat) : Int)) (wv) (gd) (f4)]) (L2 := []) rfl (fun G w h => ⟨([], ((ds.length : Nat) : Int), wv, gd, f4), fun _ => rfl, h⟩) ?_
                                exact zw_iret hR rfl (by first | rw [hP, e9] | rw [hP, hP0, e9]) rfl (by omega) (by omega) zd_MO_real_433
                            · -- 402 -> 405
                              refine zw_pack (at0 := zMOd h (t) (ws) (ts) ([]) (op) (y) (r) (((ds.length : Nat) : Int)) (wv) (gd) (f4)) (Ls := [zObj h 6 [.ref at_, .int (zI (((t.length : Nat) : Int))), .int (zI (r)), .int (zI (((ws.length : Nat) : Int))), .ref ak, .ref an, .ref ab, .ref aw, .int (zI (((op.length : Nat) : Int))), .int (zI (((ts.length : Nat) : Int))), .int (zI (((((ts.flatten ++ ([]))).length : Nat) : Int))), .ref ay, .ref af, .ref ad, .int (zI (((ds.length : Nat) : Int))), .int (zI (wv)), .int (zI (y)), .ref ar], zArB at_ (65536) (ft), zArB ak (16384) (fk), zArI an (16384) (fn), zArI ab (16384) (fb), zArI aw (64) (fo), zArB ay (131072) (fy), zArI af (16385) (ff), zArB ad (400) (gd), zArB ar (420) (f4)]) (L2 := []) rfl (fun G w h => ⟨((at_, ak, an, ab, aw, ay, af, ad, ar), ft, fk, fn, fb, fo, fy, ff), ⟨m1, m2, m3, m4, ⟨hd2, hq3⟩⟩, h⟩) ?_
                              refine zw_aload_n 1 rfl zd_MO_real_405 ?_
                              refine zw_iconst zd_MO_real_406 ?_
                              refine zw_iload_n 2 rfl zd_MO_real_407 ?_
                              refine zw_callV (As := [.int (zI (5)), .int (zI (z))]) (rest := []) (L2 := []) (L' := [zMOd h (t) (ws) (ts) ([]) (op) (5) (z) (((ds.length : Nat) : Int)) (wv) (gd) (f4)]) (stk' := [.int (zI (-1))]) (c_MO_fail h t ws ts ([]) op y r (((ds.length : Nat) : Int)) wv gd f4 5 z) [0] [] rfl rfl rfl zcal_MO_fail zl_MO_80 zin_MO_fail zse_MO_fail 0 rfl zRv_MOd rfl (Nat.le_of_ble_eq_true rfl) (Nat.le_of_ble_eq_true rfl) (by omega) (by omega) rfl (Nat.le_of_ble_eq_true rfl) rfl rfl zd_MO_real_408 ?_
                              have mid1 := mid.1 (by omega)
                              exfalso; omega
                          · -- 384 -> 387
                            refine zw_lconst (a := 1) rfl zd_MO_real_387 ?_
                            refine zw_goto 392 zd_MO_real_388 (by decide) ?_
                            refine zw_ladd zd_MO_real_392 ?_
                            refine zw_ladd zd_MO_real_393 ?_
                            refine zw_lstore (lv' := [(6, .long (zJ (u + ((b / 2) + 1)))), (0, .ref h), (1, .int (zI (z))), (3, .int (zI (q))), (4, .int (zI (rdN t z))), (11, .long (zJ (b))), (16, .int (zI (e)))]) (Nat.le_of_ble_eq_true rfl) rfl zd_MO_real_394 ?_
                            have mid := real_mid (ng := rdN t z) (wh := wv) (f := x.toNat) (U := u + ((b / 2) + 1)) hdr (by omega) j1 hne hN (by omega) (by rw [rb]; first | (rw [if_pos (by omega)]; omega) | (rw [if_neg (by omega)]; omega)) (by omega)
                            refine zw_lload 0 rfl zd_MO_real_396 ?_
                            refine zw_ldc2 zk_MO_120 2147483647 rfl zd_MO_real_398 ?_
                            refine zw_lcmpR zd_MO_real_401 ?_
                            refine zw_lif_le 412 (by omega) (by omega) zd_MO_real_402 (by decide) (fun c402 => ?_) (fun c402 => ?_)
                            · -- 402 -> 412
                              refine zw_pack (at0 := zMOd h (t) (ws) (ts) ([]) (op) (y) (r) (((ds.length : Nat) : Int)) (wv) (gd) (f4)) (Ls := [zObj h 6 [.ref at_, .int (zI (((t.length : Nat) : Int))), .int (zI (r)), .int (zI (((ws.length : Nat) : Int))), .ref ak, .ref an, .ref ab, .ref aw, .int (zI (((op.length : Nat) : Int))), .int (zI (((ts.length : Nat) : Int))), .int (zI (((((ts.flatten ++ ([]))).length : Nat) : Int))), .ref ay, .ref af, .ref ad, .int (zI (((ds.length : Nat) : Int))), .int (zI (wv)), .int (zI (y)), .ref ar], zArB at_ (65536) (ft), zArB ak (16384) (fk), zArI an (16384) (fn), zArI ab (16384) (fb), zArI aw (64) (fo), zArB ay (131072) (fy), zArI af (16385) (ff), zArB ad (400) (gd), zArB ar (420) (f4)]) (L2 := []) rfl (fun G w h => ⟨((at_, ak, an, ab, aw, ay, af, ad, ar), ft, fk, fn, fb, fo, fy, ff), ⟨m1, m2, m3, m4, ⟨hd2, hq3⟩⟩, h⟩) ?_
                              refine zw_aload_n 1 rfl zd_MO_real_412 ?_
                              refine zw_iconst zd_MO_real_413 ?_
                              refine zw_iload 4 rfl zd_MO_real_414 ?_
                              refine zw_if_eq 425 (by omega) zd_MO_real_416 (by decide) (fun c416 => ?_) (fun c416 => ?_)
                              · -- 416 -> 425
                                refine zw_lload 0 rfl zd_MO_real_425 ?_
                                refine zw_l2i zd_MO_real_427 ?_
                                refine zw_iload_n 2 rfl zd_MO_real_428 ?_
                                refine zw_callV (As := [.int (zI (2)), .int (zI (u + ((b / 2) + 1))), .int (zI (z))]) (rest := []) (L2 := []) (L' := [zMOd h (t) (ws ++ [(zI 2, (zI (u + ((b / 2) + 1))), (zI (z)))]) (ts) ([]) (op) (y) (r) (((ds.length : Nat) : Int)) (wv) (gd) (f4)]) (stk' := []) (c_MO_word h t ws ts ([]) op y r (((ds.length : Nat) : Int)) wv gd f4 2 (zI (u + ((b / 2) + 1))) (zI (z)) (by omega) (by omega)) [0] [] rfl rfl rfl zcal_MO_word zl_MO_110 zin_MO_word zse_MO_word 0 rfl zRv_MOd rfl (Nat.le_of_ble_eq_true rfl) (Nat.le_of_ble_eq_true rfl) (by omega) (by omega) rfl (Nat.le_of_ble_eq_true rfl) rfl rfl zd_MO_real_429 ?_
                                refine zw_iload_n 3 rfl zd_MO_real_432 ?_
                                have mid2 := mid.2 (by omega)
                                have e9 : wholeV (rdN t z) (realSum (rdN t z) (plN ds (wv - 1) ds.length)) = u + ((b / 2) + 1) := by rw [mid2.2]; unfold wholeV; split <;> omega
                                refine zw_pack (at0 := zMOy h (t) (ws ++ [(zI 2, (zI (u + ((b / 2) + 1))), (zI (z)))]) (ts) (op) (y) (r)) (Ls := [zMOd h (t) (ws ++ [(zI 2, (zI (u + ((b / 2) + 1))), (zI (z)))]) (ts) ([]) (op) (y) (r) (((ds.length : Nat) : Int)) (wv) (gd) (f4)]) (L2 := []) rfl (fun G w h => ⟨([], ((ds.length : Nat) : Int), wv, gd, f4), fun _ => rfl, h⟩) ?_
                                exact zw_iret hR rfl (by first | rw [hP, e9] | rw [hP, hP0, e9]) rfl (by omega) (by omega) zd_MO_real_433
                              · -- 416 -> 419
                                refine zw_lload 0 rfl zd_MO_real_419 ?_
                                refine zw_lneg zd_MO_real_421 ?_
                                refine zw_goto 427 zd_MO_real_422 (by decide) ?_
                                refine zw_l2i zd_MO_real_427 ?_
                                refine zw_iload_n 2 rfl zd_MO_real_428 ?_
                                refine zw_callV (As := [.int (zI (2)), .int (zI (-(u + ((b / 2) + 1)))), .int (zI (z))]) (rest := []) (L2 := []) (L' := [zMOd h (t) (ws ++ [(zI 2, (zI (-(u + ((b / 2) + 1)))), (zI (z)))]) (ts) ([]) (op) (y) (r) (((ds.length : Nat) : Int)) (wv) (gd) (f4)]) (stk' := []) (c_MO_word h t ws ts ([]) op y r (((ds.length : Nat) : Int)) wv gd f4 2 (zI (-(u + ((b / 2) + 1)))) (zI (z)) (by omega) (by omega)) [0] [] rfl rfl rfl zcal_MO_word zl_MO_110 zin_MO_word zse_MO_word 0 rfl zRv_MOd rfl (Nat.le_of_ble_eq_true rfl) (Nat.le_of_ble_eq_true rfl) (by omega) (by omega) rfl (Nat.le_of_ble_eq_true rfl) rfl rfl zd_MO_real_429 ?_
                                refine zw_iload_n 3 rfl zd_MO_real_432 ?_
                                have mid2 := mid.2 (by omega)
                                have e9 : wholeV (rdN t z) (realSum (rdN t z) (plN ds (wv - 1) ds.length)) = -(u + ((b / 2) + 1)) := by rw [mid2.2]; unfold wholeV; split <;> omega
                                refine zw_pack (at0 := zMOy h (t) (ws ++ [(zI 2, (zI (-(u + ((b / 2) + 1)))), (zI (z)))]) (ts) (op) (y) (r)) (Ls := [zMOd h (t) (ws ++ [(zI 2, (zI (-(u + ((b / 2) + 1)))), (zI (z)))]) (ts) ([]) (op) (y) (r) (((ds.length : Nat) : Int)) (wv) (gd) (f4)]) (L2 := []) rfl (fun G w h => ⟨([], ((ds.length : Nat) : Int), wv, gd, f4), fun _ => rfl, h⟩) ?_
                                exact zw_iret hR rfl (by first | rw [hP, e9] | rw [hP, hP0, e9]) rfl (by omega) (by omega) zd_MO_real_433
                            · -- 402 -> 405
                              refine zw_pack (at0 := zMOd h (t) (ws) (ts) ([]) (op) (y) (r) (((ds.length : Nat) : Int)) (wv) (gd) (f4)) (Ls := [zObj h 6 [.ref at_, .int (zI (((t.length : Nat) : Int))), .int (zI (r)), .int (zI (((ws.length : Nat) : Int))), .ref ak, .ref an, .ref ab, .ref aw, .int (zI (((op.length : Nat) : Int))), .int (zI (((ts.length : Nat) : Int))), .int (zI (((((ts.flatten ++ ([]))).length : Nat) : Int))), .ref ay, .ref af, .ref ad, .int (zI (((ds.length : Nat) : Int))), .int (zI (wv)), .int (zI (y)), .ref ar], zArB at_ (65536) (ft), zArB ak (16384) (fk), zArI an (16384) (fn), zArI ab (16384) (fb), zArI aw (64) (fo), zArB ay (131072) (fy), zArI af (16385) (ff), zArB ad (400) (gd), zArB ar (420) (f4)]) (L2 := []) rfl (fun G w h => ⟨((at_, ak, an, ab, aw, ay, af, ad, ar), ft, fk, fn, fb, fo, fy, ff), ⟨m1, m2, m3, m4, ⟨hd2, hq3⟩⟩, h⟩) ?_
                              refine zw_aload_n 1 rfl zd_MO_real_405 ?_
                              refine zw_iconst zd_MO_real_406 ?_
                              refine zw_iload_n 2 rfl zd_MO_real_407 ?_
                              refine zw_callV (As := [.int (zI (5)), .int (zI (z))]) (rest := []) (L2 := []) (L' := [zMOd h (t) (ws) (ts) ([]) (op) (5) (z) (((ds.length : Nat) : Int)) (wv) (gd) (f4)]) (stk' := [.int (zI (-1))]) (c_MO_fail h t ws ts ([]) op y r (((ds.length : Nat) : Int)) wv gd f4 5 z) [0] [] rfl rfl rfl zcal_MO_fail zl_MO_80 zin_MO_fail zse_MO_fail 0 rfl zRv_MOd rfl (Nat.le_of_ble_eq_true rfl) (Nat.le_of_ble_eq_true rfl) (by omega) (by omega) rfl (Nat.le_of_ble_eq_true rfl) rfl rfl zd_MO_real_408 ?_
                              have mid1 := mid.1 (by omega)
                              exfalso; omega
                        have lpe : ∀ (fuel : Nat) (fl : Int) (k : Int), ((0 ≤ k ∧ k ≤ ((mFn ds wv : Nat) : Int)) ∧ ((fl = 0 ∧ fv d k.toNat = 0) ∨ (fl = 1 ∧ 0 < fv d k.toNat))) → (((mFn ds wv : Nat) : Int) - k).toNat < fuel → zZ X zm_MO_real (0) (0) (0) (0) [zObj h 6 [.ref at_, .int (zI (((t.length : Nat) : Int))), .int (zI (r)), .int (zI (((ws.length : Nat) : Int))), .ref ak, .ref an, .ref ab, .ref aw, .int (zI (((op.length : Nat) : Int))), .int (zI (((ts.length : Nat) : Int))), .int (zI (((((ts.flatten ++ ([]))).length : Nat) : Int))), .ref ay, .ref af, .ref ad, .int (zI (((ds.length : Nat) : Int))), .int (zI (wv)), .int (zI (y)), .ref ar], zArB at_ (65536) (ft), zArB ak (16384) (fk), zArI an (16384) (fn), zArI ab (16384) (fb), zArI aw (64) (fo), zArB ay (131072) (fy), zArI af (16385) (ff), zArB ad (400) (gd), zArB ar (420) (f4)] 307 [(0, .ref h), (1, .int (zI (z))), (3, .int (zI (q))), (4, .int (zI (rdN t z))), (6, .long (zJ (u))), (10, .int (zI (((mFn ds wv : Nat) : Int)))), (11, .long (zJ (b))), (13, .int (zI (fl))), (14, .int (zI (k)))] [] := by
                          intro fuel
                          induction fuel with
                          | zero => intro fl k g0 hm; exact absurd hm (Nat.not_lt_zero _)
                          | succ fuel ih =>
                            intro fl k g0 hm
                            have fz := (fv_rg (d := d) (n := k.toNat) (fun j hj => hq2 j (by omega))).1
                            refine zw_iload 8 rfl zd_MO_real_307 ?_
                            refine zw_iload 5 rfl zd_MO_real_309 ?_
                            refine zw_icmp_ge 342 (by omega) (by omega) zd_MO_real_311 (by decide) (fun c311 => ?_) (fun c311 => ?_)
                            · -- 311 -> 342
                              have ek : k.toNat = mFn ds wv := by omega
                              rw [ek] at g0 fz
                              refine zw_lload 6 rfl zd_MO_real_342 ?_
                              refine zw_ldc2 zk_MO_144 2 rfl zd_MO_real_344 ?_
                              refine zw_lrem (by omega) (by omega) zd_MO_real_347 ?_
                              refine zw_lstore (lv' := [(14, .long (zJ (b % 2))), (0, .ref h), (1, .int (zI (z))), (3, .int (zI (q))), (4, .int (zI (rdN t z))), (6, .long (zJ (u))), (10, .int (zI (((mFn ds wv : Nat) : Int)))), (11, .long (zJ (b))), (13, .int (zI (fl)))]) (Nat.le_of_ble_eq_true rfl) rfl zd_MO_real_348 ?_
                              refine zw_lload 0 rfl zd_MO_real_350 ?_
                              refine zw_lconst (a := 1) rfl zd_MO_real_352 ?_
                              refine zw_lcmpR zd_MO_real_353 ?_
                              refine zw_lif_ne 371 (by omega) (by omega) zd_MO_real_354 (by decide) (fun c354 => ?_) (fun c354 => ?_)
                              · -- 354 -> 371
                                refine zw_iconst zd_MO_real_371 ?_
                                refine zw_istore (lv' := [(16, .int (zI (0))), (14, .long (zJ (b % 2))), (0, .ref h), (1, .int (zI (z))), (3, .int (zI (q))), (4, .int (zI (rdN t z))), (6, .long (zJ (u))), (10, .int (zI (((mFn ds wv : Nat) : Int)))), (11, .long (zJ (b))), (13, .int (zI (fl)))]) (Nat.le_of_ble_eq_true rfl) rfl zd_MO_real_372 ?_
                                refine zw_lpick (lv' := [(0, .ref h), (1, .int (zI (z))), (3, .int (zI (q))), (4, .int (zI (rdN t z))), (6, .long (zJ (u))), (11, .long (zJ (b))), (16, .int (zI (0)))]) [2, 3, 4, 5, 6, 8, 0] rfl ?_
                                refine zw_widen (k' := 0) (n' := 0) (by omega) (by omega) ?_
                                exact je 0 (by omega)
                              · -- 354 -> 357
                                refine zw_iload 4 rfl zd_MO_real_357 ?_
                                refine zw_if_eq 367 (by omega) zd_MO_real_359 (by decide) (fun c359 => ?_) (fun c359 => ?_)
                                · -- 359 -> 367
                                  refine zw_iconst zd_MO_real_367 ?_
                                  refine zw_goto 372 zd_MO_real_368 (by decide) ?_
                                  refine zw_istore (lv' := [(16, .int (zI (1))), (14, .long (zJ (b % 2))), (0, .ref h), (1, .int (zI (z))), (3, .int (zI (q))), (4, .int (zI (rdN t z))), (6, .long (zJ (u))), (10, .int (zI (((mFn ds wv : Nat) : Int)))), (11, .long (zJ (b))), (13, .int (zI (fl)))]) (Nat.le_of_ble_eq_true rfl) rfl zd_MO_real_372 ?_
                                  refine zw_lpick (lv' := [(0, .ref h), (1, .int (zI (z))), (3, .int (zI (q))), (4, .int (zI (rdN t z))), (6, .long (zJ (u))), (11, .long (zJ (b))), (16, .int (zI (1)))]) [2, 3, 4, 5, 6, 8, 0] rfl ?_
                                  refine zw_widen (k' := 0) (n' := 0) (by omega) (by omega) ?_
                                  exact je 1 (by omega)
                                · -- 359 -> 362
                                  refine zw_iload 8 rfl zd_MO_real_362 ?_
                                  refine zw_if_eq 371 (by omega) zd_MO_real_364 (by decide) (fun c364 => ?_) (fun c364 => ?_)
                                  · -- 364 -> 371
                                    refine zw_iconst zd_MO_real_371 ?_
                                    refine zw_istore (lv' := [(16, .int (zI (0))), (14, .long (zJ (b % 2))), (0, .ref h), (1, .int (zI (z))), (3, .int (zI (q))), (4, .int (zI (rdN t z))), (6, .long (zJ (u))), (10, .int (zI (((mFn ds wv : Nat) : Int)))), (11, .long (zJ (b))), (13, .int (zI (fl)))]) (Nat.le_of_ble_eq_true rfl) rfl zd_MO_real_372 ?_
                                    refine zw_lpick (lv' := [(0, .ref h), (1, .int (zI (z))), (3, .int (zI (q))), (4, .int (zI (rdN t z))), (6, .long (zJ (u))), (11, .long (zJ (b))), (16, .int (zI (0)))]) [2, 3, 4, 5, 6, 8, 0] rfl ?_
                                    refine zw_widen (k' := 0) (n' := 0) (by omega) (by omega) ?_
                                    exact je 0 (by omega)
                                  · -- 364 -> 367
                                    refine zw_iconst zd_MO_real_367 ?_
                                    refine zw_goto 372 zd_MO_real_368 (by decide) ?_
                                    refine zw_istore (lv' := [(16, .int (zI (1))), (14, .long (zJ (b % 2))), (0, .ref h), (1, .int (zI (z))), (3, .int (zI (q))), (4, .int (zI (rdN t z))), (6, .long (zJ (u))), (10, .int (zI (((mFn ds wv : Nat) : Int)))), (11, .long (zJ (b))), (13, .int (zI (fl)))]) (Nat.le_of_ble_eq_true rfl) rfl zd_MO_real_372 ?_
                                    refine zw_lpick (lv' := [(0, .ref h), (1, .int (zI (z))), (3, .int (zI (q))), (4, .int (zI (rdN t z))), (6, .long (zJ (u))), (11, .long (zJ (b))), (16, .int (zI (1)))]) [2, 3, 4, 5, 6, 8, 0] rfl ?_
                                    refine zw_widen (k' := 0) (n' := 0) (by omega) (by omega) ?_
                                    exact je 1 (by omega)
                            · -- 311 -> 314
                              have rk := hq2 k.toNat (by omega)
                              refine zw_iload 7 rfl zd_MO_real_314 ?_
                              refine zw_if_ne 329 (by omega) zd_MO_real_316 (by decide) (fun c316 => ?_) (fun c316 => ?_)
                              · -- 316 -> 329
                                refine zw_iconst zd_MO_real_329 ?_
                                refine zw_goto 334 zd_MO_real_330 (by decide) ?_
                                refine zw_istore (lv' := [(13, .int (zI (1))), (0, .ref h), (1, .int (zI (z))), (3, .int (zI (q))), (4, .int (zI (rdN t z))), (6, .long (zJ (u))), (10, .int (zI (((mFn ds wv : Nat) : Int)))), (11, .long (zJ (b))), (14, .int (zI (k)))]) (Nat.le_of_ble_eq_true rfl) rfl zd_MO_real_334 ?_
                                refine zw_iinc (lv' := [(14, .int (zI (k + 1))), (13, .int (zI (1))), (0, .ref h), (1, .int (zI (z))), (3, .int (zI (q))), (4, .int (zI (rdN t z))), (6, .long (zJ (u))), (10, .int (zI (((mFn ds wv : Nat) : Int)))), (11, .long (zJ (b)))]) 8 rfl (Nat.le_of_ble_eq_true rfl) rfl zd_MO_real_336 ?_
                                refine zw_goto 307 zd_MO_real_339 (by decide) ?_
                                refine zw_lpick (lv' := [(0, .ref h), (1, .int (zI (z))), (3, .int (zI (q))), (4, .int (zI (rdN t z))), (6, .long (zJ (u))), (10, .int (zI (((mFn ds wv : Nat) : Int)))), (11, .long (zJ (b))), (13, .int (zI (1))), (14, .int (zI (k + 1)))]) [2, 3, 4, 5, 6, 7, 8, 1, 0] rfl ?_
                                refine zw_widen (k' := 0) (n' := 0) (by omega) (by omega) ?_
                                have e5 : fv d (k + 1).toNat = 10 * fv d k.toNat + d k.toNat := by rw [show (k + 1).toNat = k.toNat + 1 by omega]; rfl
                                exact ih 1 (k + 1) ⟨by omega, by omega⟩ (by omega)
                              · -- 316 -> 319
                                refine zw_aload_n 0 rfl zd_MO_real_319 ?_
                                refine zw_get zc_MO 0 17 rfl (by decide) zf_MO_37 rfl zd_MO_real_320 ?_
                                refine zw_iload 8 rfl zd_MO_real_323 ?_
                                refine zw_aldB 9 rfl (by omega) (by omega) zd_MO_real_325 ?_
                                refine zw_topE (hq1 k.toNat (by omega)) ?_
                                refine zw_if_eq 333 (by omega) zd_MO_real_326 (by decide) (fun c326 => ?_) (fun c326 => ?_)
                                · -- 326 -> 333
                                  refine zw_iconst zd_MO_real_333 ?_
                                  refine zw_istore (lv' := [(13, .int (zI (0))), (0, .ref h), (1, .int (zI (z))), (3, .int (zI (q))), (4, .int (zI (rdN t z))), (6, .long (zJ (u))), (10, .int (zI (((mFn ds wv : Nat) : Int)))), (11, .long (zJ (b))), (14, .int (zI (k)))]) (Nat.le_of_ble_eq_true rfl) rfl zd_MO_real_334 ?_
                                  refine zw_iinc (lv' := [(14, .int (zI (k + 1))), (13, .int (zI (0))), (0, .ref h), (1, .int (zI (z))), (3, .int (zI (q))), (4, .int (zI (rdN t z))), (6, .long (zJ (u))), (10, .int (zI (((mFn ds wv : Nat) : Int)))), (11, .long (zJ (b)))]) 8 rfl (Nat.le_of_ble_eq_true rfl) rfl zd_MO_real_336 ?_
                                  refine zw_goto 307 zd_MO_real_339 (by decide) ?_
                                  refine zw_lpick (lv' := [(0, .ref h), (1, .int (zI (z))), (3, .int (zI (q))), (4, .int (zI (rdN t z))), (6, .long (zJ (u))), (10, .int (zI (((mFn ds wv : Nat) : Int)))), (11, .long (zJ (b))), (13, .int (zI (0))), (14, .int (zI (k + 1)))]) [2, 3, 4, 5, 6, 7, 8, 1, 0] rfl ?_
                                  refine zw_widen (k' := 0) (n' := 0) (by omega) (by omega) ?_
                                  have e5 : fv d (k + 1).toNat = 10 * fv d k.toNat + d k.toNat := by rw [show (k + 1).toNat = k.toNat + 1 by omega]; rfl
                                  exact ih 0 (k + 1) ⟨by omega, by omega⟩ (by omega)
                                · -- 326 -> 329
                                  refine zw_iconst zd_MO_real_329 ?_
                                  refine zw_goto 334 zd_MO_real_330 (by decide) ?_
                                  refine zw_istore (lv' := [(13, .int (zI (1))), (0, .ref h), (1, .int (zI (z))), (3, .int (zI (q))), (4, .int (zI (rdN t z))), (6, .long (zJ (u))), (10, .int (zI (((mFn ds wv : Nat) : Int)))), (11, .long (zJ (b))), (14, .int (zI (k)))]) (Nat.le_of_ble_eq_true rfl) rfl zd_MO_real_334 ?_
                                  refine zw_iinc (lv' := [(14, .int (zI (k + 1))), (13, .int (zI (1))), (0, .ref h), (1, .int (zI (z))), (3, .int (zI (q))), (4, .int (zI (rdN t z))), (6, .long (zJ (u))), (10, .int (zI (((mFn ds wv : Nat) : Int)))), (11, .long (zJ (b)))]) 8 rfl (Nat.le_of_ble_eq_true rfl) rfl zd_MO_real_336 ?_
                                  refine zw_goto 307 zd_MO_real_339 (by decide) ?_
                                  refine zw_lpick (lv' := [(0, .ref h), (1, .int (zI (z))), (3, .int (zI (q))), (4, .int (zI (rdN t z))), (6, .long (zJ (u))), (10, .int (zI (((mFn ds wv : Nat) : Int)))), (11, .long (zJ (b))), (13, .int (zI (1))), (14, .int (zI (k + 1)))]) [2, 3, 4, 5, 6, 7, 8, 1, 0] rfl ?_
                                  refine zw_widen (k' := 0) (n' := 0) (by omega) (by omega) ?_
                                  have e5 : fv d (k + 1).toNat = 10 * fv d k.toNat + d k.toNat := by rw [show (k + 1).toNat = k.toNat + 1 by omega]; rfl
                                  exact ih 1 (k + 1) ⟨by omega, by omega⟩ (by omega)
                        refine zw_iconst zd_MO_real_301 ?_
                        refine zw_istore (lv' := [(13, .int (zI (0))), (0, .ref h), (1, .int (zI (z))), (2, .int (zI (f))), (3, .int (zI (q))), (4, .int (zI (rdN t z))), (6, .long (zJ (u))), (8, .int (zI (a))), (9, .int (zI (zz))), (10, .int (zI (((mFn ds wv : Nat) : Int)))), (11, .long (zJ (b)))]) (Nat.le_of_ble_eq_true rfl) rfl zd_MO_real_302 ?_
                        refine zw_iconst zd_MO_real_304 ?_
                        refine zw_istore (lv' := [(14, .int (zI (0))), (13, .int (zI (0))), (0, .ref h), (1, .int (zI (z))), (2, .int (zI (f))), (3, .int (zI (q))), (4, .int (zI (rdN t z))), (6, .long (zJ (u))), (8, .int (zI (a))), (9, .int (zI (zz))), (10, .int (zI (((mFn ds wv : Nat) : Int)))), (11, .long (zJ (b)))]) (Nat.le_of_ble_eq_true rfl) rfl zd_MO_real_305 ?_
                        refine zw_lpick (lv' := [(0, .ref h), (1, .int (zI (z))), (3, .int (zI (q))), (4, .int (zI (rdN t z))), (6, .long (zJ (u))), (10, .int (zI (((mFn ds wv : Nat) : Int)))), (11, .long (zJ (b))), (13, .int (zI (0))), (14, .int (zI (0)))]) [2, 3, 5, 6, 7, 10, 11, 1, 0] rfl ?_
                        refine zw_widen (k' := 0) (n' := 0) (by omega) (by omega) ?_
                        exact lpe _ 0 0 ⟨by omega, Or.inl ⟨rfl, rfl⟩⟩ (Nat.lt_succ_self _)
                      · -- 276 -> 279
                        refine zw_ldc2 zk_MO_144 2 rfl zd_MO_real_279 ?_
                        refine zw_lload 9 rfl zd_MO_real_282 ?_
                        refine zw_lmul zd_MO_real_284 ?_
                        refine zw_aload_n 0 rfl zd_MO_real_285 ?_
                        refine zw_iload 8 rfl zd_MO_real_286 ?_
                        refine zw_callV (As := [.int (zI (((mFn ds wv : Nat) : Int)))]) (rest := [.long (zJ (2 * b))]) (L2 := [zArB at_ (65536) (ft), zArB ak (16384) (fk), zArI an (16384) (fn), zArI ab (16384) (fb), zArI aw (64) (fo), zArB ay (131072) (fy), zArI af (16385) (ff), zArB ad (400) (gd)]) (L' := [zObj h 6 [.ref at_, .int (zI (((t.length : Nat) : Int))), .int (zI (r)), .int (zI (((ws.length : Nat) : Int))), .ref ak, .ref an, .ref ab, .ref aw, .int (zI (((op.length : Nat) : Int))), .int (zI (((ts.length : Nat) : Int))), .int (zI (((((ts.flatten ++ ([]))).length : Nat) : Int))), .ref ay, .ref af, .ref ad, .int (zI (((ds.length : Nat) : Int))), .int (zI (wv)), .int (zI (y)), .ref ar], zFq ar (mFn ds wv) ((twS d (mFn ds wv) (mFn ds wv)).2), zArB at_ (65536) (ft), zArB ak (16384) (fk), zArI an (16384) (fn), zArI ab (16384) (fb), zArI aw (64) (fo), zArB ay (131072) (fy), zArI af (16385) (ff), zArB ad (400) (gd)]) (stk' := [.int (zI ((twS d (mFn ds wv) (mFn ds wv)).1)), .long (zJ (2 * b))]) (c_MO_twice h at_ ak an ab aw ay af ad ar r (((ws.length : Nat) : Int)) (((op.length : Nat) : Int)) (((ts.length : Nat) : Int)) (((((ts.flatten ++ ([]))).length : Nat) : Int)) (((ds.length : Nat) : Int)) wv y t (mFn ds wv) d (by omega)) [1, 0] [2, 3, 4, 5, 6, 7, 8, 9] rfl rfl rfl zcal_MO_twice zl_MO_146 zin_MO_twice zse_MO_twice 0 rfl zRv_obj rfl (Nat.le_of_ble_eq_true rfl) (Nat.le_of_ble_eq_true rfl) (by omega) (by omega) rfl (Nat.le_of_ble_eq_true rfl) rfl rfl zd_MO_real_288 ?_
                        have tr := twS_rg u3 (mFn ds wv) (Nat.le_refl _)
                        have ta := twS_all (d := d) (n := mFn ds wv)
                        refine zw_i2l (by omega) zd_MO_real_291 ?_
                        refine zw_ladd zd_MO_real_292 ?_
                        refine zw_lstore (lv' := [(11, .long (zJ ((2 * b) + ((twS d (mFn ds wv) (mFn ds wv)).1)))), (0, .ref h), (1, .int (zI (z))), (2, .int (zI (f))), (3, .int (zI (q))), (4, .int (zI (rdN t z))), (6, .long (zJ (u))), (8, .int (zI (a))), (9, .int (zI (zz))), (10, .int (zI (((mFn ds wv : Nat) : Int)))), (13, .int (zI (i)))]) (Nat.le_of_ble_eq_true rfl) rfl zd_MO_real_293 ?_
                        refine zw_iinc (lv' := [(13, .int (zI (i + 1))), (11, .long (zJ ((2 * b) + ((twS d (mFn ds wv) (mFn ds wv)).1)))), (0, .ref h), (1, .int (zI (z))), (2, .int (zI (f))), (3, .int (zI (q))), (4, .int (zI (rdN t z))), (6, .long (zJ (u))), (8, .int (zI (a))), (9, .int (zI (zz))), (10, .int (zI (((mFn ds wv : Nat) : Int))))]) 10 rfl (Nat.le_of_ble_eq_true rfl) rfl zd_MO_real_295 ?_
                        refine zw_goto 272 zd_MO_real_298 (by decide) ?_
                        refine zw_sub (L' := [zFq ar (mFn ds wv) ((twS d (mFn ds wv) (mFn ds wv)).2), zObj h 6 [.ref at_, .int (zI (((t.length : Nat) : Int))), .int (zI (r)), .int (zI (((ws.length : Nat) : Int))), .ref ak, .ref an, .ref ab, .ref aw, .int (zI (((op.length : Nat) : Int))), .int (zI (((ts.length : Nat) : Int))), .int (zI (((((ts.flatten ++ ([]))).length : Nat) : Int))), .ref ay, .ref af, .ref ad, .int (zI (((ds.length : Nat) : Int))), .int (zI (wv)), .int (zI (y)), .ref ar], zArB at_ (65536) (ft), zArB ak (16384) (fk), zArI an (16384) (fn), zArI ab (16384) (fb), zArI aw (64) (fo), zArB ay (131072) (fy), zArI af (16385) (ff), zArB ad (400) (gd)]) [1, 0, 2, 3, 4, 5, 6, 7, 8, 9] rfl rfl ?_
                        refine zw_lpick (lv' := [(0, .ref h), (1, .int (zI (z))), (2, .int (zI (f))), (3, .int (zI (q))), (4, .int (zI (rdN t z))), (6, .long (zJ (u))), (8, .int (zI (a))), (9, .int (zI (zz))), (10, .int (zI (((mFn ds wv : Nat) : Int)))), (11, .long (zJ ((2 * b) + ((twS d (mFn ds wv) (mFn ds wv)).1)))), (13, .int (zI (i + 1)))]) [2, 3, 4, 5, 6, 7, 8, 9, 10, 1, 0] rfl ?_
                        refine zw_widen (k' := 0) (n' := 0) (by omega) (by omega) ?_
                        have e5 : p2 (i + 1).toNat = 2 * p2 i.toNat := by rw [show (i + 1).toNat = i.toNat + 1 by omega]; rfl
                        refine ih _ ((2 * b) + ((twS d (mFn ds wv) (mFn ds wv)).1)) (i + 1) ⟨⟨by omega, by omega⟩, tr.2, ?_⟩ (by omega)
                        rw [e5, Int.add_mul, Int.mul_assoc, Int.mul_assoc]
                        omega
                  refine zw_lconst (a := 0) rfl zd_MO_real_266 ?_
                  refine zw_lstore (lv' := [(11, .long (zJ (0))), (0, .ref h), (1, .int (zI (z))), (2, .int (zI (f))), (3, .int (zI (q))), (4, .int (zI (rdN t z))), (6, .long (zJ (u))), (8, .int (zI (a))), (9, .int (zI (zz))), (10, .int (zI (((mFn ds wv : Nat) : Int))))]) (Nat.le_of_ble_eq_true rfl) rfl zd_MO_real_267 ?_
                  refine zw_iconst zd_MO_real_269 ?_
                  refine zw_istore (lv' := [(13, .int (zI (0))), (11, .long (zJ (0))), (0, .ref h), (1, .int (zI (z))), (2, .int (zI (f))), (3, .int (zI (q))), (4, .int (zI (rdN t z))), (6, .long (zJ (u))), (8, .int (zI (a))), (9, .int (zI (zz))), (10, .int (zI (((mFn ds wv : Nat) : Int))))]) (Nat.le_of_ble_eq_true rfl) rfl zd_MO_real_270 ?_
                  refine zw_lpick (lv' := [(0, .ref h), (1, .int (zI (z))), (2, .int (zI (f))), (3, .int (zI (q))), (4, .int (zI (rdN t z))), (6, .long (zJ (u))), (8, .int (zI (a))), (9, .int (zI (zz))), (10, .int (zI (((mFn ds wv : Nat) : Int)))), (11, .long (zJ (0))), (13, .int (zI (0)))]) [2, 3, 4, 5, 6, 7, 8, 9, 10, 1, 0] rfl ?_
                  refine zw_widen (k' := 0) (n' := 0) (by omega) (by omega) ?_
                  exact lpd _ (mFr ds wv) 0 0 ⟨⟨by omega, by decide⟩, fun j _ => mFr_rg hdr wv j, by show 0 * _ + _ = 1 * _; omega⟩ (Nat.lt_succ_self _)
                · -- 226 -> 229
                  refine zw_aload_n 0 rfl zd_MO_real_229 ?_
                  refine zw_get zc_MO 0 17 rfl (by decide) zf_MO_37 rfl zd_MO_real_230 ?_
                  refine zw_iload 9 rfl zd_MO_real_233 ?_
                  refine zw_iload 9 rfl zd_MO_real_235 ?_
                  refine zw_iload 7 rfl zd_MO_real_237 ?_
                  refine zw_icmp_ge 246 (by omega) (by omega) zd_MO_real_239 (by decide) (fun c239 => ?_) (fun c239 => ?_)
                  · -- 239 -> 246
                    refine zw_aload_n 0 rfl zd_MO_real_246 ?_
                    refine zw_get zc_MO 0 13 rfl (by decide) zf_MO_34 rfl zd_MO_real_247 ?_
                    refine zw_iload 6 rfl zd_MO_real_250 ?_
                    refine zw_iload 9 rfl zd_MO_real_252 ?_
                    refine zw_iadd zd_MO_real_254 ?_
                    refine zw_iload 7 rfl zd_MO_real_255 ?_
                    refine zw_isub zd_MO_real_257 ?_
                    refine zw_aldB 8 rfl (by omega) (by omega) zd_MO_real_258 ?_
                    refine zw_topE (hd1 _ (by omega)) ?_
                    refine zw_astB (L' := [zObj h 6 [.ref at_, .int (zI (((t.length : Nat) : Int))), .int (zI (r)), .int (zI (((ws.length : Nat) : Int))), .ref ak, .ref an, .ref ab, .ref aw, .int (zI (((op.length : Nat) : Int))), .int (zI (((ts.length : Nat) : Int))), .int (zI (((((ts.flatten ++ ([]))).length : Nat) : Int))), .ref ay, .ref af, .ref ad, .int (zI (((ds.length : Nat) : Int))), .int (zI (wv)), .int (zI (y)), .ref ar], zArB at_ (65536) (ft), zArB ak (16384) (fk), zArI an (16384) (fn), zArI ab (16384) (fb), zArI aw (64) (fo), zArB ay (131072) (fy), zArI af (16385) (ff), zArB ad (400) (gd), zArB ar (420) (upd f2 (k).toNat (vp_nar .byte (zI (zdg ds ((a + k) - zz).toNat))))]) 9 rfl (by omega) (by omega) rfl zd_MO_real_259 ?_
                    refine zw_iinc (lv' := [(11, .int (zI (k + 1))), (0, .ref h), (1, .int (zI (z))), (2, .int (zI (f))), (3, .int (zI (q))), (4, .int (zI (rdN t z))), (6, .long (zJ (u))), (8, .int (zI (a))), (9, .int (zI (zz))), (10, .int (zI (((mFn ds wv : Nat) : Int))))]) 9 rfl (Nat.le_of_ble_eq_true rfl) rfl zd_MO_real_260 ?_
                    refine zw_goto 222 zd_MO_real_263 (by decide) ?_
                    refine zw_lpick (lv' := [(0, .ref h), (1, .int (zI (z))), (2, .int (zI (f))), (3, .int (zI (q))), (4, .int (zI (rdN t z))), (6, .long (zJ (u))), (8, .int (zI (a))), (9, .int (zI (zz))), (10, .int (zI (((mFn ds wv : Nat) : Int)))), (11, .int (zI (k + 1)))]) [1, 2, 3, 4, 5, 6, 7, 8, 9, 0] rfl ?_
                    refine zw_widen (k' := 0) (n' := 0) (by omega) (by omega) ?_
                    have rX : (0 : Int) ≤ (zdg ds ((a + k) - zz).toNat) ∧ (zdg ds ((a + k) - zz).toNat) ≤ (9 : Int) := hdg _
                    have eX : mFr ds wv k.toNat = (zdg ds ((a + k) - zz).toNat) := by unfold mFr; rw [if_neg (by omega)]; congr 1; omega
                    refine ih _ (k + 1) ⟨by omega, fun j hj => ?_, zfit_d10 rX g3⟩ (by omega)
                    rw [upd_d10 rX]
                    by_cases e : j = k.toNat
                    · rw [e, pk_us, eX]
                    · rw [pk_un e]; exact g2 j (by omega)
                  · -- 239 -> 242
                    refine zw_iconst zd_MO_real_242 ?_
                    refine zw_goto 259 zd_MO_real_243 (by decide) ?_
                    refine zw_astB (L' := [zObj h 6 [.ref at_, .int (zI (((t.length : Nat) : Int))), .int (zI (r)), .int (zI (((ws.length : Nat) : Int))), .ref ak, .ref an, .ref ab, .ref aw, .int (zI (((op.length : Nat) : Int))), .int (zI (((ts.length : Nat) : Int))), .int (zI (((((ts.flatten ++ ([]))).length : Nat) : Int))), .ref ay, .ref af, .ref ad, .int (zI (((ds.length : Nat) : Int))), .int (zI (wv)), .int (zI (y)), .ref ar], zArB at_ (65536) (ft), zArB ak (16384) (fk), zArI an (16384) (fn), zArI ab (16384) (fb), zArI aw (64) (fo), zArB ay (131072) (fy), zArI af (16385) (ff), zArB ad (400) (gd), zArB ar (420) (upd f2 (k).toNat (vp_nar .byte (zI (0))))]) 9 rfl (by omega) (by omega) rfl zd_MO_real_259 ?_
                    refine zw_iinc (lv' := [(11, .int (zI (k + 1))), (0, .ref h), (1, .int (zI (z))), (2, .int (zI (f))), (3, .int (zI (q))), (4, .int (zI (rdN t z))), (6, .long (zJ (u))), (8, .int (zI (a))), (9, .int (zI (zz))), (10, .int (zI (((mFn ds wv : Nat) : Int))))]) 9 rfl (Nat.le_of_ble_eq_true rfl) rfl zd_MO_real_260 ?_
                    refine zw_goto 222 zd_MO_real_263 (by decide) ?_
                    refine zw_lpick (lv' := [(0, .ref h), (1, .int (zI (z))), (2, .int (zI (f))), (3, .int (zI (q))), (4, .int (zI (rdN t z))), (6, .long (zJ (u))), (8, .int (zI (a))), (9, .int (zI (zz))), (10, .int (zI (((mFn ds wv : Nat) : Int)))), (11, .int (zI (k + 1)))]) [1, 2, 3, 4, 5, 6, 7, 8, 9, 0] rfl ?_
                    refine zw_widen (k' := 0) (n' := 0) (by omega) (by omega) ?_
                    have rX : (0 : Int) ≤ (0) ∧ (0) ≤ (9 : Int) := by omega
                    have eX : mFr ds wv k.toNat = (0) := by unfold mFr; rw [if_pos (by omega)]
                    refine ih _ (k + 1) ⟨by omega, fun j hj => ?_, zfit_d10 rX g3⟩ (by omega)
                    rw [upd_d10 rX]
                    by_cases e : j = k.toNat
                    · rw [e, pk_us, eX]
                    · rw [pk_un e]; exact g2 j (by omega)
            refine zw_iconst zd_MO_real_219 ?_
            refine zw_istore (lv' := [(11, .int (zI (0))), (0, .ref h), (1, .int (zI (z))), (2, .int (zI (f))), (3, .int (zI (q))), (4, .int (zI (rdN t z))), (6, .long (zJ (u))), (8, .int (zI (a))), (9, .int (zI (zz))), (10, .int (zI (((mFn ds wv : Nat) : Int))))]) (Nat.le_of_ble_eq_true rfl) rfl zd_MO_real_220 ?_
            refine zw_lpick (lv' := [(0, .ref h), (1, .int (zI (z))), (2, .int (zI (f))), (3, .int (zI (q))), (4, .int (zI (rdN t z))), (6, .long (zJ (u))), (8, .int (zI (a))), (9, .int (zI (zz))), (10, .int (zI (((mFn ds wv : Nat) : Int)))), (11, .int (zI (0)))]) [1, 2, 3, 4, 5, 6, 7, 8, 9, 0] rfl ?_
            refine zw_widen (k' := 0) (n' := 0) (by omega) (by omega) ?_
            exact lpc _ fr 0 ⟨by omega, fun j hj => by exact absurd hj (Nat.not_lt_zero _), d2⟩ (Nat.lt_succ_self _)
          have lpb : ∀ (fuel : Nat) (v : Int) (k : Int), ((0 ≤ k ∧ (k ≤ wv ∨ k = 0)) ∧ v = fv (zdg ds) k.toNat) → (wv - k).toNat < fuel → zZ X zm_MO_real (0) (0) (0) (0) [zObj h 6 [.ref at_, .int (zI (((t.length : Nat) : Int))), .int (zI (r)), .int (zI (((ws.length : Nat) : Int))), .ref ak, .ref an, .ref ab, .ref aw, .int (zI (((op.length : Nat) : Int))), .int (zI (((ts.length : Nat) : Int))), .int (zI (((((ts.flatten ++ ([]))).length : Nat) : Int))), .ref ay, .ref af, .ref ad, .int (zI (((ds.length : Nat) : Int))), .int (zI (wv)), .int (zI (y)), .ref ar], zArB at_ (65536) (ft), zArB ak (16384) (fk), zArI an (16384) (fn), zArI ab (16384) (fb), zArI aw (64) (fo), zArB ay (131072) (fy), zArI af (16385) (ff), zArB ad (400) (gd), zArB ar (420) (fr)] 106 [(0, .ref h), (1, .int (zI (z))), (2, .int (zI (f))), (3, .int (zI (q))), (4, .int (zI (rdN t z))), (5, .int (zI (x))), (6, .long (zJ (v))), (8, .int (zI (k)))] [] := by
            intro fuel
            induction fuel with
            | zero => intro v k g0 hm; exact absurd hm (Nat.not_lt_zero _)
            | succ fuel ih =>
              intro v k g0 hm
              obtain ⟨g1, g2⟩ := g0
              have kb := fv_rg (d := zdg ds) (n := k.toNat) (fun j _ => hdg j)
              have kl := fv_lt (d := zdg ds) (f := x.toNat) (n := k.toNat) (fun j _ => hdg j) (fun j hj _ => j1 j hj)
              have km := p10_mono (a := k.toNat - x.toNat) (b := 6) (by omega)
              refine zw_iload 7 rfl zd_MO_real_106 ?_
              refine zw_aload_n 0 rfl zd_MO_real_108 ?_
              refine zw_get zc_MO 0 15 rfl (by decide) zf_MO_139 rfl zd_MO_real_109 ?_
              refine zw_icmp_ge 151 (by omega) (by omega) zd_MO_real_112 (by decide) (fun c112 => ?_) (fun c112 => ?_)
              · -- 112 -> 151
                rw [show k.toNat = wv.toNat by omega] at g2
                refine zw_ldc2 zk_MO_142 65536 rfl zd_MO_real_151 ?_
                refine zw_lload 6 rfl zd_MO_real_154 ?_
                refine zw_lmul zd_MO_real_156 ?_
                refine zw_lstore (lv' := [(6, .long (zJ (65536 * v))), (0, .ref h), (1, .int (zI (z))), (2, .int (zI (f))), (3, .int (zI (q))), (4, .int (zI (rdN t z))), (5, .int (zI (x))), (8, .int (zI (k)))]) (Nat.le_of_ble_eq_true rfl) rfl zd_MO_real_157 ?_
                refine zw_aload_n 1 rfl zd_MO_real_159 ?_
                refine zw_get zc_MO 0 15 rfl (by decide) zf_MO_139 rfl zd_MO_real_160 ?_
                refine zw_if_ge 170 (by omega) zd_MO_real_163 (by decide) (fun c163 => ?_) (fun c163 => ?_)
                · -- 163 -> 170
                  refine zw_aload_n 1 rfl zd_MO_real_170 ?_
                  refine zw_get zc_MO 0 15 rfl (by decide) zf_MO_139 rfl zd_MO_real_171 ?_
                  refine zw_istore (lv' := [(8, .int (zI (wv))), (6, .long (zJ (65536 * v))), (0, .ref h), (1, .int (zI (z))), (2, .int (zI (f))), (3, .int (zI (q))), (4, .int (zI (rdN t z))), (5, .int (zI (x)))]) (Nat.le_of_ble_eq_true rfl) rfl zd_MO_real_174 ?_
                  refine zw_aload_n 2 rfl zd_MO_real_176 ?_
                  refine zw_get zc_MO 0 15 rfl (by decide) zf_MO_139 rfl zd_MO_real_177 ?_
                  refine zw_if_ge 191 (by omega) zd_MO_real_180 (by decide) (fun c180 => ?_) (fun c180 => ?_)
                  · -- 180 -> 191
                    refine zw_iconst zd_MO_real_191 ?_
                    refine zw_istore (lv' := [(9, .int (zI (0))), (8, .int (zI (wv))), (6, .long (zJ (65536 * v))), (0, .ref h), (1, .int (zI (z))), (2, .int (zI (f))), (3, .int (zI (q))), (4, .int (zI (rdN t z))), (5, .int (zI (x)))]) (Nat.le_of_ble_eq_true rfl) rfl zd_MO_real_192 ?_
                    refine zw_iload 0 rfl zd_MO_real_194 ?_
                    refine zw_aload_n 3 rfl zd_MO_real_196 ?_
                    refine zw_get zc_MO 0 14 rfl (by decide) zf_MO_136 rfl zd_MO_real_197 ?_
                    refine zw_iload 1 rfl zd_MO_real_200 ?_
                    refine zw_icmp_le 215 (by omega) (by omega) zd_MO_real_202 (by decide) (fun c202 => ?_) (fun c202 => ?_)
                    · -- 202 -> 215
                      refine zw_iconst zd_MO_real_215 ?_
                      refine zw_iadd zd_MO_real_216 ?_
                      refine zw_istore (lv' := [(10, .int (zI (0 + 0))), (9, .int (zI (0))), (8, .int (zI (wv))), (6, .long (zJ (65536 * v))), (0, .ref h), (1, .int (zI (z))), (2, .int (zI (f))), (3, .int (zI (q))), (4, .int (zI (rdN t z))), (5, .int (zI (x)))]) (Nat.le_of_ble_eq_true rfl) rfl zd_MO_real_217 ?_
                      refine zw_lpick (lv' := [(0, .ref h), (1, .int (zI (z))), (2, .int (zI (f))), (3, .int (zI (q))), (4, .int (zI (rdN t z))), (6, .long (zJ (65536 * v))), (8, .int (zI (wv))), (9, .int (zI (0))), (10, .int (zI (0 + 0)))]) [4, 5, 6, 7, 8, 3, 2, 1, 0] rfl ?_
                      refine zw_widen (k' := 0) (n' := 0) (by omega) (by omega) ?_
                      exact jb _ _ _ _ ⟨by omega, by omega, by omega, by omega⟩
                    · -- 202 -> 205
                      refine zw_aload_n 3 rfl zd_MO_real_205 ?_
                      refine zw_get zc_MO 0 14 rfl (by decide) zf_MO_136 rfl zd_MO_real_206 ?_
                      refine zw_iload 1 rfl zd_MO_real_209 ?_
                      refine zw_isub zd_MO_real_211 ?_
                      refine zw_goto 216 zd_MO_real_212 (by decide) ?_
                      refine zw_iadd zd_MO_real_216 ?_
                      refine zw_istore (lv' := [(10, .int (zI (0 + ((((ds.length : Nat) : Int)) - wv)))), (9, .int (zI (0))), (8, .int (zI (wv))), (6, .long (zJ (65536 * v))), (0, .ref h), (1, .int (zI (z))), (2, .int (zI (f))), (3, .int (zI (q))), (4, .int (zI (rdN t z))), (5, .int (zI (x)))]) (Nat.le_of_ble_eq_true rfl) rfl zd_MO_real_217 ?_
                      refine zw_lpick (lv' := [(0, .ref h), (1, .int (zI (z))), (2, .int (zI (f))), (3, .int (zI (q))), (4, .int (zI (rdN t z))), (6, .long (zJ (65536 * v))), (8, .int (zI (wv))), (9, .int (zI (0))), (10, .int (zI (0 + ((((ds.length : Nat) : Int)) - wv))))]) [4, 5, 6, 7, 8, 3, 2, 1, 0] rfl ?_
                      refine zw_widen (k' := 0) (n' := 0) (by omega) (by omega) ?_
                      exact jb _ _ _ _ ⟨by omega, by omega, by omega, by omega⟩
                  · -- 180 -> 183
                    refine zw_aload_n 2 rfl zd_MO_real_183 ?_
                    refine zw_get zc_MO 0 15 rfl (by decide) zf_MO_139 rfl zd_MO_real_184 ?_
                    refine zw_ineg zd_MO_real_187 ?_
                    refine zw_goto 192 zd_MO_real_188 (by decide) ?_
                    refine zw_istore (lv' := [(9, .int (zI (-wv))), (8, .int (zI (wv))), (6, .long (zJ (65536 * v))), (0, .ref h), (1, .int (zI (z))), (2, .int (zI (f))), (3, .int (zI (q))), (4, .int (zI (rdN t z))), (5, .int (zI (x)))]) (Nat.le_of_ble_eq_true rfl) rfl zd_MO_real_192 ?_
                    refine zw_iload 0 rfl zd_MO_real_194 ?_
                    refine zw_aload_n 3 rfl zd_MO_real_196 ?_
                    refine zw_get zc_MO 0 14 rfl (by decide) zf_MO_136 rfl zd_MO_real_197 ?_
                    refine zw_iload 1 rfl zd_MO_real_200 ?_
                    refine zw_icmp_le 215 (by omega) (by omega) zd_MO_real_202 (by decide) (fun c202 => ?_) (fun c202 => ?_)
                    · -- 202 -> 215
                      refine zw_iconst zd_MO_real_215 ?_
                      refine zw_iadd zd_MO_real_216 ?_
                      refine zw_istore (lv' := [(10, .int (zI ((-wv) + 0))), (9, .int (zI (-wv))), (8, .int (zI (wv))), (6, .long (zJ (65536 * v))), (0, .ref h), (1, .int (zI (z))), (2, .int (zI (f))), (3, .int (zI (q))), (4, .int (zI (rdN t z))), (5, .int (zI (x)))]) (Nat.le_of_ble_eq_true rfl) rfl zd_MO_real_217 ?_
                      refine zw_lpick (lv' := [(0, .ref h), (1, .int (zI (z))), (2, .int (zI (f))), (3, .int (zI (q))), (4, .int (zI (rdN t z))), (6, .long (zJ (65536 * v))), (8, .int (zI (wv))), (9, .int (zI (-wv))), (10, .int (zI ((-wv) + 0)))]) [4, 5, 6, 7, 8, 3, 2, 1, 0] rfl ?_
                      refine zw_widen (k' := 0) (n' := 0) (by omega) (by omega) ?_
                      exact jb _ _ _ _ ⟨by omega, by omega, by omega, by omega⟩
                    · -- 202 -> 205
                      refine zw_aload_n 3 rfl zd_MO_real_205 ?_
                      refine zw_get zc_MO 0 14 rfl (by decide) zf_MO_136 rfl zd_MO_real_206 ?_
                      refine zw_iload 1 rfl zd_MO_real_209 ?_
                      refine zw_isub zd_MO_real_211 ?_
                      refine zw_goto 216 zd_MO_real_212 (by decide) ?_
                      refine zw_iadd zd_MO_real_216 ?_
                      refine zw_istore (lv' := [(10, .int (zI ((-wv) + ((((ds.length : Nat) : Int)) - wv)))), (9, .int (zI (-wv))), (8, .int (zI (wv))), (6, .long (zJ (65536 * v))), (0, .ref h), (1, .int (zI (z))), (2, .int (zI (f))), (3, .int (zI (q))), (4, .int (zI (rdN t z))), (5, .int (zI (x)))]) (Nat.le_of_ble_eq_true rfl) rfl zd_MO_real_217 ?_
                      refine zw_lpick (lv' := [(0, .ref h), (1, .int (zI (z))), (2, .int (zI (f))), (3, .int (zI (q))), (4, .int (zI (rdN t z))), (6, .long (zJ (65536 * v))), (8, .int (zI (wv))), (9, .int (zI (-wv))), (10, .int (zI ((-wv) + ((((ds.length : Nat) : Int)) - wv))))]) [4, 5, 6, 7, 8, 3, 2, 1, 0] rfl ?_
                      refine zw_widen (k' := 0) (n' := 0) (by omega) (by omega) ?_
                      exact jb _ _ _ _ ⟨by omega, by omega, by omega, by omega⟩
                · -- 163 -> 166
                  refine zw_iconst zd_MO_real_166 ?_
                  refine zw_goto 174 zd_MO_real_167 (by decide) ?_
                  refine zw_istore (lv' := [(8, .int (zI (0))), (6, .long (zJ (65536 * v))), (0, .ref h), (1, .int (zI (z))), (2, .int (zI (f))), (3, .int (zI (q))), (4, .int (zI (rdN t z))), (5, .int (zI (x)))]) (Nat.le_of_ble_eq_true rfl) rfl zd_MO_real_174 ?_
                  refine zw_aload_n 2 rfl zd_MO_real_176 ?_
                  refine zw_get zc_MO 0 15 rfl (by decide) zf_MO_139 rfl zd_MO_real_177 ?_
                  refine zw_if_ge 191 (by omega) zd_MO_real_180 (by decide) (fun c180 => ?_) (fun c180 => ?_)
                  · -- 180 -> 191
                    refine zw_iconst zd_MO_real_191 ?_
                    refine zw_istore (lv' := [(9, .int (zI (0))), (8, .int (zI (0))), (6, .long (zJ (65536 * v))), (0, .ref h), (1, .int (zI (z))), (2, .int (zI (f))), (3, .int (zI (q))), (4, .int (zI (rdN t z))), (5, .int (zI (x)))]) (Nat.le_of_ble_eq_true rfl) rfl zd_MO_real_192 ?_
                    refine zw_iload 0 rfl zd_MO_real_194 ?_
                    refine zw_aload_n 3 rfl zd_MO_real_196 ?_
                    refine zw_get zc_MO 0 14 rfl (by decide) zf_MO_136 rfl zd_MO_real_197 ?_
                    refine zw_iload 1 rfl zd_MO_real_200 ?_
                    refine zw_icmp_le 215 (by omega) (by omega) zd_MO_real_202 (by decide) (fun c202 => ?_) (fun c202 => ?_)
                    · -- 202 -> 215
                      refine zw_iconst zd_MO_real_215 ?_
                      refine zw_iadd zd_MO_real_216 ?_
                      refine zw_istore (lv' := [(10, .int (zI (0 + 0))), (9, .int (zI (0))), (8, .int (zI (0))), (6, .long (zJ (65536 * v))), (0, .ref h), (1, .int (zI (z))), (2, .int (zI (f))), (3, .int (zI (q))), (4, .int (zI (rdN t z))), (5, .int (zI (x)))]) (Nat.le_of_ble_eq_true rfl) rfl zd_MO_real_217 ?_
                      refine zw_lpick (lv' := [(0, .ref h), (1, .int (zI (z))), (2, .int (zI (f))), (3, .int (zI (q))), (4, .int (zI (rdN t z))), (6, .long (zJ (65536 * v))), (8, .int (zI (0))), (9, .int (zI (0))), (10, .int (zI (0 + 0)))]) [4, 5, 6, 7, 8, 3, 2, 1, 0] rfl ?_
                      refine zw_widen (k' := 0) (n' := 0) (by omega) (by omega) ?_
                      exact jb _ _ _ _ ⟨by omega, by omega, by omega, by omega⟩
                    · -- 202 -> 205
                      refine zw_aload_n 3 rfl zd_MO_real_205 ?_
                      refine zw_get zc_MO 0 14 rfl (by decide) zf_MO_136 rfl zd_MO_real_206 ?_
                      refine zw_iload 1 rfl zd_MO_real_209 ?_
                      refine zw_isub zd_MO_real_211 ?_
                      refine zw_goto 216 zd_MO_real_212 (by decide) ?_
                      refine zw_iadd zd_MO_real_216 ?_
                      refine zw_istore (lv' := [(10, .int (zI (0 + ((((ds.length : Nat) : Int)) - 0)))), (9, .int (zI (0))), (8, .int (zI (0))), (6, .long (zJ (65536 * v))), (0, .ref h), (1, .int (zI (z))), (2, .int (zI (f))), (3, .int (zI (q))), (4, .int (zI (rdN t z))), (5, .int (zI (x)))]) (Nat.le_of_ble_eq_true rfl) rfl zd_MO_real_217 ?_
                      refine zw_lpick (lv' := [(0, .ref h), (1, .int (zI (z))), (2, .int (zI (f))), (3, .int (zI (q))), (4, .int (zI (rdN t z))), (6, .long (zJ (65536 * v))), (8, .int (zI (0))), (9, .int (zI (0))), (10, .int (zI (0 + ((((ds.length : Nat) : Int)) - 0))))]) [4, 5, 6, 7, 8, 3, 2, 1, 0] rfl ?_
                      refine zw_widen (k' := 0) (n' := 0) (by omega) (by omega) ?_
                      exact jb _ _ _ _ ⟨by omega, by omega, by omega, by omega⟩
                  · -- 180 -> 183
                    refine zw_aload_n 2 rfl zd_MO_real_183 ?_
                    refine zw_get zc_MO 0 15 rfl (by decide) zf_MO_139 rfl zd_MO_real_184 ?_
                    refine zw_ineg zd_MO_real_187 ?_
                    refine zw_goto 192 zd_MO_real_188 (by decide) ?_
                    refine zw_istore (lv' := [(9, .int (zI (-wv))), (8, .int (zI (0))), (6, .long (zJ (65536 * v))), (0, .ref h), (1, .int (zI (z))), (2, .int (zI (f))), (3, .int (zI (q))), (4, .int (zI (rdN t z))), (5, .int (zI (x)))]) (Nat.le_of_ble_eq_true rfl) rfl zd_MO_real_192 ?_
                    refine zw_iload 0 rfl zd_MO_real_194 ?_
                    refine zw_aload_n 3 rfl zd_MO_real_196 ?_
                    refine zw_get zc_MO 0 14 rfl (by decide) zf_MO_136 rfl zd_MO_real_197 ?_
                    refine zw_iload 1 rfl zd_MO_real_200 ?_
                    refine zw_icmp_le 215 (by omega) (by omega) zd_MO_real_202 (by decide) (fun c202 => ?_) (fun c202 => ?_)
                    · -- 202 -> 215
                      refine zw_iconst zd_MO_real_215 ?_
                      refine zw_iadd zd_MO_real_216 ?_
                      refine zw_istore (lv' := [(10, .int (zI ((-wv) + 0))), (9, .int (zI (-wv))), (8, .int (zI (0))), (6, .long (zJ (65536 * v))), (0, .ref h), (1, .int (zI (z))), (2, .int (zI (f))), (3, .int (zI (q))), (4, .int (zI (rdN t z))), (5, .int (zI (x)))]) (Nat.le_of_ble_eq_true rfl) rfl zd_MO_real_217 ?_
                      refine zw_lpick (lv' := [(0, .ref h), (1, .int (zI (z))), (2, .int (zI (f))), (3, .int (zI (q))), (4, .int (zI (rdN t z))), (6, .long (zJ (65536 * v))), (8, .int (zI (0))), (9, .int (zI (-wv))), (10, .int (zI ((-wv) + 0)))]) [4, 5, 6, 7, 8, 3, 2, 1, 0] rfl ?_
                      refine zw_widen (k' := 0) (n' := 0) (by omega) (by omega) ?_
                      exact jb _ _ _ _ ⟨by omega, by omega, by omega, by omega⟩
                    · -- 202 -> 205
                      refine zw_aload_n 3 rfl zd_MO_real_205 ?_
                      refine zw_get zc_MO 0 14 rfl (by decide) zf_MO_136 rfl zd_MO_real_206 ?_
                      refine zw_iload 1 rfl zd_MO_real_209 ?_
                      refine zw_isub zd_MO_real_211 ?_
                      refine zw_goto 216 zd_MO_real_212 (by decide) ?_
                      refine zw_iadd zd_MO_real_216 ?_
                      refine zw_istore (lv' := [(10, .int (zI ((-wv) + ((((ds.length : Nat) : Int)) - 0)))), (9, .int (zI (-wv))), (8, .int (zI (0))), (6, .long (zJ (65536 * v))), (0, .ref h), (1, .int (zI (z))), (2, .int (zI (f))), (3, .int (zI (q))), (4, .int (zI (rdN t z))), (5, .int (zI (x)))]) (Nat.le_of_ble_eq_true rfl) rfl zd_MO_real_217 ?_
                      refine zw_lpick (lv' := [(0, .ref h), (1, .int (zI (z))), (2, .int (zI (f))), (3, .int (zI (q))), (4, .int (zI (rdN t z))), (6, .long (zJ (65536 * v))), (8, .int (zI (0))), (9, .int (zI (-wv))), (10, .int (zI ((-wv) + ((((ds.length : Nat) : Int)) - 0))))]) [4, 5, 6, 7, 8, 3, 2, 1, 0] rfl ?_
                      refine zw_widen (k' := 0) (n' := 0) (by omega) (by omega) ?_
                      exact jb _ _ _ _ ⟨by omega, by omega, by omega, by omega⟩
              · -- 112 -> 115
                refine zw_ldc2 zk_MO_116 10 rfl zd_MO_real_115 ?_
                refine zw_lload 6 rfl zd_MO_real_118 ?_
                refine zw_lmul zd_MO_real_120 ?_
                refine zw_iload 7 rfl zd_MO_real_121 ?_
                refine zw_aload_n 0 rfl zd_MO_real_123 ?_
                refine zw_get zc_MO 0 14 rfl (by decide) zf_MO_136 rfl zd_MO_real_124 ?_
                refine zw_icmp_ge 140 (by omega) (by omega) zd_MO_real_127 (by decide) (fun c127 => ?_) (fun c127 => ?_)
                · -- 127 -> 140
                  refine zw_iconst zd_MO_real_140 ?_
                  refine zw_i2l (by omega) zd_MO_real_141 ?_
                  refine zw_ladd zd_MO_real_142 ?_
                  refine zw_lstore (lv' := [(6, .long (zJ ((10 * v) + 0))), (0, .ref h), (1, .int (zI (z))), (2, .int (zI (f))), (3, .int (zI (q))), (4, .int (zI (rdN t z))), (5, .int (zI (x))), (8, .int (zI (k)))]) (Nat.le_of_ble_eq_true rfl) rfl zd_MO_real_143 ?_
                  refine zw_iinc (lv' := [(8, .int (zI (k + 1))), (6, .long (zJ ((10 * v) + 0))), (0, .ref h), (1, .int (zI (z))), (2, .int (zI (f))), (3, .int (zI (q))), (4, .int (zI (rdN t z))), (5, .int (zI (x)))]) 7 rfl (Nat.le_of_ble_eq_true rfl) rfl zd_MO_real_145 ?_
                  refine zw_goto 106 zd_MO_real_148 (by decide) ?_
                  refine zw_lpick (lv' := [(0, .ref h), (1, .int (zI (z))), (2, .int (zI (f))), (3, .int (zI (q))), (4, .int (zI (rdN t z))), (5, .int (zI (x))), (6, .long (zJ ((10 * v) + 0))), (8, .int (zI (k + 1)))]) [2, 3, 4, 5, 6, 7, 1, 0] rfl ?_
                  refine zw_widen (k' := 0) (n' := 0) (by omega) (by omega) ?_
                  have e5 : fv (zdg ds) (k + 1).toNat = 10 * fv (zdg ds) k.toNat + zdg ds k.toNat := by rw [show (k + 1).toNat = k.toNat + 1 by omega]; rfl
                  rw [zdg_out (by omega)] at e5
                  exact ih ((10 * v) + 0) (k + 1) ⟨by omega, by omega⟩ (by omega)
                · -- 127 -> 130
                  refine zw_aload_n 0 rfl zd_MO_real_130 ?_
                  refine zw_get zc_MO 0 13 rfl (by decide) zf_MO_34 rfl zd_MO_real_131 ?_
                  refine zw_iload 7 rfl zd_MO_real_134 ?_
                  refine zw_aldB 8 rfl (by omega) (by omega) zd_MO_real_136 ?_
                  refine zw_topE (hd1 k.toNat (by omega)) ?_
                  have rk := hdg k.toNat
                  refine zw_goto 141 zd_MO_real_137 (by decide) ?_
                  refine zw_i2l (by omega) zd_MO_real_141 ?_
                  refine zw_ladd zd_MO_real_142 ?_
                  refine zw_lstore (lv' := [(6, .long (zJ ((10 * v) + (zdg ds k.toNat)))), (0, .ref h), (1, .int (zI (z))), (2, .int (zI (f))), (3, .int (zI (q))), (4, .int (zI (rdN t z))), (5, .int (zI (x))), (8, .int (zI (k)))]) (Nat.le_of_ble_eq_true rfl) rfl zd_MO_real_143 ?_
                  refine zw_iinc (lv' := [(8, .int (zI (k + 1))), (6, .long (zJ ((10 * v) + (zdg ds k.toNat)))), (0, .ref h), (1, .int (zI (z))), (2, .int (zI (f))), (3, .int (zI (q))), (4, .int (zI (rdN t z))), (5, .int (zI (x)))]) 7 rfl (Nat.le_of_ble_eq_true rfl) rfl zd_MO_real_145 ?_
                  refine zw_goto 106 zd_MO_real_148 (by decide) ?_
                  refine zw_lpick (lv' := [(0, .ref h), (1, .int (zI (z))), (2, .int (zI (f))), (3, .int (zI (q))), (4, .int (zI (rdN t z))), (5, .int (zI (x))), (6, .long (zJ ((10 * v) + (zdg ds k.toNat)))), (8, .int (zI (k + 1)))]) [2, 3, 4, 5, 6, 7, 1, 0] rfl ?_
                  refine zw_widen (k' := 0) (n' := 0) (by omega) (by omega) ?_
                  have e5 : fv (zdg ds) (k + 1).toNat = 10 * fv (zdg ds) k.toNat + zdg ds k.toNat := by rw [show (k + 1).toNat = k.toNat + 1 by omega]; rfl
                  exact ih ((10 * v) + (zdg ds k.toNat)) (k + 1) ⟨by omega, by omega⟩ (by omega)
          refine zw_lpick (lv' := [(0, .ref h), (1, .int (zI (z))), (2, .int (zI (f))), (3, .int (zI (q))), (4, .int (zI (rdN t z))), (5, .int (zI (x))), (6, .long (zJ (0))), (8, .int (zI (0)))]) [2, 3, 4, 5, 6, 7, 1, 0] rfl ?_
          refine zw_widen (k' := 0) (n' := 0) (by omega) (by omega) ?_
          exact lpb _ 0 0 ⟨by omega, rfl⟩ (Nat.lt_succ_self _)
        · -- 90 -> 93
          refine zw_pack (at0 := zMOd h (t) (ws) (ts) ([]) (op) (y) (r) (((ds.length : Nat) : Int)) (wv) (gd) (fr)) (Ls := [zObj h 6 [.ref at_, .int (zI (((t.length : Nat) : Int))), .int (zI (r)), .int (zI (((ws.length : Nat) : Int))), .ref ak, .ref an, .ref ab, .ref aw, .int (zI (((op.length : Nat) : Int))), .int (zI (((ts.length : Nat) : Int))), .int (zI (((((ts.flatten ++ ([]))).length : Nat) : Int))), .ref ay, .ref af, .ref ad, .int (zI (((ds.length : Nat) : Int))), .int (zI (wv)), .int (zI (y)), .ref ar], zArB at_ (65536) (ft), zArB ak (16384) (fk), zArI an (16384) (fn), zArI ab (16384) (fb), zArI aw (64) (fo), zArB ay (131072) (fy), zArI af (16385) (ff), zArB ad (400) (gd), zArB ar (420) (fr)]) (L2 := []) rfl (fun G w h => ⟨((at_, ak, an, ab, aw, ay, af, ad, ar), ft, fk, fn, fb, fo, fy, ff), ⟨m1, m2, m3, m4, ⟨hd2, d2⟩⟩, h⟩) ?_
          refine zw_aload_n 0 rfl zd_MO_real_93 ?_
          refine zw_iconst zd_MO_real_94 ?_
          refine zw_iload_n 1 rfl zd_MO_real_95 ?_
          refine zw_callV (As := [.int (zI (5)), .int (zI (z))]) (rest := []) (L2 := []) (L' := [zMOd h (t) (ws) (ts) ([]) (op) (5) (z) (((ds.length : Nat) : Int)) (wv) (gd) (fr)]) (stk' := [.int (zI (-1))]) (c_MO_fail h t ws ts ([]) op y r (((ds.length : Nat) : Int)) wv gd fr 5 z) [0] [] rfl rfl rfl zcal_MO_fail zl_MO_80 zin_MO_fail zse_MO_fail 0 rfl zRv_MOd rfl (Nat.le_of_ble_eq_true rfl) (Nat.le_of_ble_eq_true rfl) (by omega) (by omega) rfl (Nat.le_of_ble_eq_true rfl) rfl rfl zd_MO_real_96 ?_
          have hi := real_high (ng := rdN t z) (P0 := scanE sDig t f - f - 1 + rdX t (frE t (scanE sDig t f)) q) (j := x.toNat) hdr (by omega) (by rcases j2 with c | c; omega; exact c.2) (by omega)
          exfalso; omega
      · -- 69 -> 72
        refine zw_pack (at0 := zMOd h (t) (ws) (ts) ([]) (op) (y) (r) (((ds.length : Nat) : Int)) (wv) (gd) (fr)) (Ls := [zObj h 6 [.ref at_, .int (zI (((t.length : Nat) : Int))), .int (zI (r)), .int (zI (((ws.length : Nat) : Int))), .ref ak, .ref an, .ref ab, .ref aw, .int (zI (((op.length : Nat) : Int))), .int (zI (((ts.length : Nat) : Int))), .int (zI (((((ts.flatten ++ ([]))).length : Nat) : Int))), .ref ay, .ref af, .ref ad, .int (zI (((ds.length : Nat) : Int))), .int (zI (wv)), .int (zI (y)), .ref ar], zArB at_ (65536) (ft), zArB ak (16384) (fk), zArI an (16384) (fn), zArI ab (16384) (fb), zArI aw (64) (fo), zArB ay (131072) (fy), zArI af (16385) (ff), zArB ad (400) (gd), zArB ar (420) (fr)]) (L2 := []) rfl (fun G w h => ⟨((at_, ak, an, ab, aw, ay, af, ad, ar), ft, fk, fn, fb, fo, fy, ff), ⟨m1, m2, m3, m4, ⟨hd2, d2⟩⟩, h⟩) ?_
        refine zw_aload_n 0 rfl zd_MO_real_72 ?_
        refine zw_iconst zd_MO_real_73 ?_
        refine zw_iconst zd_MO_real_74 ?_
        refine zw_iload_n 1 rfl zd_MO_real_75 ?_
        refine zw_callV (As := [.int (zI (2)), .int (zI (0)), .int (zI (z))]) (rest := []) (L2 := []) (L' := [zMOd h (t) (ws ++ [(zI 2, (zI (0)), (zI (z)))]) (ts) ([]) (op) (y) (r) (((ds.length : Nat) : Int)) (wv) (gd) (fr)]) (stk' := []) (c_MO_word h t ws ts ([]) op y r (((ds.length : Nat) : Int)) wv gd fr 2 (zI (0)) (zI (z)) (by omega) (by omega)) [0] [] rfl rfl rfl zcal_MO_word zl_MO_110 zin_MO_word zse_MO_word 0 rfl zRv_MOd rfl (Nat.le_of_ble_eq_true rfl) (Nat.le_of_ble_eq_true rfl) (by omega) (by omega) rfl (Nat.le_of_ble_eq_true rfl) rfl rfl zd_MO_real_76 ?_
        refine zw_iload_n 3 rfl zd_MO_real_79 ?_
        have lo := real_low (ng := rdN t z) (P0 := scanE sDig t f - f - 1 + rdX t (frE t (scanE sDig t f)) q) hdr (fun i hi hne => by
          have : ¬ i < x.toNat := fun c => hne (j1 i c)
          omega)
        have e9 : wholeV (rdN t z) (realSum (rdN t z) (plN ds (scanE sDig t f - f - 1 + rdX t (frE t (scanE sDig t f)) q) ds.length)) = 0 := by rw [lo.2]; unfold wholeV; split <;> rfl
        refine zw_pack (at0 := zMOy h (t) (ws ++ [(zI 2, (zI (0)), (zI (z)))]) (ts) (op) (y) (r)) (Ls := [zMOd h (t) (ws ++ [(zI 2, (zI (0)), (zI (z)))]) (ts) ([]) (op) (y) (r) (((ds.length : Nat) : Int)) (wv) (gd) (fr)]) (L2 := []) rfl (fun G w h => ⟨([], ((ds.length : Nat) : Int), wv, gd, fr), fun _ => rfl, h⟩) ?_
        exact zw_iret hR rfl (by first | rw [hP, e9] | rw [hP, hP0, e9]) rfl (by omega) (by omega) zd_MO_real_80
  have lpa : ∀ (fuel : Nat) (x : Int), ((0 ≤ x ∧ x ≤ ds.length) ∧ ∀ j, j < x.toNat → zdg ds j = 0) → ((ds.length : Int) - x).toNat < fuel → zZ X zm_MO_real (0) (0) (0) (0) [zObj h 6 [.ref at_, .int (zI (((t.length : Nat) : Int))), .int (zI (r)), .int (zI (((ws.length : Nat) : Int))), .ref ak, .ref an, .ref ab, .ref aw, .int (zI (((op.length : Nat) : Int))), .int (zI (((ts.length : Nat) : Int))), .int (zI (((((ts.flatten ++ ([]))).length : Nat) : Int))), .ref ay, .ref af, .ref ad, .int (zI (((ds.length : Nat) : Int))), .int (zI (wv)), .int (zI (y)), .ref ar], zArB at_ (65536) (ft), zArB ak (16384) (fk), zArI an (16384) (fn), zArI ab (16384) (fb), zArI aw (64) (fo), zArB ay (131072) (fy), zArI af (16385) (ff), zArB ad (400) (gd), zArB ar (420) (fr)] 26 [(0, .ref h), (1, .int (zI (z))), (2, .int (zI (f))), (3, .int (zI (q))), (4, .int (zI (rdN t z))), (5, .int (zI (x)))] [] := by
    intro fuel
    induction fuel with
    | zero => intro x g0 hm; exact absurd hm (Nat.not_lt_zero _)
    | succ fuel ih =>
      intro x g0 hm
      obtain ⟨g1, g2⟩ := g0
      refine zw_iload 5 rfl zd_MO_real_26 ?_
      refine zw_aload_n 0 rfl zd_MO_real_28 ?_
      refine zw_get zc_MO 0 14 rfl (by decide) zf_MO_136 rfl zd_MO_real_29 ?_
      refine zw_icmp_ge 51 (by omega) (by omega) zd_MO_real_32 (by decide) (fun c32 => ?_) (fun c32 => ?_)
      · -- 32 -> 51
        refine zw_widen (k' := 0) (n' := 0) (by omega) (by omega) ?_
        exact jn x (by omega) g2 (by omega)
      · -- 32 -> 35
        refine zw_aload_n 0 rfl zd_MO_real_35 ?_
        refine zw_get zc_MO 0 13 rfl (by decide) zf_MO_34 rfl zd_MO_real_36 ?_
        refine zw_iload 5 rfl zd_MO_real_39 ?_
        refine zw_aldB 8 rfl (by omega) (by omega) zd_MO_real_41 ?_
        refine zw_topE (hd1 x.toNat (by omega)) ?_
        have rk := hdg x.toNat
        refine zw_if_ne 51 (by omega) zd_MO_real_42 (by decide) (fun c42 => ?_) (fun c42 => ?_)
        · -- 42 -> 51
          refine zw_widen (k' := 0) (n' := 0) (by omega) (by omega) ?_
          exact jn x (by omega) g2 (by omega)
        · -- 42 -> 45
          refine zw_iinc (lv' := [(5, .int (zI (x + 1))), (0, .ref h), (1, .int (zI (z))), (2, .int (zI (f))), (3, .int (zI (q))), (4, .int (zI (rdN t z)))]) 5 rfl (Nat.le_of_ble_eq_true rfl) rfl zd_MO_real_45 ?_
          refine zw_goto 26 zd_MO_real_48 (by decide) ?_
          refine zw_lpick (lv' := [(0, .ref h), (1, .int (zI (z))), (2, .int (zI (f))), (3, .int (zI (q))), (4, .int (zI (rdN t z))), (5, .int (zI (x + 1)))]) [1, 2, 3, 4, 5, 0] rfl ?_
          refine zw_widen (k' := 0) (n' := 0) (by omega) (by omega) ?_
          refine ih (x + 1) ⟨by omega, fun j hj => ?_⟩ (by omega)
          by_cases e : j = x.toNat
          · rw [e]; omega
          · exact g2 j (by omega)
  refine zw_aload_n 0 rfl zd_MO_real_6 ?_
  refine zw_iload_n 1 rfl zd_MO_real_7 ?_
  refine zw_callV (As := [.int (zI (z))]) (rest := []) (L2 := [zArB ak (16384) (fk), zArI an (16384) (fn), zArI ab (16384) (fb), zArI aw (64) (fo), zArB ay (131072) (fy), zArI af (16385) (ff), zArB ad (400) (gd), zArB ar (420) (fr)]) (L' := [zObj h 6 [.ref at_, .int (zI (((t.length : Nat) : Int))), .int (zI (r)), .int (zI (((ws.length : Nat) : Int))), .ref ak, .ref an, .ref ab, .ref aw, .int (zI (((op.length : Nat) : Int))), .int (zI (((ts.length : Nat) : Int))), .int (zI (((((ts.flatten ++ ([]))).length : Nat) : Int))), .ref ay, .ref af, .ref ad, .int (zI (((ds.length : Nat) : Int))), .int (zI (wv)), .int (zI (y)), .ref ar], zArB at_ (65536) (ft), zArB ak (16384) (fk), zArI an (16384) (fn), zArI ab (16384) (fb), zArI aw (64) (fo), zArB ay (131072) (fy), zArI af (16385) (ff), zArB ad (400) (gd), zArB ar (420) (fr)]) (stk' := [.int (zI (bget t z))]) (c_MO_byteAtO h at_ ak an ab aw ay af ad ar r (((ws.length : Nat) : Int)) (((op.length : Nat) : Int)) (((ts.length : Nat) : Int)) (((((ts.flatten ++ ([]))).length : Nat) : Int)) (((ds.length : Nat) : Int)) wv y t ft m1 z (by omega)) [0, 1] [2, 3, 4, 5, 6, 7, 8, 9] rfl rfl rfl zcal_MO_byteAt zl_MO_51 zin_MO_byteAt zse_MO_byteAt 0 rfl zRv_obj rfl (Nat.le_of_ble_eq_true rfl) (Nat.le_of_ble_eq_true rfl) (by omega) (by omega) rfl (Nat.le_of_ble_eq_true rfl) rfl rfl zd_MO_real_8 ?_
  have rg8 := bget_rg m1.2.1 z
  refine zw_bipush rfl zd_MO_real_11 ?_
  refine zw_icmp_ne 20 (by omega) (by omega) zd_MO_real_13 (by decide) (fun c13 => ?_) (fun c13 => ?_)
  · -- 13 -> 20
    refine zw_iconst zd_MO_real_20 ?_
    refine zw_istore (lv' := [(4, .int (zI (0))), (0, .ref h), (1, .int (zI (z))), (2, .int (zI (f))), (3, .int (zI (q)))]) (Nat.le_of_ble_eq_true rfl) rfl zd_MO_real_21 ?_
    refine zw_iconst zd_MO_real_23 ?_
    refine zw_istore (lv' := [(5, .int (zI (0))), (4, .int (zI (0))), (0, .ref h), (1, .int (zI (z))), (2, .int (zI (f))), (3, .int (zI (q)))]) (Nat.le_of_ble_eq_true rfl) rfl zd_MO_real_24 ?_
    refine zw_lpick (lv' := [(0, .ref h), (1, .int (zI (z))), (2, .int (zI (f))), (3, .int (zI (q))), (4, .int (zI (0))), (5, .int (zI (0)))]) [2, 3, 4, 5, 1, 0] rfl ?_
    refine zw_widen (k' := 0) (n' := 0) (by omega) (by omega) ?_
    refine zw_eqv (lv' := [(0, .ref h), (1, .int (zI (z))), (2, .int (zI (f))), (3, .int (zI (q))), (4, .int (zI (rdN t z))), (5, .int (zI (0)))]) (by rw [show rdN t z = 0 by omega]) ?_
    exact lpa _ 0 ⟨by omega, fun j hj => by exact absurd hj (Nat.not_lt_zero _)⟩ (Nat.lt_succ_self _)
  · -- 13 -> 16
    refine zw_iconst zd_MO_real_16 ?_
    refine zw_goto 21 zd_MO_real_17 (by decide) ?_
    refine zw_istore (lv' := [(4, .int (zI (1))), (0, .ref h), (1, .int (zI (z))), (2, .int (zI (f))), (3, .int (zI (q)))]) (Nat.le_of_ble_eq_true rfl) rfl zd_MO_real_21 ?_
    refine zw_iconst zd_MO_real_23 ?_
    refine zw_istore (lv' := [(5, .int (zI (0))), (4, .int (zI (1))), (0, .ref h), (1, .int (zI (z))), (2, .int (zI (f))), (3, .int (zI (q)))]) (Nat.le_of_ble_eq_true rfl) rfl zd_MO_real_24 ?_
    refine zw_lpick (lv' := [(0, .ref h), (1, .int (zI (z))), (2, .int (zI (f))), (3, .int (zI (q))), (4, .int (zI (1))), (5, .int (zI (0)))]) [2, 3, 4, 5, 1, 0] rfl ?_
    refine zw_widen (k' := 0) (n' := 0) (by omega) (by omega) ?_
    refine zw_eqv (lv' := [(0, .ref h), (1, .int (zI (z))), (2, .int (zI (f))), (3, .int (zI (q))), (4, .int (zI (rdN t z))), (5, .int (zI (0)))]) (by rw [show rdN t z = 1 by omega]) ?_
    exact lpa _ 0 ⟨by omega, fun j hj => by exact absurd hj (Nat.not_lt_zero _)⟩ (Nat.lt_succ_self _)
set_option maxHeartbeats 4000000 in
set_option maxRecDepth 100000 in
theorem c_MO_real_bad (h : Nat) (t : List Int) (ws : List (Int32 × Int32 × Int32)) (ts : List (List Int)) (op : List Int) (y r ct wh : Int) (fd fr : Nat → Int32) (z : Int) (hz : 0 ≤ z ∧ z ≤ t.length) (f q : Int) (hf : 0 ≤ f ∧ f ≤ q ∧ q ≤ t.length ∧ q - f ≤ 127) (hEq : frE t (scanE sDig t f) ≤ q) (hx : frE t (scanE sDig t f) = q ∨ expP t (frE t (scanE sDig t f)) q) (hw : ws.length < 16384) (hft : realF (rdN t z) (plS t f (frE t (scanE sDig t f)) (scanE sDig t f - f - 1 + rdX t (frE t (scanE sDig t f)) q, 0, (fun _ => 0), 1)) = 0) : zCT zy_MO_real zm_MO_real (0) (0) [.ref h, .int (zI z), .int (zI f), .int (zI q)] [zMOd h (t) (ws) (ts) ([]) (op) (y) (r) (ct) (wh) (fd) (fr)] (some (.int (zI (-1)))) [zMOy h (t) (ws) (ts) (op) (5) (z)] := by
  refine zCT.of [(0, .ref h), (1, .int (zI (z))), (2, .int (zI (f))), (3, .int (zI (q)))] rfl (by decide) rfl (fun h => by first | rfl | cases h) (Nat.le_of_ble_eq_true rfl) (fun X hR => ?_)
  refine zw_unp (fun G ws h => h) (fun x0 hx0 => ?_)
  obtain ⟨⟨at_, ak, an, ab, aw, ay, af, ad, ar⟩, ft, fk, fn, fb, fo, fy, ff⟩ := x0
  obtain ⟨m1, m2, m3, m4, m5⟩ := hx0
  simp only [List.cons_append, List.nil_append]
  dsimp only at m1 m2 m3 m4 m5
  obtain ⟨t1, t2, t3, t4⟩ := id m1
  obtain ⟨w1, w2, w3⟩ := id m2
  obtain ⟨s1, s2, s3, s4, s5, s6⟩ := id m3
  obtain ⟨o1, o2⟩ := id m4
  obtain ⟨d1, d2⟩ := id m5
  obtain ⟨f1, f2, f3, f4, f5⟩ := rd_facts (t := t) (f := f) (by omega)
  obtain ⟨ds, hds⟩ : ∃ ds, dsL (slc t f (frE t (scanE sDig t f))) = ds := ⟨_, rfl⟩
  obtain ⟨wv, hwv⟩ : ∃ wv, scanE sDig t f - f + mE t (frE t (scanE sDig t f)) q = wv := ⟨_, rfl⟩
  have hP : plS t f (frE t (scanE sDig t f)) (scanE sDig t f - f - 1 + rdX t (frE t (scanE sDig t f)) q, 0, (fun _ => 0), 1) = plN ds (scanE sDig t f - f - 1 + rdX t (frE t (scanE sDig t f)) q) ds.length := by unfold plS; rw [dsL_fold, hds, ← plN_all]
  rw [hP] at hft
  have hdr : ∀ x ∈ ds, 0 ≤ x ∧ x ≤ 9 := by
    rw [← hds]
    refine dsL_rg (fun c hc => ?_)
    obtain ⟨j, k1, k2, k3, rfl⟩ := slc_mem (by omega) hc
    rcases (show j < scanE sDig t f ∨ j = scanE sDig t f ∨ scanE sDig t f < j by omega) with c | c | c
    · exact Or.inr (f3 j k1 c)
    · exact Or.inl (by rw [c]; exact f4 (by omega))
    · exact Or.inr (f5 j c k2)
  have hN : ds.length ≤ 127 := by
    rw [← hds]
    have d1 := dsL_len (slc t f (frE t (scanE sDig t f)))
    have d2 := slc_len (t := t) (a := f) (b := frE t (scanE sDig t f)) (by omega) (by omega) (by omega)
    omega
  obtain ⟨mx1, mx2⟩ := mE_X (t := t) (E := frE t (scanE sDig t f)) (q := q) (by omega) hx
  have rn := rdN_rg t z
  have hdg := zdg_rg hdr
  have p6 : p10 6 = 1000000 := by decide
  have hS0 : 0 ≤ scanE sDig t f - f ∧ scanE sDig t f - f ≤ 127 := by omega
  refine zw_aload_n 0 rfl zd_MO_real_0 ?_
  refine zw_iload_n 2 rfl zd_MO_real_1 ?_
  refine zw_iload_n 3 rfl zd_MO_real_2 ?_
  refine zw_callV (As := [.int (zI (f)), .int (zI (q))]) (rest := []) (L2 := [zArB ak (16384) (fk), zArI an (16384) (fn), zArI ab (16384) (fb), zArI aw (64) (fo), zArB ay (131072) (fy), zArI af (16385) (ff), zArB ar (420) (fr)]) (L' := [zObj h 6 [.ref at_, .int (zI (((t.length : Nat) : Int))), .int (zI (r)), .int (zI (((ws.length : Nat) : Int))), .ref ak, .ref an, .ref ab, .ref aw, .int (zI (((op.length : Nat) : Int))), .int (zI (((ts.length : Nat) : Int))), .int (zI (((((ts.flatten ++ ([]))).length : Nat) : Int))), .ref ay, .ref af, .ref ad, .int (zI (((ds.length : Nat) : Int))), .int (zI (wv)), .int (zI (y)), .ref ar], zArB at_ (65536) (ft), zDq ad (ds), zArB ak (16384) (fk), zArI an (16384) (fn), zArI ab (16384) (fb), zArI aw (64) (fo), zArB ay (131072) (fy), zArI af (16385) (ff), zArB ar (420) (fr)]) (stk' := []) (c_MO_read h at_ ak an ab aw ay af ad ar r (((ws.length : Nat) : Int)) (((op.length : Nat) : Int)) (((ts.length : Nat) : Int)) (((((ts.flatten ++ ([]))).length : Nat) : Int)) ct wh y t ft fd m1 d1 f q (by omega) hEq hx ds hds wv hwv) [0, 1, 8] [2, 3, 4, 5, 6, 7, 9] rfl rfl rfl zcal_MO_read zl_MO_132 zin_MO_read zse_MO_read 0 rfl zRv_obj rfl (Nat.le_of_ble_eq_true rfl) (Nat.le_of_ble_eq_true rfl) (by omega) (by omega) rfl (Nat.le_of_ble_eq_true rfl) rfl rfl zd_MO_real_3 ?_
  refine zw_sub (L' := [zDq ad (ds), zObj h 6 [.ref at_, .int (zI (((t.length : Nat) : Int))), .int (zI (r)), .int (zI (((ws.length : Nat) : Int))), .ref ak, .ref an, .ref ab, .ref aw, .int (zI (((op.length : Nat) : Int))), .int (zI (((ts.length : Nat) : Int))), .int (zI (((((ts.flatten ++ ([]))).length : Nat) : Int))), .ref ay, .ref af, .ref ad, .int (zI (((ds.length : Nat) : Int))), .int (zI (wv)), .int (zI (y)), .ref ar], zArB at_ (65536) (ft), zArB ak (16384) (fk), zArI an (16384) (fn), zArI ab (16384) (fb), zArI aw (64) (fo), zArB ay (131072) (fy), zArI af (16385) (ff), zArB ar (420) (fr)]) [2, 0, 1, 3, 4, 5, 6, 7, 8, 9] rfl rfl ?_
  refine zw_unp (fun G ws h => h) (fun gd hq_ => ?_)
  obtain ⟨hd1, hd2⟩ := hq_
  simp only [List.cons_append, List.nil_append]
  refine zw_sub (L' := [zObj h 6 [.ref at_, .int (zI (((t.length : Nat) : Int))), .int (zI (r)), .int (zI (((ws.length : Nat) : Int))), .ref ak, .ref an, .ref ab, .ref aw, .int (zI (((op.length : Nat) : Int))), .int (zI (((ts.length : Nat) : Int))), .int (zI (((((ts.flatten ++ ([]))).length : Nat) : Int))), .ref ay, .ref af, .ref ad, .int (zI (((ds.length : Nat) : Int))), .int (zI (wv)), .int (zI (y)), .ref ar], zArB at_ (65536) (ft), zArB ak (16384) (fk), zArI an (16384) (fn), zArI ab (16384) (fb), zArI aw (64) (fo), zArB ay (131072) (fy), zArI af (16385) (ff), zArB ad (400) (gd), zArB ar (420) (fr)]) [1, 2, 3, 4, 5, 6, 7, 8, 0, 9] rfl rfl ?_
  have jn : ∀ (x : Int), (0 ≤ x ∧ x ≤ ds.length) → (∀ j, j < x.toNat → zdg ds j = 0) → (x = ds.length ∨ (x < ds.length ∧ zdg ds x.toNat ≠ 0)) → zZ X zm_MO_real (0) (0) (0) (0) [zObj h 6 [.ref at_, .int (zI (((t.length : Nat) : Int))), .int (zI (r)), .int (zI (((ws.length : Nat) : Int))), .ref ak, .ref an, .ref ab, .ref aw, .int (zI (((op.length : Nat) : Int))), .int (zI (((ts.length : Nat) : Int))), .int (zI (((((ts.flatten ++ ([]))).length : Nat) : Int))), .ref ay, .ref af, .ref ad, .int (zI (((ds.length : Nat) : Int))), .int (zI (wv)), .int (zI (y)), .ref ar], zArB at_ (65536) (ft), zArB ak (16384) (fk), zArI an (16384) (fn), zArI ab (16384) (fb), zArI aw (64) (fo), zArB ay (131072) (fy), zArI af (16385) (ff), zArB ad (400) (gd), zArB ar (420) (fr)] 51 [(0, .ref h), (1, .int (zI (z))), (2, .int (zI (f))), (3, .int (zI (q))), (4, .int (zI (rdN t z))), (5, .int (zI (x)))] [] := by
    intro x j0 j1 j2
    refine zw_iload 5 rfl zd_MO_real_51 ?_
    refine zw_aload_n 0 rfl zd_MO_real_53 ?_
    refine zw_get zc_MO 0 14 rfl (by decide) zf_MO_136 rfl zd_MO_real_54 ?_
    refine zw_icmp_eq 72 (by omega) (by omega) zd_MO_real_57 (by decide) (fun c57 => ?_) (fun c57 => ?_)
    · -- 57 -> 72
      refine zw_pack (at0 := zMOd h (t) (ws) (ts) ([]) (op) (y) (r) (((ds.length : Nat) : Int)) (wv) (gd) (fr)) (Ls := [zObj h 6 [.ref at_, .int (zI (((t.length : Nat) : Int))), .int (zI (r)), .int (zI (((ws.length : Nat) : Int))), .ref ak, .ref an, .ref ab, .ref aw, .int (zI (((op.length : Nat) : Int))), .int (zI (((ts.length : Nat) : Int))), .int (zI (((((ts.flatten ++ ([]))).length : Nat) : Int))), .ref ay, .ref af, .ref ad, .int (zI (((ds.length : Nat) : Int))), .int (zI (wv)), .int (zI (y)), .ref ar], zArB at_ (65536) (ft), zArB ak (16384) (fk), zArI an (16384) (fn), zArI ab (16384) (fb), zArI aw (64) (fo), zArB ay (131072) (fy), zArI af (16385) (ff), zArB ad (400) (gd), zArB ar (420) (fr)]) (L2 := []) rfl (fun G w h => ⟨((at_, ak, an, ab, aw, ay, af, ad, ar), ft, fk, fn, fb, fo, fy, ff), ⟨m1, m2, m3, m4, ⟨hd2, d2⟩⟩, h⟩) ?_
      refine zw_aload_n 0 rfl zd_MO_real_72 ?_
      refine zw_iconst zd_MO_real_73 ?_
      refine zw_iconst zd_MO_real_74 ?_
      refine zw_iload_n 1 rfl zd_MO_real_75 ?_
      refine zw_callV (As := [.int (zI (2)), .int (zI (0)), .int (zI (z))]) (rest := []) (L2 := []) (L' := [zMOd h (t) (ws ++ [(zI 2, (zI (0)), (zI (z)))]) (ts) ([]) (op) (y) (r) (((ds.length : Nat) : Int)) (wv) (gd) (fr)]) (stk' := []) (c_MO_word h t ws ts ([]) op y r (((ds.length : Nat) : Int)) wv gd fr 2 (zI (0)) (zI (z)) (by omega) (by omega)) [0] [] rfl rfl rfl zcal_MO_word zl_MO_110 zin_MO_word zse_MO_word 0 rfl zRv_MOd rfl (Nat.le_of_ble_eq_true rfl) (Nat.le_of_ble_eq_true rfl) (by omega) (by omega) rfl (Nat.le_of_ble_eq_true rfl) rfl rfl zd_MO_real_76 ?_
      refine zw_iload_n 3 rfl zd_MO_real_79 ?_
      have lo := real_low (ng := rdN t z) (P0 := scanE sDig t f - f - 1 + rdX t (frE t (scanE sDig t f)) q) hdr (fun i hi hne => by
        have : ¬ i < x.toNat := fun c => hne (j1 i c)
        omega)
      have e9 : wholeV (rdN t z) (realSum (rdN t z) (plN ds (scanE sDig t f - f - 1 + rdX t (frE t (scanE sDig t f)) q) ds.length)) = 0 := by rw [lo.2]; unfold wholeV; split <;> rfl
      exfalso; omega
    · -- 57 -> 60
      refine zw_aload_n 0 rfl zd_MO_real_60 ?_
      refine zw_get zc_MO 0 15 rfl (by decide) zf_MO_139 rfl zd_MO_real_61 ?_
      refine zw_iload 5 rfl zd_MO_real_64 ?_
      refine zw_isub zd_MO_real_66 ?_
      refine zw_bipush rfl zd_MO_real_67 ?_
      refine zw_icmp_ge 81 (by omega) (by omega) zd_MO_real_69 (by decide) (fun c69 => ?_) (fun c69 => ?_)
      · -- 69 -> 81
        refine zw_aload_n 0 rfl zd_MO_real_81 ?_
        refine zw_get zc_MO 0 15 rfl (by decide) zf_MO_139 rfl zd_MO_real_82 ?_
        refine zw_iload 5 rfl zd_MO_real_85 ?_
        refine zw_isub zd_MO_real_87 ?_
        refine zw_bipush rfl zd_MO_real_88 ?_
        refine zw_icmp_le 100 (by omega) (by omega) zd_MO_real_90 (by decide) (fun c90 => ?_) (fun c90 => ?_)
        · -- 90 -> 100
          refine zw_lconst (a := 0) rfl zd_MO_real_100 ?_
          refine zw_lstore (lv' := [(6, .long (zJ (0))), (0, .ref h), (1, .int (zI (z))), (2, .int (zI (f))), (3, .int (zI (q))), (4, .int (zI (rdN t z))), (5, .int (zI (x)))]) (Nat.le_of_ble_eq_true rfl) rfl zd_MO_real_101 ?_
          refine zw_iconst zd_MO_real_103 ?_
          refine zw_istore (lv' := [(8, .int (zI (0))), (6, .long (zJ (0))), (0, .ref h), (1, .int (zI (z))), (2, .int (zI (f))), (3, .int (zI (q))), (4, .int (zI (rdN t z))), (5, .int (zI (x)))]) (Nat.le_of_ble_eq_true rfl) rfl zd_MO_real_104 ?_
          have hne : zdg ds x.toNat ≠ 0 := by
            rcases j2 with c | c
            · omega
            · exact c.2
          have hP0 : scanE sDig t f - f - 1 + rdX t (frE t (scanE sDig t f)) q = wv - 1 := by omega
          rw [hP0] at hft
          have hn0 : mFn ds wv = (-wv).toNat + (ds.length - wv.toNat) := rfl
          have vb := fv_rg (d := zdg ds) (n := wv.toNat) (fun j _ => hdg j)
          have vl := fv_lt (d := zdg ds) (f := x.toNat) (n := wv.toNat) (fun j _ => hdg j) (fun j hj _ => j1 j hj)
          have vm := p10_mono (a := wv.toNat - x.toNat) (b := 6) (by omega)
          have jb : ∀ (u a zz n : Int), (u = 65536 * fv (zdg ds) wv.toNat ∧ a = (wv.toNat : Int) ∧ zz = ((-wv).toNat : Int) ∧ n = ((mFn ds wv : Nat) : Int)) → zZ X zm_MO_real (0) (0) (0) (0) [zObj h 6 [.ref at_, .int (zI (((t.length : Nat) : Int))), .int (zI (r)), .int (zI (((ws.length : Nat) : Int))), .ref ak, .ref an, .ref ab, .ref aw, .int (zI (((op.length : Nat) : Int))), .int (zI (((ts.length : Nat) : Int))), .int (zI (((((ts.flatten ++ ([]))).length : Nat) : Int))), .ref ay, .ref af, .ref ad, .int (zI (((ds.length : Nat) : Int))), .int (zI (wv)), .int (zI (y)), .ref ar], zArB at_ (65536) (ft), zArB ak (16384) (fk), zArI an (16384) (fn), zArI ab (16384) (fb), zArI aw (64) (fo), zArB ay (131072) (fy), zArI af (16385) (ff), zArB ad (400) (gd), zArB ar (420) (fr)] 219 [(0, .ref h), (1, .int (zI (z))), (2, .int (zI (f))), (3, .int (zI (q))), (4, .int (zI (rdN t z))), (6, .long (zJ (u))), (8, .int (zI (a))), (9, .int (zI (zz))), (10, .int (zI (n)))] [] := by
            intro u a zz n jx0
            obtain ⟨hu, ha, hzz, hn⟩ := jx0
            subst hn
            have lpc : ∀ (fuel : Nat) (f2 : Nat → Int32) (k : Int), ((0 ≤ k ∧ k ≤ ((mFn ds wv : Nat) : Int)) ∧ (∀ j, j < k.toNat → f2 j = zI (mFr ds wv j)) ∧ ∀ j, fits .byte (.int (f2 j)) = true) → (((mFn ds wv : Nat) : Int) - k).toNat < fuel → zZ X zm_MO_real (0) (0) (0) (0) [zObj h 6 [.ref at_, .int (zI (((t.length : Nat) : Int))), .int (zI (r)), .int (zI (((ws.length : Nat) : Int))), .ref ak, .ref an, .ref ab, .ref aw, .int (zI (((op.length : Nat) : Int))), .int (zI (((ts.length : Nat) : Int))), .int (zI (((((ts.flatten ++ ([]))).length : Nat) : Int))), .ref ay, .ref af, .ref ad, .int (zI (((ds.length : Nat) : Int))), .int (zI (wv)), .int (zI (y)), .ref ar], zArB at_ (65536) (ft), zArB ak (16384) (fk), zArI an (16384) (fn), zArI ab (16384) (fb), zArI aw (64) (fo), zArB ay (131072) (fy), zArI af (16385) (ff), zArB ad (400) (gd), zArB ar (420) (f2)] 222 [(0, .ref h), (1, .int (zI (z))), (2, .int (zI (f))), (3, .int (zI (q))), (4, .int (zI (rdN t z))), (6, .long (zJ (u))), (8, .int (zI (a))), (9, .int (zI (zz))), (10, .int (zI (((mFn ds wv : Nat) : Int)))), (11, .int (zI (k)))] [] := by
              intro fuel
              induction fuel with
              | zero => intro f2 k g0 hm; exact absurd hm (Nat.not_lt_zero _)
              | succ fuel ih =>
                intro f2 k g0 hm
                obtain ⟨g1, g2, g3⟩ := g0
                refine zw_iload 9 rfl zd_MO_real_222 ?_
                refine zw_iload 8 rfl zd_MO_real_224 ?_
                refine zw_icmp_ge 266 (by omega) (by omega) zd_MO_real_226 (by decide) (fun c226 => ?_) (fun c226 => ?_)
                · -- 226 -> 266
                  refine zw_sub (L' := [zArB ar (420) (f2), zObj h 6 [.ref at_, .int (zI (((t.length : Nat) : Int))), .int (zI (r)), .int (zI (((ws.length : Nat) : Int))), .ref ak, .ref an, .ref ab, .ref aw, .int (zI (((op.length : Nat) : Int))), .int (zI (((ts.length : Nat) : Int))), .int (zI (((((ts.flatten ++ ([]))).length : Nat) : Int))), .ref ay, .ref af, .ref ad, .int (zI (((ds.length : Nat) : Int))), .int (zI (wv)), .int (zI (y)), .ref ar], zArB at_ (65536) (ft), zArB ak (16384) (fk), zArI an (16384) (fn), zArI ab (16384) (fb), zArI aw (64) (fo), zArB ay (131072) (fy), zArI af (16385) (ff), zArB ad (400) (gd)]) [9, 0, 1, 2, 3, 4, 5, 6, 7, 8] rfl rfl ?_
                  refine zw_pack (at0 := zFq ar (mFn ds wv) (mFr ds wv)) (Ls := [zArB ar (420) (f2)]) (L2 := [zObj h 6 [.ref at_, .int (zI (((t.length : Nat) : Int))), .int (zI (r)), .int (zI (((ws.length : Nat) : Int))), .ref ak, .ref an, .ref ab, .ref aw, .int (zI (((op.length : Nat) : Int))), .int (zI (((ts.length : Nat) : Int))), .int (zI (((((ts.flatten ++ ([]))).length : Nat) : Int))), .ref ay, .ref af, .ref ad, .int (zI (((ds.length : Nat) : Int))), .int (zI (wv)), .int (zI (y)), .ref ar], zArB at_ (65536) (ft), zArB ak (16384) (fk), zArI an (16384) (fn), zArI ab (16384) (fb), zArI aw (64) (fo), zArB ay (131072) (fy), zArI af (16385) (ff), zArB ad (400) (gd)]) rfl (fun G w h => ⟨f2, ⟨⟨fun j hj => g2 j (by omega), fun j _ => mFr_rg hdr wv j⟩, g3⟩, h⟩) ?_
                  have lpd : ∀ (fuel : Nat) (d : Nat → Int) (b : Int) (i : Int), (((0 ≤ i ∧ i ≤ 17) ∧ (0 ≤ b ∧ b < p2 i.toNat)) ∧ (∀ j, j < mFn ds wv → 0 ≤ d j ∧ d j ≤ 9) ∧ b * p10 (mFn ds wv) + fv d (mFn ds wv) = p2 i.toNat * fv (mFr ds wv) (mFn ds wv)) → (17 - i).toNat < fuel → zZ X zm_MO_real (0) (0) (0) (0) [zFq ar (mFn ds wv) (d), zObj h 6 [.ref at_, .int (zI (((t.length : Nat) : Int))), .int (zI (r)), .int (zI (((ws.length : Nat) : Int))), .ref ak, .ref an, .ref ab, .ref aw, .int (zI (((op.length : Nat) : Int))), .int (zI (((ts.length : Nat) : Int))), .int (zI (((((ts.flatten ++ ([]))).length : Nat) : Int))), .ref ay, .ref af, .ref ad, .int (zI (((ds.length : Nat) : Int))), .int (zI (wv)), .int (zI (y)), .ref ar], zArB at_ (65536) (ft), zArB ak (16384) (fk), zArI an (16384) (fn), zArI ab (16384) (fb), zArI aw (64) (fo), zArB ay (131072) (fy), zArI af (16385) (ff), zArB ad (400) (gd)] 272 [(0, .ref h), (1, .int (zI (z))), (2, .int (zI (f))), (3, .int (zI (q))), (4, .int (zI (rdN t z))), (6, .long (zJ (u))), (8, .int (zI (a))), (9, .int (zI (zz))), (10, .int (zI (((mFn ds wv : Nat) : Int)))), (11, .long (zJ (b))), (13, .int (zI (i)))] [] := by
                    intro fuel
                    induction fuel with
                    | zero => intro d b i g0 hm; exact absurd hm (Nat.not_lt_zero _)
                    | succ fuel ih =>
                      intro d b i g0 hm
                      obtain ⟨⟨u1, u2⟩, u3, u4⟩ := g0
                      have p17 := p2_le i.toNat (by omega)
                      refine zw_iload 10 rfl zd_MO_real_272 ?_
                      refine zw_bipush rfl zd_MO_real_274 ?_
                      refine zw_icmp_ge 301 (by omega) (by omega) zd_MO_real_276 (by decide) (fun c276 => ?_) (fun c276 => ?_)
                      · -- 276 -> 301
                        have e17 : p2 i.toNat = 131072 := by rw [show i.toNat = 17 by omega]; rfl
                        rw [e17] at u4 u2
                        have fR := fv_rg u3
                        have rb := rnd_bits (ng := rdN t z) (W := fv (zdg ds) wv.toNat) (p10_pos (mFn ds wv)) u4.symm fR
                        refine zw_unp (fun G ws h => h) (fun f4 hq_ => ?_)
                        obtain ⟨⟨hq1, hq2⟩, hq3⟩ := hq_
                        simp only [List.cons_append, List.nil_append]
                        refine zw_sub (L' := [zObj h 6 [.ref at_, .int (zI (((t.length : Nat) : Int))), .int (zI (r)), .int (zI (((ws.length : Nat) : Int))), .ref ak, .ref an, .ref ab, .ref aw, .int (zI (((op.length : Nat) : Int))), .int (zI (((ts.length : Nat) : Int))), .int (zI (((((ts.flatten ++ ([]))).length : Nat) : Int))), .ref ay, .ref af, .ref ad, .int (zI (((ds.length : Nat) : Int))), .int (zI (wv)), .int (zI (y)), .ref ar], zArB at_ (65536) (ft), zArB ak (16384) (fk), zArI an (16384) (fn), zArI ab (16384) (fb), zArI aw (64) (fo), zArB ay (131072) (fy), zArI af (16385) (ff), zArB ad (400) (gd), zArB ar (420) (f4)]) [1, 2, 3, 4, 5, 6, 7, 8, 9, 0] rfl rfl ?_
                        have je : ∀ (e : Int), ((e = 1 ∧ b % 2 = 1 ∧ (rdN t z = 0 ∨ fv d (mFn ds wv) ≠ 0)) ∨ (e = 0 ∧ ¬ (b % 2 = 1 ∧ (rdN t z = 0 ∨ fv d (mFn ds wv) ≠ 0)))) → zZ X zm_MO_real (0) (0) (0) (0) [zObj h 6 [.ref at_, .int (zI (((t.length : Nat) : Int))), .int (zI (r)), .int (zI (((ws.length : Nat) : Int))), .ref ak, .ref an, .ref ab, .ref aw, .int (zI (((op.length : Nat) : Int))), .int (zI (((ts.length : Nat) : Int))), .int (zI (((((ts.flatten ++ ([]))).length : Nat) : Int))), .ref ay, .ref af, .ref ad, .int (zI (((ds.length : Nat) : Int))), .int (zI (wv)), .int (zI (y)), .ref ar], zArB at_ (65536) (ft), zArB ak (16384) (fk), zArI an (16384) (fn), zArI ab (16384) (fb), zArI aw (64) (fo), zArB ay (131072) (fy), zArI af (16385) (ff), zArB ad (400) (gd), zArB ar (420) (f4)] 374 [(0, .ref h), (1, .int (zI (z))), (3, .int (zI (q))), (4, .int (zI (rdN t z))), (6, .long (zJ (u))), (11, .long (zJ (b))), (16, .int (zI (e)))] [] := by
                          intro e j0
                          refine zw_lload 4 rfl zd_MO_real_374 ?_
                          refine zw_lload 5 rfl zd_MO_real_376 ?_
                          refine zw_ldc2 zk_MO_144 2 rfl zd_MO_real_378 ?_
                          refine zw_ldiv (by omega) (by omega) zd_MO_real_381 ?_
                          refine zw_iload 6 rfl zd_MO_real_382 ?_
                          refine zw_if_eq 391 (by omega) zd_MO_real_384 (by decide) (fun c384 => ?_) (fun c384 => ?_)
                          · -- 384 -> 391
                            refine zw_lconst (a := 0) rfl zd_MO_real_391 ?_
                            refine zw_ladd zd_MO_real_392 ?_
                            refine zw_ladd zd_MO_real_393 ?_
                            refine zw_lstore (lv' := [(6, .long (zJ (u + ((b / 2) + 0)))), (0, .ref h), (1, .int (zI (z))), (3, .int (zI (q))), (4, .int (zI (rdN t z))), (11, .long (zJ (b))), (16, .int (zI (e)))]) (Nat.le_of_ble_eq_true rfl) rfl zd_MO_real_394 ?_
                            have mid := real_mid (ng := rdN t z) (wh := wv) (f := x.toNat) (U := u + ((b / 2) + 0)) hdr (by omega) j1 hne hN (by omega) (by rw [rb]; first | (rw [if_pos (by omega)]; omega) | (rw [if_neg (by omega)]; omega)) (by omega)
                            refine zw_lload 0 rfl zd_MO_real_396 ?_
                            refine zw_ldc2 zk_MO_120 2147483647 rfl zd_MO_real_398 ?_
                            refine zw_lcmpR zd_MO_real_401 ?_
                            refine zw_lif_le 412 (by omega) (by omega) zd_MO_real_402 (by decide) (fun c402 => ?_) (fun c402 => ?_)
                            · -- 402 -> 412
                              refine zw_pack (at0 := zMOd h (t) (ws) (ts) ([]) (op) (y) (r) (((ds.length : Nat) : Int)) (wv) (gd) (f4)) (Ls := [zObj h 6 [.ref at_, .int (zI (((t.length : Nat) : Int))), .int (zI (r)), .int (zI (((ws.length : Nat) : Int))), .ref ak, .ref an, .ref ab, .ref aw, .int (zI (((op.length : Nat) : Int))), .int (zI (((ts.length : Nat) : Int))), .int (zI (((((ts.flatten ++ ([]))).length : Nat) : Int))), .ref ay, .ref af, .ref ad, .int (zI (((ds.length : Nat) : Int))), .int (zI (wv)), .int (zI (y)), .ref ar], zArB at_ (65536) (ft), zArB ak (16384) (fk), zArI an (16384) (fn), zArI ab (16384) (fb), zArI aw (64) (fo), zArB ay (131072) (fy), zArI af (16385) (ff), zArB ad (400) (gd), zArB ar (420) (f4)]) (L2 := []) rfl (fun G w h => ⟨((at_, ak, an, ab, aw, ay, af, ad, ar), ft, fk, fn, fb, fo, fy, ff), ⟨m1, m2, m3, m4, ⟨hd2, hq3⟩⟩, h⟩) ?_
                              refine zw_aload_n 1 rfl zd_MO_real_412 ?_
                              refine zw_iconst zd_MO_real_413 ?_
                              refine zw_iload 4 rfl zd_MO_real_414 ?_
                              refine zw_if_eq 425 (by omega) zd_MO_real_416 (by decide) (fun c416 => ?_) (fun c416 => ?_)
                              · -- 416 -> 425
                                refine zw_lload 0 rfl zd_MO_real_425 ?_
                                refine zw_l2i zd_MO_real_427 ?_
                                refine zw_iload_n 2 rfl zd_MO_real_428 ?_
                                refine zw_callV (As := [.int (zI (2)), .int (zI (u + ((b / 2) + 0))), .int (zI (z))]) (rest := []) (L2 := []) (L' := [zMOd h (t) (ws ++ [(zI 2, (zI (u + ((b / 2) + 0))), (zI (z)))]) (ts) ([]) (op) (y) (r) (((ds.length : Nat) : Int)) (wv) (gd) (f4)]) (stk' := []) (c_MO_word h t ws ts ([]) op y r (((ds.length : Nat) : Int)) wv gd f4 2 (zI (u + ((b / 2) + 0))) (zI (z)) (by omega) (by omega)) [0] [] rfl rfl rfl zcal_MO_word zl_MO_110 zin_MO_word zse_MO_word 0 rfl zRv_MOd rfl (Nat.le_of_ble_eq_true rfl) (Nat.le_of_ble_eq_true rfl) (by omega) (by omega) rfl (Nat.le_of_ble_eq_true rfl) rfl rfl zd_MO_real_429 ?_
                                refine zw_iload_n 3 rfl zd_MO_real_432 ?_
                                have mid2 := mid.2 (by omega)
                                have e9 : wholeV (rdN t z) (realSum (rdN t z) (plN ds (wv - 1) ds.length)) = u + ((b / 2) + 0) := by rw [mid2.2]; unfold wholeV; split <;> omega
                                exfalso; omega
                              · -- 416 -> 419
                                refine zw_lload 0 rfl zd_MO_real_419 ?_
                                refine zw_lneg zd_MO_real_421 ?_
                                refine zw_goto 427 zd_MO_real_422 (by decide) ?_
                                refine zw_l2i zd_MO_real_427 ?_
                                refine zw_iload_n 2 rfl zd_MO_real_428 ?_
                                refine zw_callV (As := [.int (zI (2)), .int (zI (-(u + ((b / 2) + 0)))), .int (zI (z))]) (rest := []) (L2 := []) (L' := [zMOd h (t) (ws ++ [(zI 2, (zI (-(u + ((b / 2) + 0)))), (zI (z)))]) (ts) ([]) (op) (y) (r) (((ds.length : Nat) : Int)) (wv) (gd) (f4)]) (stk' := []) (c_MO_word h t ws ts ([]) op y r (((ds.length : Nat) : Int)) wv gd f4 2 (zI (-(u + ((b / 2) + 0)))) (zI (z)) (by omega) (by omega)) [0] [] rfl rfl rfl zcal_MO_word zl_MO_110 zin_MO_word zse_MO_word 0 rfl zRv_MOd rfl (Nat.le_of_ble_eq_true rfl) (Nat.le_of_ble_eq_true rfl) (by omega) (by omega) rfl (Nat.le_of_ble_eq_true rfl) rfl rfl zd_MO_real_429 ?_
                                refine zw_iload_n 3 rfl zd_MO_real_432 ?_
                                have mid2 := mid.2 (by omega)
                                have e9 : wholeV (rdN t z) (realSum (rdN t z) (plN ds (wv - 1) ds.length)) = -(u + ((b / 2) + 0)) := by rw [mid2.2]; unfold wholeV; split <;> omega
                                exfalso; omega
                            · -- 402 -> 405
                              refine zw_pack (at0 := zMOd h (t) (ws) (ts) ([]) (op) (y) (r) (((ds.length : Nat) : Int)) (wv) (gd) (f4)) (Ls := [zObj h 6 [.ref at_, .int (zI (((t.length : Nat) : Int))), .int (zI (r)), .int (zI (((ws.length : Nat) : Int))), .ref ak, .ref an, .ref ab, .ref aw, .int (zI (((op.length : Nat) : Int))), .int (zI (((ts.length : Nat) : Int))), .int (zI (((((ts.flatten ++ ([]))).length : Nat) : Int))), .ref ay, .ref af, .ref ad, .int (zI (((ds.length : Nat) : Int))), .int (zI (wv)), .int (zI (y)), .ref ar], zArB at_ (65536) (ft), zArB ak (16384) (fk), zArI an (16384) (fn), zArI ab (16384) (fb), zArI aw (64) (fo), zArB ay (131072) (fy), zArI af (16385) (ff), zArB ad (400) (gd), zArB ar (420) (f4)]) (L2 := []) rfl (fun G w h => ⟨((at_, ak, an, ab, aw, ay, af, ad, ar), ft, fk, fn, fb, fo, fy, ff), ⟨m1, m2, m3, m4, ⟨hd2, hq3⟩⟩, h⟩) ?_
                              refine zw_aload_n 1 rfl zd_MO_real_405 ?_
                              refine zw_iconst zd_MO_real_406 ?_
                              refine zw_iload_n 2 rfl zd_MO_real_407 ?_
                              refine zw_callV (As := [.int (zI (5)), .int (zI (z))]) (rest := []) (L2 := []) (L' := [zMOd h (t) (ws) (ts) ([]) (op) (5) (z) (((ds.length : Nat) : Int)) (wv) (gd) (f4)]) (stk' := [.int (zI (-1))]) (c_MO_fail h t ws ts ([]) op y r (((ds.length : Nat) : Int)) wv gd f4 5 z) [0] [] rfl rfl rfl zcal_MO_fail zl_MO_80 zin_MO_fail zse_MO_fail 0 rfl zRv_MOd rfl (Nat.le_of_ble_eq_true rfl) (Nat.le_of_ble_eq_true rfl) (by omega) (by omega) rfl (Nat.le_of_ble_eq_true rfl) rfl rfl zd_MO_real_408 ?_
                              have mid1 := mid.1 (by omega)
                              refine zw_pack (at0 := zMOy h (t) (ws) (ts) (op) (5) (z)) (Ls := [zMOd h (t) (ws) (ts) ([]) (op) (5) (z) (((ds.length : Nat) : Int)) (wv) (gd) (f4)]) (L2 := []) rfl (fun G w h => ⟨([], ((ds.length : Nat) : Int), wv, gd, f4), fun _ => rfl, h⟩) ?_
                              exact zw_iret hR rfl rfl rfl (by omega) (by omega) zd_MO_real_411
                          · -- 384 -> 387
                            refine zw_lconst (a := 1) rfl zd_MO_real_387 ?_
                            refine zw_goto 392 zd_MO_real_388 (by decide) ?_
                            refine zw_ladd zd_MO_real_392 ?_
                            refine zw_ladd zd_MO_real_393 ?_
                            refine zw_lstore (lv' := [(6, .long (zJ (u + ((b / 2) + 1)))), (0, .ref h), (1, .int (zI (z))), (3, .int (zI (q))), (4, .int (zI (rdN t z))), (11, .long (zJ (b))), (16, .int (zI (e)))]) (Nat.le_of_ble_eq_true rfl) rfl zd_MO_real_394 ?_
                            have mid := real_mid (ng := rdN t z) (wh := wv) (f := x.toNat) (U := u + ((b / 2) + 1)) hdr (by omega) j1 hne hN (by omega) (by rw [rb]; first | (rw [if_pos (by omega)]; omega) | (rw [if_neg (by omega)]; omega)) (by omega)
                            refine zw_lload 0 rfl zd_MO_real_396 ?_
                            refine zw_ldc2 zk_MO_120 2147483647 rfl zd_MO_real_398 ?_
                            refine zw_lcmpR zd_MO_real_401 ?_
                            refine zw_lif_le 412 (by omega) (by omega) zd_MO_real_402 (by decide) (fun c402 => ?_) (fun c402 => ?_)
                            · -- 402 -> 412
                              refine zw_pack (at0 := zMOd h (t) (ws) (ts) ([]) (op) (y) (r) (((ds.length : Nat) : Int)) (wv) (gd) (f4)) (Ls := [zObj h 6 [.ref at_, .int (zI (((t.length : Nat) : Int))), .int (zI (r)), .int (zI (((ws.length : Nat) : Int))), .ref ak, .ref an, .ref ab, .ref aw, .int (zI (((op.length : Nat) : Int))), .int (zI (((ts.length : Nat) : Int))), .int (zI (((((ts.flatten ++ ([]))).length : Nat) : Int))), .ref ay, .ref af, .ref ad, .int (zI (((ds.length : Nat) : Int))), .int (zI (wv)), .int (zI (y)), .ref ar], zArB at_ (65536) (ft), zArB ak (16384) (fk), zArI an (16384) (fn), zArI ab (16384) (fb), zArI aw (64) (fo), zArB ay (131072) (fy), zArI af (16385) (ff), zArB ad (400) (gd), zArB ar (420) (f4)]) (L2 := []) rfl (fun G w h => ⟨((at_, ak, an, ab, aw, ay, af, ad, ar), ft, fk, fn, fb, fo, fy, ff), ⟨m1, m2, m3, m4, ⟨hd2, hq3⟩⟩, h⟩) ?_
                              refine zw_aload_n 1 rfl zd_MO_real_412 ?_
                              refine zw_iconst zd_MO_real_413 ?_
                              refine zw_iload 4 rfl zd_MO_real_414 ?_
                              refine zw_if_eq 425 (by omega) zd_MO_real_416 (by decide) (fun c416 => ?_) (fun c416 => ?_)
                              · -- 416 -> 425
                                refine zw_lload 0 rfl zd_MO_real_425 ?_
                                refine zw_l2i zd_MO_real_427 ?_
                                refine zw_iload_n 2 rfl zd_MO_real_428 ?_
                                refine zw_callV (As := [.int (zI (2)), .int (zI (u + ((b / 2) + 1))), .int (zI (z))]) (rest := []) (L2 := []) (L' := [zMOd h (t) (ws ++ [(zI 2, (zI (u + ((b / 2) + 1))), (zI (z)))]) (ts) ([]) (op) (y) (r) (((ds.length : Nat) : Int)) (wv) (gd) (f4)]) (stk' := []) (c_MO_word h t ws ts ([]) op y r (((ds.length : Nat) : Int)) wv gd f4 2 (zI (u + ((b / 2) + 1))) (zI (z)) (by omega) (by omega)) [0] [] rfl rfl rfl zcal_MO_word zl_MO_110 zin_MO_word zse_MO_word 0 rfl zRv_MOd rfl (Nat.le_of_ble_eq_true rfl) (Nat.le_of_ble_eq_true rfl) (by omega) (by omega) rfl (Nat.le_of_ble_eq_true rfl) rfl rfl zd_MO_real_429 ?_
                                refine zw_iload_n 3 rfl zd_MO_real_432 ?_
                                have mid2 := mid.2 (by omega)
                                have e9 : wholeV (rdN t z) (realSum (rdN t z) (plN ds (wv - 1) ds.length)) = u + ((b / 2) + 1) := by rw [mid2.2]; unfold wholeV; split <;> omega
                                exfalso; omega
                              · -- 416 -> 419
                                refine zw_lload 0 rfl zd_MO_real_419 ?_
                                refine zw_lneg zd_MO_real_421 ?_
                                refine zw_goto 427 zd_MO_real_422 (by decide) ?_
                                refine zw_l2i zd_MO_real_427 ?_
                                refine zw_iload_n 2 rfl zd_MO_real_428 ?_
                                refine zw_callV (As := [.int (zI (2)), .int (zI (-(u + ((b / 2) + 1)))), .int (zI (z))]) (rest := []) (L2 := []) (L' := [zMOd h (t) (ws ++ [(zI 2, (zI (-(u + ((b / 2) + 1)))), (zI (z)))]) (ts) ([]) (op) (y) (r) (((ds.length : Nat) : Int)) (wv) (gd) (f4)]) (stk' := []) (c_MO_word h t ws ts ([]) op y r (((ds.length : Nat) : Int)) wv gd f4 2 (zI (-(u + ((b / 2) + 1)))) (zI (z)) (by omega) (by omega)) [0] [] rfl rfl rfl zcal_MO_word zl_MO_110 zin_MO_word zse_MO_word 0 rfl zRv_MOd rfl (Nat.le_of_ble_eq_true rfl) (Nat.le_of_ble_eq_true rfl) (by omega) (by omega) rfl (Nat.le_of_ble_eq_true rfl) rfl rfl zd_MO_real_429 ?_
                                refine zw_iload_n 3 rfl zd_MO_real_432 ?_
                                have mid2 := mid.2 (by omega)
                                have e9 : wholeV (rdN t z) (realSum (rdN t z) (plN ds (wv - 1) ds.length)) = -(u + ((b / 2) + 1)) := by rw [mid2.2]; unfold wholeV; split <;> omega
                                exfalso; omega
                            · -- 402 -> 405
                              refine zw_pack (at0 := zMOd h (t) (ws) (ts) ([]) (op) (y) (r) (((ds.length : Nat) : Int)) (wv) (gd) (f4)) (Ls := [zObj h 6 [.ref at_, .int (zI (((t.length : Nat) : Int))), .int (zI (r)), .int (zI (((ws.length : Nat) : Int))), .ref ak, .ref an, .ref ab, .ref aw, .int (zI (((op.length : Nat) : Int))), .int (zI (((ts.length : Nat) : Int))), .int (zI (((((ts.flatten ++ ([]))).length : Nat) : Int))), .ref ay, .ref af, .ref ad, .int (zI (((ds.length : Nat) : Int))), .int (zI (wv)), .int (zI (y)), .ref ar], zArB at_ (65536) (ft), zArB ak (16384) (fk), zArI an (16384) (fn), zArI ab (16384) (fb), zArI aw (64) (fo), zArB ay (131072) (fy), zArI af (16385) (ff), zArB ad (400) (gd), zArB ar (420) (f4)]) (L2 := []) rfl (fun G w h => ⟨((at_, ak, an, ab, aw, ay, af, ad, ar), ft, fk, fn, fb, fo, fy, ff), ⟨m1, m2, m3, m4, ⟨hd2, hq3⟩⟩, h⟩) ?_
                              refine zw_aload_n 1 rfl zd_MO_real_405 ?_
                              refine zw_iconst zd_MO_real_406 ?_
                              refine zw_iload_n 2 rfl zd_MO_real_407 ?_
                              refine zw_callV (As := [.int (zI (5)), .int (zI (z))]) (rest := []) (L2 := []) (L' := [zMOd h (t) (ws) (ts) ([]) (op) (5) (z) (((ds.length : Nat) : Int)) (wv) (gd) (f4)]) (stk' := [.int (zI (-1))]) (c_MO_fail h t ws ts ([]) op y r (((ds.length : Nat) : Int)) wv gd f4 5 z) [0] [] rfl rfl rfl zcal_MO_fail zl_MO_80 zin_MO_fail zse_MO_fail 0 rfl zRv_MOd rfl (Nat.le_of_ble_eq_true rfl) (Nat.le_of_ble_eq_true rfl) (by omega) (by omega) rfl (Nat.le_of_ble_eq_true rfl) rfl rfl zd_MO_real_408 ?_
                              have mid1 := mid.1 (by omega)
                              refine zw_pack (at0 := zMOy h (t) (ws) (ts) (op) (5) (z)) (Ls := [zMOd h (t) (ws) (ts) ([]) (op) (5) (z) (((ds.length : Nat) : Int)) (wv) (gd) (f4)]) (L2 := []) rfl (fun G w h => ⟨([], ((ds.length : Nat) : Int), wv, gd, f4), fun _ => rfl, h⟩) ?_
                              exact zw_iret hR rfl rfl rfl (by omega) (by omega) zd_MO_real_411
                        have lpe : ∀ (fuel : Nat) (fl : Int) (k : Int), ((0 ≤ k ∧ k ≤ ((mFn ds wv : Nat) : Int)) ∧ ((fl = 0 ∧ fv d k.toNat = 0) ∨ (fl = 1 ∧ 0 < fv d k.toNat))) → (((mFn ds wv : Nat) : Int) - k).toNat < fuel → zZ X zm_MO_real (0) (0) (0) (0) [zObj h 6 [.ref at_, .int (zI (((t.length : Nat) : Int))), .int (zI (r)), .int (zI (((ws.length : Nat) : Int))), .ref ak, .ref an, .ref ab, .ref aw, .int (zI (((op.length : Nat) : Int))), .int (zI (((ts.length : Nat) : Int))), .int (zI (((((ts.flatten ++ ([]))).length : Nat) : Int))), .ref ay, .ref af, .ref ad, .int (zI (((ds.length : Nat) : Int))), .int (zI (wv)), .int (zI (y)), .ref ar], zArB at_ (65536) (ft), zArB ak (16384) (fk), zArI an (16384) (fn), zArI ab (16384) (fb), zArI aw (64) (fo), zArB ay (131072) (fy), zArI af (16385) (ff), zArB ad (400) (gd), zArB ar (420) (f4)] 307 [(0, .ref h), (1, .int (zI (z))), (3, .int (zI (q))), (4, .int (zI (rdN t z))), (6, .long (zJ (u))), (10, .int (zI (((mFn ds wv : Nat) : Int)))), (11, .long (zJ (b))), (13, .int (zI (fl))), (14, .int (zI (k)))] [] := by
                          intro fuel
                          induction fuel with
                          | zero => intro fl k g0 hm; exact absurd hm (Nat.not_lt_zero _)
                          | succ fuel ih =>
                            intro fl k g0 hm
                            have fz := (fv_rg (d := d) (n := k.toNat) (fun j hj => hq2 j (by omega))).1
                            refine zw_iload 8 rfl zd_MO_real_307 ?_
                            refine zw_iload 5 rfl zd_MO_real_309 ?_
                            refine zw_icmp_ge 342 (by omega) (by omega) zd_MO_real_311 (by decide) (fun c311 => ?_) (fun c311 => ?_)
                            · -- 311 -> 342
                              have ek : k.toNat = mFn ds wv := by omega
                              rw [ek] at g0 fz
                              refine zw_lload 6 rfl zd_MO_real_342 ?_
                              refine zw_ldc2 zk_MO_144 2 rfl zd_MO_real_344 ?_
                              refine zw_lrem (by omega) (by omega) zd_MO_real_347 ?_
                              refine zw_lstore (lv' := [(14, .long (zJ (b % 2))), (0, .ref h), (1, .int (zI (z))), (3, .int (zI (q))), (4, .int (zI (rdN t z))), (6, .long (zJ (u))), (10, .int (zI (((mFn ds wv : Nat) : Int)))), (11, .long (zJ (b))), (13, .int (zI (fl)))]) (Nat.le_of_ble_eq_true rfl) rfl zd_MO_real_348 ?_
                              refine zw_lload 0 rfl zd_MO_real_350 ?_
                              refine zw_lconst (a := 1) rfl zd_MO_real_352 ?_
                              refine zw_lcmpR zd_MO_real_353 ?_
                              refine zw_lif_ne 371 (by omega) (by omega) zd_MO_real_354 (by decide) (fun c354 => ?_) (fun c354 => ?_)
                              · -- 354 -> 371
                                refine zw_iconst zd_MO_real_371 ?_
                                refine zw_istore (lv' := [(16, .int (zI (0))), (14, .long (zJ (b % 2))), (0, .ref h), (1, .int (zI (z))), (3, .int (zI (q))), (4, .int (zI (rdN t z))), (6, .long (zJ (u))), (10, .int (zI (((mFn ds wv : Nat) : Int)))), (11, .long (zJ (b))), (13, .int (zI (fl)))]) (Nat.le_of_ble_eq_true rfl) rfl zd_MO_real_372 ?_
                                refine zw_lpick (lv' := [(0, .ref h), (1, .int (zI (z))), (3, .int (zI (q))), (4, .int (zI (rdN t z))), (6, .long (zJ (u))), (11, .long (zJ (b))), (16, .int (zI (0)))]) [2, 3, 4, 5, 6, 8, 0] rfl ?_
                                refine zw_widen (k' := 0) (n' := 0) (by omega) (by omega) ?_
                                exact je 0 (by omega)
                              · -- 354 -> 357
                                refine zw_iload 4 rfl zd_MO_real_357 ?_
                                refine zw_if_eq 367 (by omega) zd_MO_real_359 (by decide) (fun c359 => ?_) (fun c359 => ?_)
                                · -- 359 -> 367
                                  refine zw_iconst zd_MO_real_367 ?_
                                  refine zw_goto 372 zd_MO_real_368 (by decide) ?_
                                  refine zw_istore (lv' := [(16, .int (zI (1))), (14, .long (zJ (b % 2))), (0, .ref h), (1, .int (zI (z))), (3, .int (zI (q))), (4, .int (zI (rdN t z))), (6, .long (zJ (u))), (10, .int (zI (((mFn ds wv : Nat) : Int)))), (11, .long (zJ (b))), (13, .int (zI (fl)))]) (Nat.le_of_ble_eq_true rfl) rfl zd_MO_real_372 ?_
                                  refine zw_lpick (lv' := [(0, .ref h), (1, .int (zI (z))), (3, .int (zI (q))), (4, .int (zI (rdN t z))), (6, .long (zJ (u))), (11, .long (zJ (b))), (16, .int (zI (1)))]) [2, 3, 4, 5, 6, 8, 0] rfl ?_
                                  refine zw_widen (k' := 0) (n' := 0) (by omega) (by omega) ?_
                                  exact je 1 (by omega)
                                · -- 359 -> 362
                                  refine zw_iload 8 rfl zd_MO_real_362 ?_
                                  refine zw_if_eq 371 (by omega) zd_MO_real_364 (by decide) (fun c364 => ?_) (fun c364 => ?_)
                                  · -- 364 -> 371
                                    refine zw_iconst zd_MO_real_371 ?_
                                    refine zw_istore (lv' := [(16, .int (zI (0))), (14, .long (zJ (b % 2))), (0, .ref h), (1, .int (zI (z))), (3, .int (zI (q))), (4, .int (zI (rdN t z))), (6, .long (zJ (u))), (10, .int (zI (((mFn ds wv : Nat) : Int)))), (11, .long (zJ (b))), (13, .int (zI (fl)))]) (Nat.le_of_ble_eq_true rfl) rfl zd_MO_real_372 ?_
                                    refine zw_lpick (lv' := [(0, .ref h), (1, .int (zI (z))), (3, .int (zI (q))), (4, .int (zI (rdN t z))), (6, .long (zJ (u))), (11, .long (zJ (b))), (16, .int (zI (0)))]) [2, 3, 4, 5, 6, 8, 0] rfl ?_
                                    refine zw_widen (k' := 0) (n' := 0) (by omega) (by omega) ?_
                                    exact je 0 (by omega)
                                  · -- 364 -> 367
                                    refine zw_iconst zd_MO_real_367 ?_
                                    refine zw_goto 372 zd_MO_real_368 (by decide) ?_
                                    refine zw_istore (lv' := [(16, .int (zI (1))), (14, .long (zJ (b % 2))), (0, .ref h), (1, .int (zI (z))), (3, .int (zI (q))), (4, .int (zI (rdN t z))), (6, .long (zJ (u))), (10, .int (zI (((mFn ds wv : Nat) : Int)))), (11, .long (zJ (b))), (13, .int (zI (fl)))]) (Nat.le_of_ble_eq_true rfl) rfl zd_MO_real_372 ?_
                                    refine zw_lpick (lv' := [(0, .ref h), (1, .int (zI (z))), (3, .int (zI (q))), (4, .int (zI (rdN t z))), (6, .long (zJ (u))), (11, .long (zJ (b))), (16, .int (zI (1)))]) [2, 3, 4, 5, 6, 8, 0] rfl ?_
                                    refine zw_widen (k' := 0) (n' := 0) (by omega) (by omega) ?_
                                    exact je 1 (by omega)
                            · -- 311 -> 314
                              have rk := hq2 k.toNat (by omega)
                              refine zw_iload 7 rfl zd_MO_real_314 ?_
                              refine zw_if_ne 329 (by omega) zd_MO_real_316 (by decide) (fun c316 => ?_) (fun c316 => ?_)
                              · -- 316 -> 329
                                refine zw_iconst zd_MO_real_329 ?_
                                refine zw_goto 334 zd_MO_real_330 (by decide) ?_
                                refine zw_istore (lv' := [(13, .int (zI (1))), (0, .ref h), (1, .int (zI (z))), (3, .int (zI (q))), (4, .int (zI (rdN t z))), (6, .long (zJ (u))), (10, .int (zI (((mFn ds wv : Nat) : Int)))), (11, .long (zJ (b))), (14, .int (zI (k)))]) (Nat.le_of_ble_eq_true rfl) rfl zd_MO_real_334 ?_
                                refine zw_iinc (lv' := [(14, .int (zI (k + 1))), (13, .int (zI (1))), (0, .ref h), (1, .int (zI (z))), (3, .int (zI (q))), (4, .int (zI (rdN t z))), (6, .long (zJ (u))), (10, .int (zI (((mFn ds wv : Nat) : Int)))), (11, .long (zJ (b)))]) 8 rfl (Nat.le_of_ble_eq_true rfl) rfl zd_MO_real_336 ?_
                                refine zw_goto 307 zd_MO_real_339 (by decide) ?_
                                refine zw_lpick (lv' := [(0, .ref h), (1, .int (zI (z))), (3, .int (zI (q))), (4, .int (zI (rdN t z))), (6, .long (zJ (u))), (10, .int (zI (((mFn ds wv : Nat) : Int)))), (11, .long (zJ (b))), (13, .int (zI (1))), (14, .int (zI (k + 1)))]) [2, 3, 4, 5, 6, 7, 8, 1, 0] rfl ?_
                                refine zw_widen (k' := 0) (n' := 0) (by omega) (by omega) ?_
                                have e5 : fv d (k + 1).toNat = 10 * fv d k.toNat + d k.toNat := by rw [show (k + 1).toNat = k.toNat + 1 by omega]; rfl
                                exact ih 1 (k + 1) ⟨by omega, by omega⟩ (by omega)
                              · -- 316 -> 319
                                refine zw_aload_n 0 rfl zd_MO_real_319 ?_
                                refine zw_get zc_MO 0 17 rfl (by decide) zf_MO_37 rfl zd_MO_real_320 ?_
                                refine zw_iload 8 rfl zd_MO_real_323 ?_
                                refine zw_aldB 9 rfl (by omega) (by omega) zd_MO_real_325 ?_
                                refine zw_topE (hq1 k.toNat (by omega)) ?_
                                refine zw_if_eq 333 (by omega) zd_MO_real_326 (by decide) (fun c326 => ?_) (fun c326 => ?_)
                                · -- 326 -> 333
                                  refine zw_iconst zd_MO_real_333 ?_
                                  refine zw_istore (lv' := [(13, .int (zI (0))), (0, .ref h), (1, .int (zI (z))), (3, .int (zI (q))), (4, .int (zI (rdN t z))), (6, .long (zJ (u))), (10, .int (zI (((mFn ds wv : Nat) : Int)))), (11, .long (zJ (b))), (14, .int (zI (k)))]) (Nat.le_of_ble_eq_true rfl) rfl zd_MO_real_334 ?_
                                  refine zw_iinc (lv' := [(14, .int (zI (k + 1))), (13, .int (zI (0))), (0, .ref h), (1, .int (zI (z))), (3, .int (zI (q))), (4, .int (zI (rdN t z))), (6, .long (zJ (u))), (10, .int (zI (((mFn ds wv : Nat) : Int)))), (11, .long (zJ (b)))]) 8 rfl (Nat.le_of_ble_eq_true rfl) rfl zd_MO_real_336 ?_
                                  refine zw_goto 307 zd_MO_real_339 (by decide) ?_
                                  refine zw_lpick (lv' := [(0, .ref h), (1, .int (zI (z))), (3, .int (zI (q))), (4, .int (zI (rdN t z))), (6, .long (zJ (u))), (10, .int (zI (((mFn ds wv : Nat) : Int)))), (11, .long (zJ (b))), (13, .int (zI (0))), (14, .int (zI (k + 1)))]) [2, 3, 4, 5, 6, 7, 8, 1, 0] rfl ?_
                                  refine zw_widen (k' := 0) (n' := 0) (by omega) (by omega) ?_
                                  have e5 : fv d (k + 1).toNat = 10 * fv d k.toNat + d k.toNat := by rw [show (k + 1).toNat = k.toNat + 1 by omega]; rfl
                                  exact ih 0 (k + 1) ⟨by omega, by omega⟩ (by omega)
                                · -- 326 -> 329
                                  refine zw_iconst zd_MO_real_329 ?_
                                  refine zw_goto 334 zd_MO_real_330 (by decide) ?_
                                  refine zw_istore (lv' := [(13, .int (zI (1))), (0, .ref h), (1, .int (zI (z))), (3, .int (zI (q))), (4, .int (zI (rdN t z))), (6, .long (zJ (u))), (10, .int (zI (((mFn ds wv : Nat) : Int)))), (11, .long (zJ (b))), (14, .int (zI (k)))]) (Nat.le_of_ble_eq_true rfl) rfl zd_MO_real_334 ?_
                                  refine zw_iinc (lv' := [(14, .int (zI (k + 1))), (13, .int (zI (1))), (0, .ref h), (1, .int (zI (z))), (3, .int (zI (q))), (4, .int (zI (rdN t z))), (6, .long (zJ (u))), (10, .int (zI (((mFn ds wv : Nat) : Int)))), (11, .long (zJ (b)))]) 8 rfl (Nat.le_of_ble_eq_true rfl) rfl zd_MO_real_336 ?_
                                  refine zw_goto 307 zd_MO_real_339 (by decide) ?_
                                  refine zw_lpick (lv' := [(0, .ref h), (1, .int (zI (z))), (3, .int (zI (q))), (4, .int (zI (rdN t z))), (6, .long (zJ (u))), (10, .int (zI (((mFn ds wv : Nat) : Int)))), (11, .long (zJ (b))), (13, .int (zI (1))), (14, .int (zI (k + 1)))]) [2, 3, 4, 5, 6, 7, 8, 1, 0] rfl ?_
                                  refine zw_widen (k' := 0) (n' := 0) (by omega) (by omega) ?_
                                  have e5 : fv d (k + 1).toNat = 10 * fv d k.toNat + d k.toNat := by rw [show (k + 1).toNat = k.toNat + 1 by omega]; rfl
                                  exact ih 1 (k + 1) ⟨by omega, by omega⟩ (by omega)
                        refine zw_iconst zd_MO_real_301 ?_
                        refine zw_istore (lv' := [(13, .int (zI (0))), (0, .ref h), (1, .int (zI (z))), (2, .int (zI (f))), (3, .int (zI (q))), (4, .int (zI (rdN t z))), (6, .long (zJ (u))), (8, .int (zI (a))), (9, .int (zI (zz))), (10, .int (zI (((mFn ds wv : Nat) : Int)))), (11, .long (zJ (b)))]) (Nat.le_of_ble_eq_true rfl) rfl zd_MO_real_302 ?_
                        refine zw_iconst zd_MO_real_304 ?_
                        refine zw_istore (lv' := [(14, .int (zI (0))), (13, .int (zI (0))), (0, .ref h), (1, .int (zI (z))), (2, .int (zI (f))), (3, .int (zI (q))), (4, .int (zI (rdN t z))), (6, .long (zJ (u))), (8, .int (zI (a))), (9, .int (zI (zz))), (10, .int (zI (((mFn ds wv : Nat) : Int)))), (11, .long (zJ (b)))]) (Nat.le_of_ble_eq_true rfl) rfl zd_MO_real_305 ?_
                        refine zw_lpick (lv' := [(0, .ref h), (1, .int (zI (z))), (3, .int (zI (q))), (4, .int (zI (rdN t z))), (6, .long (zJ (u))), (10, .int (zI (((mFn ds wv : Nat) : Int)))), (11, .long (zJ (b))), (13, .int (zI (0))), (14, .int (zI (0)))]) [2, 3, 5, 6, 7, 10, 11, 1, 0] rfl ?_
                        refine zw_widen (k' := 0) (n' := 0) (by omega) (by omega) ?_
                        exact lpe _ 0 0 ⟨by omega, Or.inl ⟨rfl, rfl⟩⟩ (Nat.lt_succ_self _)
                      · -- 276 -> 279
                        refine zw_ldc2 zk_MO_144 2 rfl zd_MO_real_279 ?_
                        refine zw_lload 9 rfl zd_MO_real_282 ?_
                        refine zw_lmul zd_MO_real_284 ?_
                        refine zw_aload_n 0 rfl zd_MO_real_285 ?_
                        refine zw_iload 8 rfl zd_MO_real_286 ?_
                        refine zw_callV (As := [.int (zI (((mFn ds wv : Nat) : Int)))]) (rest := [.long (zJ (2 * b))]) (L2 := [zArB at_ (65536) (ft), zArB ak (16384) (fk), zArI an (16384) (fn), zArI ab (16384) (fb), zArI aw (64) (fo), zArB ay (131072) (fy), zArI af (16385) (ff), zArB ad (400) (gd)]) (L' := [zObj h 6 [.ref at_, .int (zI (((t.length : Nat) : Int))), .int (zI (r)), .int (zI (((ws.length : Nat) : Int))), .ref ak, .ref an, .ref ab, .ref aw, .int (zI (((op.length : Nat) : Int))), .int (zI (((ts.length : Nat) : Int))), .int (zI (((((ts.flatten ++ ([]))).length : Nat) : Int))), .ref ay, .ref af, .ref ad, .int (zI (((ds.length : Nat) : Int))), .int (zI (wv)), .int (zI (y)), .ref ar], zFq ar (mFn ds wv) ((twS d (mFn ds wv) (mFn ds wv)).2), zArB at_ (65536) (ft), zArB ak (16384) (fk), zArI an (16384) (fn), zArI ab (16384) (fb), zArI aw (64) (fo), zArB ay (131072) (fy), zArI af (16385) (ff), zArB ad (400) (gd)]) (stk' := [.int (zI ((twS d (mFn ds wv) (mFn ds wv)).1)), .long (zJ (2 * b))]) (c_MO_twice h at_ ak an ab aw ay af ad ar r (((ws.length : Nat) : Int)) (((op.length : Nat) : Int)) (((ts.length : Nat) : Int)) (((((ts.flatten ++ ([]))).length : Nat) : Int)) (((ds.length : Nat) : Int)) wv y t (mFn ds wv) d (by omega)) [1, 0] [2, 3, 4, 5, 6, 7, 8, 9] rfl rfl rfl zcal_MO_twice zl_MO_146 zin_MO_twice zse_MO_twice 0 rfl zRv_obj rfl (Nat.le_of_ble_eq_true rfl) (Nat.le_of_ble_eq_true rfl) (by omega) (by omega) rfl (Nat.le_of_ble_eq_true rfl) rfl rfl zd_MO_real_288 ?_
                        have tr := twS_rg u3 (mFn ds wv) (Nat.le_refl _)
                        have ta := twS_all (d := d) (n := mFn ds wv)
                        refine zw_i2l (by omega) zd_MO_real_291 ?_
                        refine zw_ladd zd_MO_real_292 ?_
                        refine zw_lstore (lv' := [(11, .long (zJ ((2 * b) + ((twS d (mFn ds wv) (mFn ds wv)).1)))), (0, .ref h), (1, .int (zI (z))), (2, .int (zI (f))), (3, .int (zI (q))), (4, .int (zI (rdN t z))), (6, .long (zJ (u))), (8, .int (zI (a))), (9, .int (zI (zz))), (10, .int (zI (((mFn ds wv : Nat) : Int)))), (13, .int (zI (i)))]) (Nat.le_of_ble_eq_true rfl) rfl zd_MO_real_293 ?_
                        refine zw_iinc (lv' := [(13, .int (zI (i + 1))), (11, .long (zJ ((2 * b) + ((twS d (mFn ds wv) (mFn ds wv)).1)))), (0, .ref h), (1, .int (zI (z))), (2, .int (zI (f))), (3, .int (zI (q))), (4, .int (zI (rdN t z))), (6, .long (zJ (u))), (8, .int (zI (a))), (9, .int (zI (zz))), (10, .int (zI (((mFn ds wv : Nat) : Int))))]) 10 rfl (Nat.le_of_ble_eq_true rfl) rfl zd_MO_real_295 ?_
                        refine zw_goto 272 zd_MO_real_298 (by decide) ?_
                        refine zw_sub (L' := [zFq ar (mFn ds wv) ((twS d (mFn ds wv) (mFn ds wv)).2), zObj h 6 [.ref at_, .int (zI (((t.length : Nat) : Int))), .int (zI (r)), .int (zI (((ws.length : Nat) : Int))), .ref ak, .ref an, .ref ab, .ref aw, .int (zI (((op.length : Nat) : Int))), .int (zI (((ts.length : Nat) : Int))), .int (zI (((((ts.flatten ++ ([]))).length : Nat) : Int))), .ref ay, .ref af, .ref ad, .int (zI (((ds.length : Nat) : Int))), .int (zI (wv)), .int (zI (y)), .ref ar], zArB at_ (65536) (ft), zArB ak (16384) (fk), zArI an (16384) (fn), zArI ab (16384) (fb), zArI aw (64) (fo), zArB ay (131072) (fy), zArI af (16385) (ff), zArB ad (400) (gd)]) [1, 0, 2, 3, 4, 5, 6, 7, 8, 9] rfl rfl ?_
                        refine zw_lpick (lv' := [(0, .ref h), (1, .int (zI (z))), (2, .int (zI (f))), (3, .int (zI (q))), (4, .int (zI (rdN t z))), (6, .long (zJ (u))), (8, .int (zI (a))), (9, .int (zI (zz))), (10, .int (zI (((mFn ds wv : Nat) : Int)))), (11, .long (zJ ((2 * b) + ((twS d (mFn ds wv) (mFn ds wv)).1)))), (13, .int (zI (i + 1)))]) [2, 3, 4, 5, 6, 7, 8, 9, 10, 1, 0] rfl ?_
                        refine zw_widen (k' := 0) (n' := 0) (by omega) (by omega) ?_
                        have e5 : p2 (i + 1).toNat = 2 * p2 i.toNat := by rw [show (i + 1).toNat = i.toNat + 1 by omega]; rfl
                        refine ih _ ((2 * b) + ((twS d (mFn ds wv) (mFn ds wv)).1)) (i + 1) ⟨⟨by omega, by omega⟩, tr.2, ?_⟩ (by omega)
                        rw [e5, Int.add_mul, Int.mul_assoc, Int.mul_assoc]
                        omega
                  refine zw_lconst (a := 0) rfl zd_MO_real_266 ?_
                  refine zw_lstore (lv' := [(11, .long (zJ (0))), (0, .ref h), (1, .int (zI (z))), (2, .int (zI (f))), (3, .int (zI (q))), (4, .int (zI (rdN t z))), (6, .long (zJ (u))), (8, .int (zI (a))), (9, .int (zI (zz))), (10, .int (zI (((mFn ds wv : Nat) : Int))))]) (Nat.le_of_ble_eq_true rfl) rfl zd_MO_real_267 ?_
                  refine zw_iconst zd_MO_real_269 ?_
                  refine zw_istore (lv' := [(13, .int (zI (0))), (11, .long (zJ (0))), (0, .ref h), (1, .int (zI (z))), (2, .int (zI (f))), (3, .int (zI (q))), (4, .int (zI (rdN t z))), (6, .long (zJ (u))), (8, .int (zI (a))), (9, .int (zI (zz))), (10, .int (zI (((mFn ds wv : Nat) : Int))))]) (Nat.le_of_ble_eq_true rfl) rfl zd_MO_real_270 ?_
                  refine zw_lpick (lv' := [(0, .ref h), (1, .int (zI (z))), (2, .int (zI (f))), (3, .int (zI (q))), (4, .int (zI (rdN t z))), (6, .long (zJ (u))), (8, .int (zI (a))), (9, .int (zI (zz))), (10, .int (zI (((mFn ds wv : Nat) : Int)))), (11, .long (zJ (0))), (13, .int (zI (0)))]) [2, 3, 4, 5, 6, 7, 8, 9, 10, 1, 0] rfl ?_
                  refine zw_widen (k' := 0) (n' := 0) (by omega) (by omega) ?_
                  exact lpd _ (mFr ds wv) 0 0 ⟨⟨by omega, by decide⟩, fun j _ => mFr_rg hdr wv j, by show 0 * _ + _ = 1 * _; omega⟩ (Nat.lt_succ_self _)
                · -- 226 -> 229
                  refine zw_aload_n 0 rfl zd_MO_real_229 ?_
                  refine zw_get zc_MO 0 17 rfl (by decide) zf_MO_37 rfl zd_MO_real_230 ?_
                  refine zw_iload 9 rfl zd_MO_real_233 ?_
                  refine zw_iload 9 rfl zd_MO_real_235 ?_
                  refine zw_iload 7 rfl zd_MO_real_237 ?_
                  refine zw_icmp_ge 246 (by omega) (by omega) zd_MO_real_239 (by decide) (fun c239 => ?_) (fun c239 => ?_)
                  · -- 239 -> 246
                    refine zw_aload_n 0 rfl zd_MO_real_246 ?_
                    refine zw_get zc_MO 0 13 rfl (by decide) zf_MO_34 rfl zd_MO_real_247 ?_
                    refine zw_iload 6 rfl zd_MO_real_250 ?_
                    refine zw_iload 9 rfl zd_MO_real_252 ?_
                    refine zw_iadd zd_MO_real_254 ?_
                    refine zw_iload 7 rfl zd_MO_real_255 ?_
                    refine zw_isub zd_MO_real_257 ?_
                    refine zw_aldB 8 rfl (by omega) (by omega) zd_MO_real_258 ?_
                    refine zw_topE (hd1 _ (by omega)) ?_
                    refine zw_astB (L' := [zObj h 6 [.ref at_, .int (zI (((t.length : Nat) : Int))), .int (zI (r)), .int (zI (((ws.length : Nat) : Int))), .ref ak, .ref an, .ref ab, .ref aw, .int (zI (((op.length : Nat) : Int))), .int (zI (((ts.length : Nat) : Int))), .int (zI (((((ts.flatten ++ ([]))).length : Nat) : Int))), .ref ay, .ref af, .ref ad, .int (zI (((ds.length : Nat) : Int))), .int (zI (wv)), .int (zI (y)), .ref ar], zArB at_ (65536) (ft), zArB ak (16384) (fk), zArI an (16384) (fn), zArI ab (16384) (fb), zArI aw (64) (fo), zArB ay (131072) (fy), zArI af (16385) (ff), zArB ad (400) (gd), zArB ar (420) (upd f2 (k).toNat (vp_nar .byte (zI (zdg ds ((a + k) - zz).toNat))))]) 9 rfl (by omega) (by omega) rfl zd_MO_real_259 ?_
                    refine zw_iinc (lv' := [(11, .int (zI (k + 1))), (0, .ref h), (1, .int (zI (z))), (2, .int (zI (f))), (3, .int (zI (q))), (4, .int (zI (rdN t z))), (6, .long (zJ (u))), (8, .int (zI (a))), (9, .int (zI (zz))), (10, .int (zI (((mFn ds wv : Nat) : Int))))]) 9 rfl (Nat.le_of_ble_eq_true rfl) rfl zd_MO_real_260 ?_
                    refine zw_goto 222 zd_MO_real_263 (by decide) ?_
                    refine zw_lpick (lv' := [(0, .ref h), (1, .int (zI (z))), (2, .int (zI (f))), (3, .int (zI (q))), (4, .int (zI (rdN t z))), (6, .long (zJ (u))), (8, .int (zI (a))), (9, .int (zI (zz))), (10, .int (zI (((mFn ds wv : Nat) : Int)))), (11, .int (zI (k + 1)))]) [1, 2, 3, 4, 5, 6, 7, 8, 9, 0] rfl ?_
                    refine zw_widen (k' := 0) (n' := 0) (by omega) (by omega) ?_
                    have rX : (0 : Int) ≤ (zdg ds ((a + k) - zz).toNat) ∧ (zdg ds ((a + k) - zz).toNat) ≤ (9 : Int) := hdg _
                    have eX : mFr ds wv k.toNat = (zdg ds ((a + k) - zz).toNat) := by unfold mFr; rw [if_neg (by omega)]; congr 1; omega
                    refine ih _ (k + 1) ⟨by omega, fun j hj => ?_, zfit_d10 rX g3⟩ (by omega)
                    rw [upd_d10 rX]
                    by_cases e : j = k.toNat
                    · rw [e, pk_us, eX]
                    · rw [pk_un e]; exact g2 j (by omega)
                  · -- 239 -> 242
                    refine zw_iconst zd_MO_real_242 ?_
                    refine zw_goto 259 zd_MO_real_243 (by decide) ?_
                    refine zw_astB (L' := [zObj h 6 [.ref at_, .int (zI (((t.length : Nat) : Int))), .int (zI (r)), .int (zI (((ws.length : Nat) : Int))), .ref ak, .ref an, .ref ab, .ref aw, .int (zI (((op.length : Nat) : Int))), .int (zI (((ts.length : Nat) : Int))), .int (zI (((((ts.flatten ++ ([]))).length : Nat) : Int))), .ref ay, .ref af, .ref ad, .int (zI (((ds.length : Nat) : Int))), .int (zI (wv)), .int (zI (y)), .ref ar], zArB at_ (65536) (ft), zArB ak (16384) (fk), zArI an (16384) (fn), zArI ab (16384) (fb), zArI aw (64) (fo), zArB ay (131072) (fy), zArI af (16385) (ff), zArB ad (400) (gd), zArB ar (420) (upd f2 (k).toNat (vp_nar .byte (zI (0))))]) 9 rfl (by omega) (by omega) rfl zd_MO_real_259 ?_
                    refine zw_iinc (lv' := [(11, .int (zI (k + 1))), (0, .ref h), (1, .int (zI (z))), (2, .int (zI (f))), (3, .int (zI (q))), (4, .int (zI (rdN t z))), (6, .long (zJ (u))), (8, .int (zI (a))), (9, .int (zI (zz))), (10, .int (zI (((mFn ds wv : Nat) : Int))))]) 9 rfl (Nat.le_of_ble_eq_true rfl) rfl zd_MO_real_260 ?_
                    refine zw_goto 222 zd_MO_real_263 (by decide) ?_
                    refine zw_lpick (lv' := [(0, .ref h), (1, .int (zI (z))), (2, .int (zI (f))), (3, .int (zI (q))), (4, .int (zI (rdN t z))), (6, .long (zJ (u))), (8, .int (zI (a))), (9, .int (zI (zz))), (10, .int (zI (((mFn ds wv : Nat) : Int)))), (11, .int (zI (k + 1)))]) [1, 2, 3, 4, 5, 6, 7, 8, 9, 0] rfl ?_
                    refine zw_widen (k' := 0) (n' := 0) (by omega) (by omega) ?_
                    have rX : (0 : Int) ≤ (0) ∧ (0) ≤ (9 : Int) := by omega
                    have eX : mFr ds wv k.toNat = (0) := by unfold mFr; rw [if_pos (by omega)]
                    refine ih _ (k + 1) ⟨by omega, fun j hj => ?_, zfit_d10 rX g3⟩ (by omega)
                    rw [upd_d10 rX]
                    by_cases e : j = k.toNat
                    · rw [e, pk_us, eX]
                    · rw [pk_un e]; exact g2 j (by omega)
            refine zw_iconst zd_MO_real_219 ?_
            refine zw_istore (lv' := [(11, .int (zI (0))), (0, .ref h), (1, .int (zI (z))), (2, .int (zI (f))), (3, .int (zI (q))), (4, .int (zI (rdN t z))), (6, .long (zJ (u))), (8, .int (zI (a))), (9, .int (zI (zz))), (10, .int (zI (((mFn ds wv : Nat) : Int))))]) (Nat.le_of_ble_eq_true rfl) rfl zd_MO_real_220 ?_
            refine zw_lpick (lv' := [(0, .ref h), (1, .int (zI (z))), (2, .int (zI (f))), (3, .int (zI (q))), (4, .int (zI (rdN t z))), (6, .long (zJ (u))), (8, .int (zI (a))), (9, .int (zI (zz))), (10, .int (zI (((mFn ds wv : Nat) : Int)))), (11, .int (zI (0)))]) [1, 2, 3, 4, 5, 6, 7, 8, 9, 0] rfl ?_
            refine zw_widen (k' := 0) (n' := 0) (by omega) (by omega) ?_
            exact lpc _ fr 0 ⟨by omega, fun j hj => by exact absurd hj (Nat.not_lt_zero _), d2⟩ (Nat.lt_succ_self _)
          have lpb : ∀ (fuel : Nat) (v : Int) (k : Int), ((0 ≤ k ∧ (k ≤ wv ∨ k = 0)) ∧ v = fv (zdg ds) k.toNat) → (wv - k).toNat < fuel → zZ X zm_MO_real (0) (0) (0) (0) [zObj h 6 [.ref at_, .int (zI (((t.length : Nat) : Int))), .int (zI (r)), .int (zI (((ws.length : Nat) : Int))), .ref ak, .ref an, .ref ab, .ref aw, .int (zI (((op.length : Nat) : Int))), .int (zI (((ts.length : Nat) : Int))), .int (zI (((((ts.flatten ++ ([]))).length : Nat) : Int))), .ref ay, .ref af, .ref ad, .int (zI (((ds.length : Nat) : Int))), .int (zI (wv)), .int (zI (y)), .ref ar], zArB at_ (65536) (ft), zArB ak (16384) (fk), zArI an (16384) (fn), zArI ab (16384) (fb), zArI aw (64) (fo), zArB ay (131072) (fy), zArI af (16385) (ff), zArB ad (400) (gd), zArB ar (420) (fr)] 106 [(0, .ref h), (1, .int (zI (z))), (2, .int (zI (f))), (3, .int (zI (q))), (4, .int (zI (rdN t z))), (5, .int (zI (x))), (6, .long (zJ (v))), (8, .int (zI (k)))] [] := by
            intro fuel
            induction fuel with
            | zero => intro v k g0 hm; exact absurd hm (Nat.not_lt_zero _)
            | succ fuel ih =>
              intro v k g0 hm
              obtain ⟨g1, g2⟩ := g0
              have kb := fv_rg (d := zdg ds) (n := k.toNat) (fun j _ => hdg j)
              have kl := fv_lt (d := zdg ds) (f := x.toNat) (n := k.toNat) (fun j _ => hdg j) (fun j hj _ => j1 j hj)
              have km := p10_mono (a := k.toNat - x.toNat) (b := 6) (by omega)
              refine zw_iload 7 rfl zd_MO_real_106 ?_
              refine zw_aload_n 0 rfl zd_MO_real_108 ?_
              refine zw_get zc_MO 0 15 rfl (by decide) zf_MO_139 rfl zd_MO_real_109 ?_
              refine zw_icmp_ge 151 (by omega) (by omega) zd_MO_real_112 (by decide) (fun c112 => ?_) (fun c112 => ?_)
              · -- 112 -> 151
                rw [show k.toNat = wv.toNat by omega] at g2
                refine zw_ldc2 zk_MO_142 65536 rfl zd_MO_real_151 ?_
                refine zw_lload 6 rfl zd_MO_real_154 ?_
                refine zw_lmul zd_MO_real_156 ?_
                refine zw_lstore (lv' := [(6, .long (zJ (65536 * v))), (0, .ref h), (1, .int (zI (z))), (2, .int (zI (f))), (3, .int (zI (q))), (4, .int (zI (rdN t z))), (5, .int (zI (x))), (8, .int (zI (k)))]) (Nat.le_of_ble_eq_true rfl) rfl zd_MO_real_157 ?_
                refine zw_aload_n 1 rfl zd_MO_real_159 ?_
                refine zw_get zc_MO 0 15 rfl (by decide) zf_MO_139 rfl zd_MO_real_160 ?_
                refine zw_if_ge 170 (by omega) zd_MO_real_163 (by decide) (fun c163 => ?_) (fun c163 => ?_)
                · -- 163 -> 170
                  refine zw_aload_n 1 rfl zd_MO_real_170 ?_
                  refine zw_get zc_MO 0 15 rfl (by decide) zf_MO_139 rfl zd_MO_real_171 ?_
                  refine zw_istore (lv' := [(8, .int (zI (wv))), (6, .long (zJ (65536 * v))), (0, .ref h), (1, .int (zI (z))), (2, .int (zI (f))), (3, .int (zI (q))), (4, .int (zI (rdN t z))), (5, .int (zI (x)))]) (Nat.le_of_ble_eq_true rfl) rfl zd_MO_real_174 ?_
                  refine zw_aload_n 2 rfl zd_MO_real_176 ?_
                  refine zw_get zc_MO 0 15 rfl (by decide) zf_MO_139 rfl zd_MO_real_177 ?_
                  refine zw_if_ge 191 (by omega) zd_MO_real_180 (by decide) (fun c180 => ?_) (fun c180 => ?_)
                  · -- 180 -> 191
                    refine zw_iconst zd_MO_real_191 ?_
                    refine zw_istore (lv' := [(9, .int (zI (0))), (8, .int (zI (wv))), (6, .long (zJ (65536 * v))), (0, .ref h), (1, .int (zI (z))), (2, .int (zI (f))), (3, .int (zI (q))), (4, .int (zI (rdN t z))), (5, .int (zI (x)))]) (Nat.le_of_ble_eq_true rfl) rfl zd_MO_real_192 ?_
                    refine zw_iload 0 rfl zd_MO_real_194 ?_
                    refine zw_aload_n 3 rfl zd_MO_real_196 ?_
                    refine zw_get zc_MO 0 14 rfl (by decide) zf_MO_136 rfl zd_MO_real_197 ?_
                    refine zw_iload 1 rfl zd_MO_real_200 ?_
                    refine zw_icmp_le 215 (by omega) (by omega) zd_MO_real_202 (by decide) (fun c202 => ?_) (fun c202 => ?_)
                    · -- 202 -> 215
                      refine zw_iconst zd_MO_real_215 ?_
                      refine zw_iadd zd_MO_real_216 ?_
                      refine zw_istore (lv' := [(10, .int (zI (0 + 0))), (9, .int (zI (0))), (8, .int (zI (wv))), (6, .long (zJ (65536 * v))), (0, .ref h), (1, .int (zI (z))), (2, .int (zI (f))), (3, .int (zI (q))), (4, .int (zI (rdN t z))), (5, .int (zI (x)))]) (Nat.le_of_ble_eq_true rfl) rfl zd_MO_real_217 ?_
                      refine zw_lpick (lv' := [(0, .ref h), (1, .int (zI (z))), (2, .int (zI (f))), (3, .int (zI (q))), (4, .int (zI (rdN t z))), (6, .long (zJ (65536 * v))), (8, .int (zI (wv))), (9, .int (zI (0))), (10, .int (zI (0 + 0)))]) [4, 5, 6, 7, 8, 3, 2, 1, 0] rfl ?_
                      refine zw_widen (k' := 0) (n' := 0) (by omega) (by omega) ?_
                      exact jb _ _ _ _ ⟨by omega, by omega, by omega, by omega⟩
                    · -- 202 -> 205
                      refine zw_aload_n 3 rfl zd_MO_real_205 ?_
                      refine zw_get zc_MO 0 14 rfl (by decide) zf_MO_136 rfl zd_MO_real_206 ?_
                      refine zw_iload 1 rfl zd_MO_real_209 ?_
                      refine zw_isub zd_MO_real_211 ?_
                      refine zw_goto 216 zd_MO_real_212 (by decide) ?_
                      refine zw_iadd zd_MO_real_216 ?_
                      refine zw_istore (lv' := [(10, .int (zI (0 + ((((ds.length : Nat) : Int)) - wv)))), (9, .int (zI (0))), (8, .int (zI (wv))), (6, .long (zJ (65536 * v))), (0, .ref h), (1, .int (zI (z))), (2, .int (zI (f))), (3, .int (zI (q))), (4, .int (zI (rdN t z))), (5, .int (zI (x)))]) (Nat.le_of_ble_eq_true rfl) rfl zd_MO_real_217 ?_
                      refine zw_lpick (lv' := [(0, .ref h), (1, .int (zI (z))), (2, .int (zI (f))), (3, .int (zI (q))), (4, .int (zI (rdN t z))), (6, .long (zJ (65536 * v))), (8, .int (zI (wv))), (9, .int (zI (0))), (10, .int (zI (0 + ((((ds.length : Nat) : Int)) - wv))))]) [4, 5, 6, 7, 8, 3, 2, 1, 0] rfl ?_
                      refine zw_widen (k' := 0) (n' := 0) (by omega) (by omega) ?_
                      exact jb _ _ _ _ ⟨by omega, by omega, by omega, by omega⟩
                  · -- 180 -> 183
                    refine zw_aload_n 2 rfl zd_MO_real_183 ?_
                    refine zw_get zc_MO 0 15 rfl (by decide) zf_MO_139 rfl zd_MO_real_184 ?_
                    refine zw_ineg zd_MO_real_187 ?_
                    refine zw_goto 192 zd_MO_real_188 (by decide) ?_
                    refine zw_istore (lv' := [(9, .int (zI (-wv))), (8, .int (zI (wv))), (6, .long (zJ (65536 * v))), (0, .ref h), (1, .int (zI (z))), (2, .int (zI (f))), (3, .int (zI (q))), (4, .int (zI (rdN t z))), (5, .int (zI (x)))]) (Nat.le_of_ble_eq_true rfl) rfl zd_MO_real_192 ?_
                    refine zw_iload 0 rfl zd_MO_real_194 ?_
                    refine zw_aload_n 3 rfl zd_MO_real_196 ?_
                    refine zw_get zc_MO 0 14 rfl (by decide) zf_MO_136 rfl zd_MO_real_197 ?_
                    refine zw_iload 1 rfl zd_MO_real_200 ?_
                    refine zw_icmp_le 215 (by omega) (by omega) zd_MO_real_202 (by decide) (fun c202 => ?_) (fun c202 => ?_)
                    · -- 202 -> 215
                      refine zw_iconst zd_MO_real_215 ?_
                      refine zw_iadd zd_MO_real_216 ?_
                      refine zw_istore (lv' := [(10, .int (zI ((-wv) + 0))), (9, .int (zI (-wv))), (8, .int (zI (wv))), (6, .long (zJ (65536 * v))), (0, .ref h), (1, .int (zI (z))), (2, .int (zI (f))), (3, .int (zI (q))), (4, .int (zI (rdN t z))), (5, .int (zI (x)))]) (Nat.le_of_ble_eq_true rfl) rfl zd_MO_real_217 ?_
                      refine zw_lpick (lv' := [(0, .ref h), (1, .int (zI (z))), (2, .int (zI (f))), (3, .int (zI (q))), (4, .int (zI (rdN t z))), (6, .long (zJ (65536 * v))), (8, .int (zI (wv))), (9, .int (zI (-wv))), (10, .int (zI ((-wv) + 0)))]) [4, 5, 6, 7, 8, 3, 2, 1, 0] rfl ?_
                      refine zw_widen (k' := 0) (n' := 0) (by omega) (by omega) ?_
                      exact jb _ _ _ _ ⟨by omega, by omega, by omega, by omega⟩
                    · -- 202 -> 205
                      refine zw_aload_n 3 rfl zd_MO_real_205 ?_
                      refine zw_get zc_MO 0 14 rfl (by decide) zf_MO_136 rfl zd_MO_real_206 ?_
                      refine zw_iload 1 rfl zd_MO_real_209 ?_
                      refine zw_isub zd_MO_real_211 ?_
                      refine zw_goto 216 zd_MO_real_212 (by decide) ?_
                      refine zw_iadd zd_MO_real_216 ?_
                      refine zw_istore (lv' := [(10, .int (zI ((-wv) + ((((ds.length : Nat) : Int)) - wv)))), (9, .int (zI (-wv))), (8, .int (zI (wv))), (6, .long (zJ (65536 * v))), (0, .ref h), (1, .int (zI (z))), (2, .int (zI (f))), (3, .int (zI (q))), (4, .int (zI (rdN t z))), (5, .int (zI (x)))]) (Nat.le_of_ble_eq_true rfl) rfl zd_MO_real_217 ?_
                      refine zw_lpick (lv' := [(0, .ref h), (1, .int (zI (z))), (2, .int (zI (f))), (3, .int (zI (q))), (4, .int (zI (rdN t z))), (6, .long (zJ (65536 * v))), (8, .int (zI (wv))), (9, .int (zI (-wv))), (10, .int (zI ((-wv) + ((((ds.length : Nat) : Int)) - wv))))]) [4, 5, 6, 7, 8, 3, 2, 1, 0] rfl ?_
                      refine zw_widen (k' := 0) (n' := 0) (by omega) (by omega) ?_
                      exact jb _ _ _ _ ⟨by omega, by omega, by omega, by omega⟩
                · -- 163 -> 166
                  refine zw_iconst zd_MO_real_166 ?_
                  refine zw_goto 174 zd_MO_real_167 (by decide) ?_
                  refine zw_istore (lv' := [(8, .int (zI (0))), (6, .long (zJ (65536 * v))), (0, .ref h), (1, .int (zI (z))), (2, .int (zI (f))), (3, .int (zI (q))), (4, .int (zI (rdN t z))), (5, .int (zI (x)))]) (Nat.le_of_ble_eq_true rfl) rfl zd_MO_real_174 ?_
                  refine zw_aload_n 2 rfl zd_MO_real_176 ?_
                  refine zw_get zc_MO 0 15 rfl (by decide) zf_MO_139 rfl zd_MO_real_177 ?_
                  refine zw_if_ge 191 (by omega) zd_MO_real_180 (by decide) (fun c180 => ?_) (fun c180 => ?_)
                  · -- 180 -> 191
                    refine zw_iconst zd_MO_real_191 ?_
                    refine zw_istore (lv' := [(9, .int (zI (0))), (8, .int (zI (0))), (6, .long (zJ (65536 * v))), (0, .ref h), (1, .int (zI (z))), (2, .int (zI (f))), (3, .int (zI (q))), (4, .int (zI (rdN t z))), (5, .int (zI (x)))]) (Nat.le_of_ble_eq_true rfl) rfl zd_MO_real_192 ?_
                    refine zw_iload 0 rfl zd_MO_real_194 ?_
                    refine zw_aload_n 3 rfl zd_MO_real_196 ?_
                    refine zw_get zc_MO 0 14 rfl (by decide) zf_MO_136 rfl zd_MO_real_197 ?_
                    refine zw_iload 1 rfl zd_MO_real_200 ?_
                    refine zw_icmp_le 215 (by omega) (by omega) zd_MO_real_202 (by decide) (fun c202 => ?_) (fun c202 => ?_)
                    · -- 202 -> 215
                      refine zw_iconst zd_MO_real_215 ?_
                      refine zw_iadd zd_MO_real_216 ?_
                      refine zw_istore (lv' := [(10, .int (zI (0 + 0))), (9, .int (zI (0))), (8, .int (zI (0))), (6, .long (zJ (65536 * v))), (0, .ref h), (1, .int (zI (z))), (2, .int (zI (f))), (3, .int (zI (q))), (4, .int (zI (rdN t z))), (5, .int (zI (x)))]) (Nat.le_of_ble_eq_true rfl) rfl zd_MO_real_217 ?_
                      refine zw_lpick (lv' := [(0, .ref h), (1, .int (zI (z))), (2, .int (zI (f))), (3, .int (zI (q))), (4, .int (zI (rdN t z))), (6, .long (zJ (65536 * v))), (8, .int (zI (0))), (9, .int (zI (0))), (10, .int (zI (0 + 0)))]) [4, 5, 6, 7, 8, 3, 2, 1, 0] rfl ?_
                      refine zw_widen (k' := 0) (n' := 0) (by omega) (by omega) ?_
                      exact jb _ _ _ _ ⟨by omega, by omega, by omega, by omega⟩
                    · -- 202 -> 205
                      refine zw_aload_n 3 rfl zd_MO_real_205 ?_
                      refine zw_get zc_MO 0 14 rfl (by decide) zf_MO_136 rfl zd_MO_real_206 ?_
                      refine zw_iload 1 rfl zd_MO_real_209 ?_
                      refine zw_isub zd_MO_real_211 ?_
                      refine zw_goto 216 zd_MO_real_212 (by decide) ?_
                      refine zw_iadd zd_MO_real_216 ?_
                      refine zw_istore (lv' := [(10, .int (zI (0 + ((((ds.length : Nat) : Int)) - 0)))), (9, .int (zI (0))), (8, .int (zI (0))), (6, .long (zJ (65536 * v))), (0, .ref h), (1, .int (zI (z))), (2, .int (zI (f))), (3, .int (zI (q))), (4, .int (zI (rdN t z))), (5, .int (zI (x)))]) (Nat.le_of_ble_eq_true rfl) rfl zd_MO_real_217 ?_
                      refine zw_lpick (lv' := [(0, .ref h), (1, .int (zI (z))), (2, .int (zI (f))), (3, .int (zI (q))), (4, .int (zI (rdN t z))), (6, .long (zJ (65536 * v))), (8, .int (zI (0))), (9, .int (zI (0))), (10, .int (zI (0 + ((((ds.length : Nat) : Int)) - 0))))]) [4, 5, 6, 7, 8, 3, 2, 1, 0] rfl ?_
                      refine zw_widen (k' := 0) (n' := 0) (by omega) (by omega) ?_
                      exact jb _ _ _ _ ⟨by omega, by omega, by omega, by omega⟩
                  · -- 180 -> 183
                    refine zw_aload_n 2 rfl zd_MO_real_183 ?_
                    refine zw_get zc_MO 0 15 rfl (by decide) zf_MO_139 rfl zd_MO_real_184 ?_
                    refine zw_ineg zd_MO_real_187 ?_
                    refine zw_goto 192 zd_MO_real_188 (by decide) ?_
                    refine zw_istore (lv' := [(9, .int (zI (-wv))), (8, .int (zI (0))), (6, .long (zJ (65536 * v))), (0, .ref h), (1, .int (zI (z))), (2, .int (zI (f))), (3, .int (zI (q))), (4, .int (zI (rdN t z))), (5, .int (zI (x)))]) (Nat.le_of_ble_eq_true rfl) rfl zd_MO_real_192 ?_
                    refine zw_iload 0 rfl zd_MO_real_194 ?_
                    refine zw_aload_n 3 rfl zd_MO_real_196 ?_
                    refine zw_get zc_MO 0 14 rfl (by decide) zf_MO_136 rfl zd_MO_real_197 ?_
                    refine zw_iload 1 rfl zd_MO_real_200 ?_
                    refine zw_icmp_le 215 (by omega) (by omega) zd_MO_real_202 (by decide) (fun c202 => ?_) (fun c202 => ?_)
                    · -- 202 -> 215
                      refine zw_iconst zd_MO_real_215 ?_
                      refine zw_iadd zd_MO_real_216 ?_
                      refine zw_istore (lv' := [(10, .int (zI ((-wv) + 0))), (9, .int (zI (-wv))), (8, .int (zI (0))), (6, .long (zJ (65536 * v))), (0, .ref h), (1, .int (zI (z))), (2, .int (zI (f))), (3, .int (zI (q))), (4, .int (zI (rdN t z))), (5, .int (zI (x)))]) (Nat.le_of_ble_eq_true rfl) rfl zd_MO_real_217 ?_
                      refine zw_lpick (lv' := [(0, .ref h), (1, .int (zI (z))), (2, .int (zI (f))), (3, .int (zI (q))), (4, .int (zI (rdN t z))), (6, .long (zJ (65536 * v))), (8, .int (zI (0))), (9, .int (zI (-wv))), (10, .int (zI ((-wv) + 0)))]) [4, 5, 6, 7, 8, 3, 2, 1, 0] rfl ?_
                      refine zw_widen (k' := 0) (n' := 0) (by omega) (by omega) ?_
                      exact jb _ _ _ _ ⟨by omega, by omega, by omega, by omega⟩
                    · -- 202 -> 205
                      refine zw_aload_n 3 rfl zd_MO_real_205 ?_
                      refine zw_get zc_MO 0 14 rfl (by decide) zf_MO_136 rfl zd_MO_real_206 ?_
                      refine zw_iload 1 rfl zd_MO_real_209 ?_
                      refine zw_isub zd_MO_real_211 ?_
                      refine zw_goto 216 zd_MO_real_212 (by decide) ?_
                      refine zw_iadd zd_MO_real_216 ?_
                      refine zw_istore (lv' := [(10, .int (zI ((-wv) + ((((ds.length : Nat) : Int)) - 0)))), (9, .int (zI (-wv))), (8, .int (zI (0))), (6, .long (zJ (65536 * v))), (0, .ref h), (1, .int (zI (z))), (2, .int (zI (f))), (3, .int (zI (q))), (4, .int (zI (rdN t z))), (5, .int (zI (x)))]) (Nat.le_of_ble_eq_true rfl) rfl zd_MO_real_217 ?_
                      refine zw_lpick (lv' := [(0, .ref h), (1, .int (zI (z))), (2, .int (zI (f))), (3, .int (zI (q))), (4, .int (zI (rdN t z))), (6, .long (zJ (65536 * v))), (8, .int (zI (0))), (9, .int (zI (-wv))), (10, .int (zI ((-wv) + ((((ds.length : Nat) : Int)) - 0))))]) [4, 5, 6, 7, 8, 3, 2, 1, 0] rfl ?_
                      refine zw_widen (k' := 0) (n' := 0) (by omega) (by omega) ?_
                      exact jb _ _ _ _ ⟨by omega, by omega, by omega, by omega⟩
              · -- 112 -> 115
                refine zw_ldc2 zk_MO_116 10 rfl zd_MO_real_115 ?_
                refine zw_lload 6 rfl zd_MO_real_118 ?_
                refine zw_lmul zd_MO_real_120 ?_
                refine zw_iload 7 rfl zd_MO_real_121 ?_
                refine zw_aload_n 0 rfl zd_MO_real_123 ?_
                refine zw_get zc_MO 0 14 rfl (by decide) zf_MO_136 rfl zd_MO_real_124 ?_
                refine zw_icmp_ge 140 (by omega) (by omega) zd_MO_real_127 (by decide) (fun c127 => ?_) (fun c127 => ?_)
                · -- 127 -> 140
                  refine zw_iconst zd_MO_real_140 ?_
                  refine zw_i2l (by omega) zd_MO_real_141 ?_
                  refine zw_ladd zd_MO_real_142 ?_
                  refine zw_lstore (lv' := [(6, .long (zJ ((10 * v) + 0))), (0, .ref h), (1, .int (zI (z))), (2, .int (zI (f))), (3, .int (zI (q))), (4, .int (zI (rdN t z))), (5, .int (zI (x))), (8, .int (zI (k)))]) (Nat.le_of_ble_eq_true rfl) rfl zd_MO_real_143 ?_
                  refine zw_iinc (lv' := [(8, .int (zI (k + 1))), (6, .long (zJ ((10 * v) + 0))), (0, .ref h), (1, .int (zI (z))), (2, .int (zI (f))), (3, .int (zI (q))), (4, .int (zI (rdN t z))), (5, .int (zI (x)))]) 7 rfl (Nat.le_of_ble_eq_true rfl) rfl zd_MO_real_145 ?_
                  refine zw_goto 106 zd_MO_real_148 (by decide) ?_
                  refine zw_lpick (lv' := [(0, .ref h), (1, .int (zI (z))), (2, .int (zI (f))), (3, .int (zI (q))), (4, .int (zI (rdN t z))), (5, .int (zI (x))), (6, .long (zJ ((10 * v) + 0))), (8, .int (zI (k + 1)))]) [2, 3, 4, 5, 6, 7, 1, 0] rfl ?_
                  refine zw_widen (k' := 0) (n' := 0) (by omega) (by omega) ?_
                  have e5 : fv (zdg ds) (k + 1).toNat = 10 * fv (zdg ds) k.toNat + zdg ds k.toNat := by rw [show (k + 1).toNat = k.toNat + 1 by omega]; rfl
                  rw [zdg_out (by omega)] at e5
                  exact ih ((10 * v) + 0) (k + 1) ⟨by omega, by omega⟩ (by omega)
                · -- 127 -> 130
                  refine zw_aload_n 0 rfl zd_MO_real_130 ?_
                  refine zw_get zc_MO 0 13 rfl (by decide) zf_MO_34 rfl zd_MO_real_131 ?_
                  refine zw_iload 7 rfl zd_MO_real_134 ?_
                  refine zw_aldB 8 rfl (by omega) (by omega) zd_MO_real_136 ?_
                  refine zw_topE (hd1 k.toNat (by omega)) ?_
                  have rk := hdg k.toNat
                  refine zw_goto 141 zd_MO_real_137 (by decide) ?_
                  refine zw_i2l (by omega) zd_MO_real_141 ?_
                  refine zw_ladd zd_MO_real_142 ?_
                  refine zw_lstore (lv' := [(6, .long (zJ ((10 * v) + (zdg ds k.toNat)))), (0, .ref h), (1, .int (zI (z))), (2, .int (zI (f))), (3, .int (zI (q))), (4, .int (zI (rdN t z))), (5, .int (zI (x))), (8, .int (zI (k)))]) (Nat.le_of_ble_eq_true rfl) rfl zd_MO_real_143 ?_
                  refine zw_iinc (lv' := [(8, .int (zI (k + 1))), (6, .long (zJ ((10 * v) + (zdg ds k.toNat)))), (0, .ref h), (1, .int (zI (z))), (2, .int (zI (f))), (3, .int (zI (q))), (4, .int (zI (rdN t z))), (5, .int (zI (x)))]) 7 rfl (Nat.le_of_ble_eq_true rfl) rfl zd_MO_real_145 ?_
                  refine zw_goto 106 zd_MO_real_148 (by decide) ?_
                  refine zw_lpick (lv' := [(0, .ref h), (1, .int (zI (z))), (2, .int (zI (f))), (3, .int (zI (q))), (4, .int (zI (rdN t z))), (5, .int (zI (x))), (6, .long (zJ ((10 * v) + (zdg ds k.toNat)))), (8, .int (zI (k + 1)))]) [2, 3, 4, 5, 6, 7, 1, 0] rfl ?_
                  refine zw_widen (k' := 0) (n' := 0) (by omega) (by omega) ?_
                  have e5 : fv (zdg ds) (k + 1).toNat = 10 * fv (zdg ds) k.toNat + zdg ds k.toNat := by rw [show (k + 1).toNat = k.toNat + 1 by omega]; rfl
                  exact ih ((10 * v) + (zdg ds k.toNat)) (k + 1) ⟨by omega, by omega⟩ (by omega)
          refine zw_lpick (lv' := [(0, .ref h), (1, .int (zI (z))), (2, .int (zI (f))), (3, .int (zI (q))), (4, .int (zI (rdN t z))), (5, .int (zI (x))), (6, .long (zJ (0))), (8, .int (zI (0)))]) [2, 3, 4, 5, 6, 7, 1, 0] rfl ?_
          refine zw_widen (k' := 0) (n' := 0) (by omega) (by omega) ?_
          exact lpb _ 0 0 ⟨by omega, rfl⟩ (Nat.lt_succ_self _)
        · -- 90 -> 93
          refine zw_pack (at0 := zMOd h (t) (ws) (ts) ([]) (op) (y) (r) (((ds.length : Nat) : Int)) (wv) (gd) (fr)) (Ls := [zObj h 6 [.ref at_, .int (zI (((t.length : Nat) : Int))), .int (zI (r)), .int (zI (((ws.length : Nat) : Int))), .ref ak, .ref an, .ref ab, .ref aw, .int (zI (((op.length : Nat) : Int))), .int (zI (((ts.length : Nat) : Int))), .int (zI (((((ts.flatten ++ ([]))).length : Nat) : Int))), .ref ay, .ref af, .ref ad, .int (zI (((ds.length : Nat) : Int))), .int (zI (wv)), .int (zI (y)), .ref ar], zArB at_ (65536) (ft), zArB ak (16384) (fk), zArI an (16384) (fn), zArI ab (16384) (fb), zArI aw (64) (fo), zArB ay (131072) (fy), zArI af (16385) (ff), zArB ad (400) (gd), zArB ar (420) (fr)]) (L2 := []) rfl (fun G w h => ⟨((at_, ak, an, ab, aw, ay, af, ad, ar), ft, fk, fn, fb, fo, fy, ff), ⟨m1, m2, m3, m4, ⟨hd2, d2⟩⟩, h⟩) ?_
          refine zw_aload_n 0 rfl zd_MO_real_93 ?_
          refine zw_iconst zd_MO_real_94 ?_
          refine zw_iload_n 1 rfl zd_MO_real_95 ?_
          refine zw_callV (As := [.int (zI (5)), .int (zI (z))]) (rest := []) (L2 := []) (L' := [zMOd h (t) (ws) (ts) ([]) (op) (5) (z) (((ds.length : Nat) : Int)) (wv) (gd) (fr)]) (stk' := [.int (zI (-1))]) (c_MO_fail h t ws ts ([]) op y r (((ds.length : Nat) : Int)) wv gd fr 5 z) [0] [] rfl rfl rfl zcal_MO_fail zl_MO_80 zin_MO_fail zse_MO_fail 0 rfl zRv_MOd rfl (Nat.le_of_ble_eq_true rfl) (Nat.le_of_ble_eq_true rfl) (by omega) (by omega) rfl (Nat.le_of_ble_eq_true rfl) rfl rfl zd_MO_real_96 ?_
          have hi := real_high (ng := rdN t z) (P0 := scanE sDig t f - f - 1 + rdX t (frE t (scanE sDig t f)) q) (j := x.toNat) hdr (by omega) (by rcases j2 with c | c; omega; exact c.2) (by omega)
          refine zw_pack (at0 := zMOy h (t) (ws) (ts) (op) (5) (z)) (Ls := [zMOd h (t) (ws) (ts) ([]) (op) (5) (z) (((ds.length : Nat) : Int)) (wv) (gd) (fr)]) (L2 := []) rfl (fun G w h => ⟨([], ((ds.length : Nat) : Int), wv, gd, fr), fun _ => rfl, h⟩) ?_
          exact zw_iret hR rfl rfl rfl (by omega) (by omega) zd_MO_real_99
      · -- 69 -> 72
        refine zw_pack (at0 := zMOd h (t) (ws) (ts) ([]) (op) (y) (r) (((ds.length : Nat) : Int)) (wv) (gd) (fr)) (Ls := [zObj h 6 [.ref at_, .int (zI (((t.length : Nat) : Int))), .int (zI (r)), .int (zI (((ws.length : Nat) : Int))), .ref ak, .ref an, .ref ab, .ref aw, .int (zI (((op.length : Nat) : Int))), .int (zI (((ts.length : Nat) : Int))), .int (zI (((((ts.flatten ++ ([]))).length : Nat) : Int))), .ref ay, .ref af, .ref ad, .int (zI (((ds.length : Nat) : Int))), .int (zI (wv)), .int (zI (y)), .ref ar], zArB at_ (65536) (ft), zArB ak (16384) (fk), zArI an (16384) (fn), zArI ab (16384) (fb), zArI aw (64) (fo), zArB ay (131072) (fy), zArI af (16385) (ff), zArB ad (400) (gd), zArB ar (420) (fr)]) (L2 := []) rfl (fun G w h => ⟨((at_, ak, an, ab, aw, ay, af, ad, ar), ft, fk, fn, fb, fo, fy, ff), ⟨m1, m2, m3, m4, ⟨hd2, d2⟩⟩, h⟩) ?_
        refine zw_aload_n 0 rfl zd_MO_real_72 ?_
        refine zw_iconst zd_MO_real_73 ?_
        refine zw_iconst zd_MO_real_74 ?_
        refine zw_iload_n 1 rfl zd_MO_real_75 ?_
        refine zw_callV (As := [.int (zI (2)), .int (zI (0)), .int (zI (z))]) (rest := []) (L2 := []) (L' := [zMOd h (t) (ws ++ [(zI 2, (zI (0)), (zI (z)))]) (ts) ([]) (op) (y) (r) (((ds.length : Nat) : Int)) (wv) (gd) (fr)]) (stk' := []) (c_MO_word h t ws ts ([]) op y r (((ds.length : Nat) : Int)) wv gd fr 2 (zI (0)) (zI (z)) (by omega) (by omega)) [0] [] rfl rfl rfl zcal_MO_word zl_MO_110 zin_MO_word zse_MO_word 0 rfl zRv_MOd rfl (Nat.le_of_ble_eq_true rfl) (Nat.le_of_ble_eq_true rfl) (by omega) (by omega) rfl (Nat.le_of_ble_eq_true rfl) rfl rfl zd_MO_real_76 ?_
        refine zw_iload_n 3 rfl zd_MO_real_79 ?_
        have lo := real_low (ng := rdN t z) (P0 := scanE sDig t f - f - 1 + rdX t (frE t (scanE sDig t f)) q) hdr (fun i hi hne => by
          have : ¬ i < x.toNat := fun c => hne (j1 i c)
          omega)
        have e9 : wholeV (rdN t z) (realSum (rdN t z) (plN ds (scanE sDig t f - f - 1 + rdX t (frE t (scanE sDig t f)) q) ds.length)) = 0 := by rw [lo.2]; unfold wholeV; split <;> rfl
        exfalso; omega
  have lpa : ∀ (fuel : Nat) (x : Int), ((0 ≤ x ∧ x ≤ ds.length) ∧ ∀ j, j < x.toNat → zdg ds j = 0) → ((ds.length : Int) - x).toNat < fuel → zZ X zm_MO_real (0) (0) (0) (0) [zObj h 6 [.ref at_, .int (zI (((t.length : Nat) : Int))), .int (zI (r)), .int (zI (((ws.length : Nat) : Int))), .ref ak, .ref an, .ref ab, .ref aw, .int (zI (((op.length : Nat) : Int))), .int (zI (((ts.length : Nat) : Int))), .int (zI (((((ts.flatten ++ ([]))).length : Nat) : Int))), .ref ay, .ref af, .ref ad, .int (zI (((ds.length : Nat) : Int))), .int (zI (wv)), .int (zI (y)), .ref ar], zArB at_ (65536) (ft), zArB ak (16384) (fk), zArI an (16384) (fn), zArI ab (16384) (fb), zArI aw (64) (fo), zArB ay (131072) (fy), zArI af (16385) (ff), zArB ad (400) (gd), zArB ar (420) (fr)] 26 [(0, .ref h), (1, .int (zI (z))), (2, .int (zI (f))), (3, .int (zI (q))), (4, .int (zI (rdN t z))), (5, .int (zI (x)))] [] := by
    intro fuel
    induction fuel with
    | zero => intro x g0 hm; exact absurd hm (Nat.not_lt_zero _)
    | succ fuel ih =>
      intro x g0 hm
      obtain ⟨g1, g2⟩ := g0
      refine zw_iload 5 rfl zd_MO_real_26 ?_
      refine zw_aload_n 0 rfl zd_MO_real_28 ?_
      refine zw_get zc_MO 0 14 rfl (by decide) zf_MO_136 rfl zd_MO_real_29 ?_
      refine zw_icmp_ge 51 (by omega) (by omega) zd_MO_real_32 (by decide) (fun c32 => ?_) (fun c32 => ?_)
      · -- 32 -> 51
        refine zw_widen (k' := 0) (n' := 0) (by omega) (by omega) ?_
        exact jn x (by omega) g2 (by omega)
      · -- 32 -> 35
        refine zw_aload_n 0 rfl zd_MO_real_35 ?_
        refine zw_get zc_MO 0 13 rfl (by decide) zf_MO_34 rfl zd_MO_real_36 ?_
        refine zw_iload 5 rfl zd_MO_real_39 ?_
        refine zw_aldB 8 rfl (by omega) (by omega) zd_MO_real_41 ?_
        refine zw_topE (hd1 x.toNat (by omega)) ?_
        have rk := hdg x.toNat
        refine zw_if_ne 51 (by omega) zd_MO_real_42 (by decide) (fun c42 => ?_) (fun c42 => ?_)
        · -- 42 -> 51
          refine zw_widen (k' := 0) (n' := 0) (by omega) (by omega) ?_
          exact jn x (by omega) g2 (by omega)
        · -- 42 -> 45
          refine zw_iinc (lv' := [(5, .int (zI (x + 1))), (0, .ref h), (1, .int (zI (z))), (2, .int (zI (f))), (3, .int (zI (q))), (4, .int (zI (rdN t z)))]) 5 rfl (Nat.le_of_ble_eq_true rfl) rfl zd_MO_real_45 ?_
          refine zw_goto 26 zd_MO_real_48 (by decide) ?_
          refine zw_lpick (lv' := [(0, .ref h), (1, .int (zI (z))), (2, .int (zI (f))), (3, .int (zI (q))), (4, .int (zI (rdN t z))), (5, .int (zI (x + 1)))]) [1, 2, 3, 4, 5, 0] rfl ?_
          refine zw_widen (k' := 0) (n' := 0) (by omega) (by omega) ?_
          refine ih (x + 1) ⟨by omega, fun j hj => ?_⟩ (by omega)
          by_cases e : j = x.toNat
          · rw [e]; omega
          · exact g2 j (by omega)
  refine zw_aload_n 0 rfl zd_MO_real_6 ?_
  refine zw_iload_n 1 rfl zd_MO_real_7 ?_
  refine zw_callV (As := [.int (zI (z))]) (rest := []) (L2 := [zArB ak (16384) (fk), zArI an (16384) (fn), zArI ab (16384) (fb), zArI aw (64) (fo), zArB ay (131072) (fy), zArI af (16385) (ff), zArB ad (400) (gd), zArB ar (420) (fr)]) (L' := [zObj h 6 [.ref at_, .int (zI (((t.length : Nat) : Int))), .int (zI (r)), .int (zI (((ws.length : Nat) : Int))), .ref ak, .ref an, .ref ab, .ref aw, .int (zI (((op.length : Nat) : Int))), .int (zI (((ts.length : Nat) : Int))), .int (zI (((((ts.flatten ++ ([]))).length : Nat) : Int))), .ref ay, .ref af, .ref ad, .int (zI (((ds.length : Nat) : Int))), .int (zI (wv)), .int (zI (y)), .ref ar], zArB at_ (65536) (ft), zArB ak (16384) (fk), zArI an (16384) (fn), zArI ab (16384) (fb), zArI aw (64) (fo), zArB ay (131072) (fy), zArI af (16385) (ff), zArB ad (400) (gd), zArB ar (420) (fr)]) (stk' := [.int (zI (bget t z))]) (c_MO_byteAtO h at_ ak an ab aw ay af ad ar r (((ws.length : Nat) : Int)) (((op.length : Nat) : Int)) (((ts.length : Nat) : Int)) (((((ts.flatten ++ ([]))).length : Nat) : Int)) (((ds.length : Nat) : Int)) wv y t ft m1 z (by omega)) [0, 1] [2, 3, 4, 5, 6, 7, 8, 9] rfl rfl rfl zcal_MO_byteAt zl_MO_51 zin_MO_byteAt zse_MO_byteAt 0 rfl zRv_obj rfl (Nat.le_of_ble_eq_true rfl) (Nat.le_of_ble_eq_true rfl) (by omega) (by omega) rfl (Nat.le_of_ble_eq_true rfl) rfl rfl zd_MO_real_8 ?_
  have rg8 := bget_rg m1.2.1 z
  refine zw_bipush rfl zd_MO_real_11 ?_
  refine zw_icmp_ne 20 (by omega) (by omega) zd_MO_real_13 (by decide) (fun c13 => ?_) (fun c13 => ?_)
  · -- 13 -> 20
    refine zw_iconst zd_MO_real_20 ?_
    refine zw_istore (lv' := [(4, .int (zI (0))), (0, .ref h), (1, .int (zI (z))), (2, .int (zI (f))), (3, .int (zI (q)))]) (Nat.le_of_ble_eq_true rfl) rfl zd_MO_real_21 ?_
    refine zw_iconst zd_MO_real_23 ?_
    refine zw_istore (lv' := [(5, .int (zI (0))), (4, .int (zI (0))), (0, .ref h), (1, .int (zI (z))), (2, .int (zI (f))), (3, .int (zI (q)))]) (Nat.le_of_ble_eq_true rfl) rfl zd_MO_real_24 ?_
    refine zw_lpick (lv' := [(0, .ref h), (1, .int (zI (z))), (2, .int (zI (f))), (3, .int (zI (q))), (4, .int (zI (0))), (5, .int (zI (0)))]) [2, 3, 4, 5, 1, 0] rfl ?_
    refine zw_widen (k' := 0) (n' := 0) (by omega) (by omega) ?_
    refine zw_eqv (lv' := [(0, .ref h), (1, .int (zI (z))), (2, .int (zI (f))), (3, .int (zI (q))), (4, .int (zI (rdN t z))), (5, .int (zI (0)))]) (by rw [show rdN t z = 0 by omega]) ?_
    exact lpa _ 0 ⟨by omega, fun j hj => by exact absurd hj (Nat.not_lt_zero _)⟩ (Nat.lt_succ_self _)
  · -- 13 -> 16
    refine zw_iconst zd_MO_real_16 ?_
    refine zw_goto 21 zd_MO_real_17 (by decide) ?_
    refine zw_istore (lv' := [(4, .int (zI (1))), (0, .ref h), (1, .int (zI (z))), (2, .int (zI (f))), (3, .int (zI (q)))]) (Nat.le_of_ble_eq_true rfl) rfl zd_MO_real_21 ?_
    refine zw_iconst zd_MO_real_23 ?_
    refine zw_istore (lv' := [(5, .int (zI (0))), (4, .int (zI (1))), (0, .ref h), (1, .int (zI (z))), (2, .int (zI (f))), (3, .int (zI (q)))]) (Nat.le_of_ble_eq_true rfl) rfl zd_MO_real_24 ?_
    refine zw_lpick (lv' := [(0, .ref h), (1, .int (zI (z))), (2, .int (zI (f))), (3, .int (zI (q))), (4, .int (zI (1))), (5, .int (zI (0)))]) [2, 3, 4, 5, 1, 0] rfl ?_
    refine zw_widen (k' := 0) (n' := 0) (by omega) (by omega) ?_
    refine zw_eqv (lv' := [(0, .ref h), (1, .int (zI (z))), (2, .int (zI (f))), (3, .int (zI (q))), (4, .int (zI (rdN t z))), (5, .int (zI (0)))]) (by rw [show rdN t z = 1 by omega]) ?_
    exact lpa _ 0 ⟨by omega, fun j hj => by exact absurd hj (Nat.not_lt_zero _)⟩ (Nat.lt_succ_self _)
