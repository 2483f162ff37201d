theorem mtexts_from {ts : List (List Int)} {pd : List Int} {fy ff : Nat → Int32} (m : mTexts ts pd fy ff) : ff ((ts.length : Nat) : Int).toNat = zI ((ts.flatten.length : Nat) : Int) := by
  rw [m.2.2.2.2.2 _ (by omega), show ((ts.length : Nat) : Int).toNat = ts.length by omega, List.take_length]
theorem mtexts_at {ts : List (List Int)} {pd : List Int} {fy ff : Nat → Int32} (m : mTexts ts pd fy ff) {i : Nat} {k : Int} (h : i < ts.length) (hk : 0 ≤ k ∧ k < ((ts.getD i []).length : Nat)) : fy ((((ts.take i).flatten.length : Nat) : Int) + k).toNat = (zI ((ts.getD i []).getD k.toNat 0)).toInt8.toInt32 := by
  have tb := ts_bound h
  rw [show ((((ts.take i).flatten.length : Nat) : Int) + k).toNat = (ts.take i).flatten.length + k.toNat by omega, m.2.2.2.2.1 _ (by rw [List.length_append]; omega), ts_at h (by omega)]
theorem mtexts_new {ts : List (List Int)} {pd : List Int} {fy ff : Nat → Int32} (m : mTexts ts pd fy ff) {k : Int} (hk : 0 ≤ k ∧ k < (pd.length : Nat)) : fy (((ts.flatten.length : Nat) : Int) + k).toNat = (zI (pd.getD k.toNat 0)).toInt8.toInt32 := by
  rw [show (((ts.flatten.length : Nat) : Int) + k).toNat = ts.flatten.length + k.toNat by omega, m.2.2.2.2.1 _ (by rw [List.length_append]; omega), zgD_r _ _ _ (by omega), Nat.add_sub_cancel_left]
theorem zbyte_inj {a b : Int} (ha : 0 ≤ a ∧ a ≤ 255) (hb : 0 ≤ b ∧ b ≤ 255) (h : (zI a).toInt8.toInt32 = (zI b).toInt8.toInt32) : a = b := by
  have e := congrArg (fun x => x &&& zI 255) h
  rw [zI_byte' ha, zI_byte' hb] at e
  exact (zI_eq (by omega) (by omega)).mp e
theorem ts_mem {ts : List (List Int)} {i : Nat} {b : Int} (h : i < ts.length) (hb : b ∈ ts.getD i []) : b ∈ ts.flatten := List.mem_flatten.mpr ⟨_, zmem_getD h, hb⟩
theorem ixOf_at {ts : List (List Int)} {p : List Int} {i : Nat} (h : i < ts.length) (hf : ∀ j, j < i → ts.getD j [] ≠ p) (e : ts.getD i [] = p) : ixOf ts p = i := by
  rcases Nat.lt_trichotomy (ixOf ts p) i with q | q | q
  · exact absurd (ixOf_get ts p (by omega)) (hf _ q)
  · exact q
  · exact absurd e (ixOf_first ts p i q)
theorem mtexts_cut {ts : List (List Int)} {pd : List Int} {fy ff : Nat → Int32} (m : mTexts ts pd fy ff) : mTexts ts [] fy ff := by
  unfold mTexts
  rw [List.append_nil]
  have h2 := m.2.1
  rw [List.length_append] at h2
  refine ⟨m.1, by omega, fun b hb => m.2.2.1 b (List.mem_append_left _ hb), m.2.2.2.1, fun j hj => ?_, m.2.2.2.2.2⟩
  rw [m.2.2.2.2.1 j (by rw [List.length_append]; omega), zgD_l _ _ _ hj]
theorem ts_len1 (ts : List (List Int)) (pd : List Int) : (((ts ++ [pd]).length : Nat) : Int) = ((ts.length : Nat) : Int) + 1 := by rw [List.length_append]; rfl
theorem ts_fl1 (ts : List (List Int)) (pd : List Int) : (ts ++ [pd]).flatten ++ [] = ts.flatten ++ pd := by simp
theorem mtexts_add {ts : List (List Int)} {pd : List Int} {fy ff : Nat → Int32} (m : mTexts ts pd fy ff) (h : ts.length < 16384) : mTexts (ts ++ [pd]) [] fy (upd ff (((ts.length : Nat) : Int) + 1).toNat (zI (((ts.flatten ++ pd).length : Nat) : Int))) := by
  unfold mTexts
  rw [ts_fl1]
  refine ⟨by rw [List.length_append, List.length_singleton]; omega, m.2.1, m.2.2.1, m.2.2.2.1, m.2.2.2.2.1, fun i hi => ?_⟩
  rw [List.length_append, List.length_singleton] at hi
  rw [show (((ts.length : Nat) : Int) + 1).toNat = ts.length + 1 by omega]
  by_cases e : i = ts.length + 1
  · subst e
    rw [pk_us, List.take_of_length_le (by rw [List.length_append, List.length_singleton]; omega)]
    congr 2
    simp
  · rw [pk_un e, m.2.2.2.2.2 i (by omega), List.take_append_of_le_length (by omega)]
/-- a byte as Java's signed byte -/
def sgnB (b : Int) : Int := if b < 128 then b else b - 256
theorem sgnB_all : ∀ n : Nat, n < 256 → (zI (n : Int)).toInt8.toInt32 = zI (if (n : Int) < 128 then (n : Int) else (n : Int) - 256) := by decide +kernel
theorem sgnB_eq {b : Int} (h : 0 ≤ b ∧ b ≤ 255) : (zI b).toInt8.toInt32 = zI (sgnB b) := by
  have := sgnB_all b.toNat (by omega)
  rw [show ((b.toNat : Nat) : Int) = b by omega] at this
  exact this
theorem sgnB_mod {b : Int} (h : 0 ≤ b ∧ b ≤ 255) : sgnB b % 256 = b := by
  unfold sgnB
  split <;> omega
theorem mtape_sgn {t : List Int} {f : Nat → Int32} (m : mTape t f) {z : Int} (h : 0 ≤ z ∧ z < t.length) : f z.toNat = zI (sgnB (bget t z)) := by
  rw [mtape_at m h, sgnB_eq (mtape_byte m h)]
theorem mbyte {t : List Int} (hby : ∀ b ∈ t, 0 ≤ b ∧ b ≤ 255) {z : Int} (h : 0 ≤ z ∧ z < t.length) : 0 ≤ bget t z ∧ bget t z ≤ 255 := by
  rw [bget, if_pos h]
  exact hby _ (zmem_getD (by omega))
def isW (ws : List (Int32 × Int32 × Int32)) (z : Int) : Bool := decide (0 ≤ z ∧ z < ws.length)
set_option maxHeartbeats 4000000 in
set_option maxRecDepth 100000 in
theorem c_MO_text (h : Nat) (t : List Int) (ws : List (Int32 × Int32 × Int32)) (ts : List (List Int)) (pd : List Int) (op : List Int) (y r ct wh : Int) (fd fr : Nat → Int32) (hl : ts.length < 16384) : zCT zy_MO_text zm_MO_text (0) (0) [.ref h] [zMOd h (t) (ws) (ts) (pd) (op) (y) (r) (ct) (wh) (fd) (fr)] (some (.int (zI ((ixOf ts pd : Nat) : Int)))) [zMOd h (t) (ws) (addT ts pd) ([]) (op) (y) (r) (ct) (wh) (fd) (fr)] := by
  refine zCT.of [(0, .ref h)] rfl (by decide) rfl (fun h => by first | rfl | cases h) (Nat.le_of_ble_eq_true rfl) (fun X hR => ?_)
  refine zw_fact 0 rfl (fun G w h => zMOd_fact h) (fun mf => ?_)
  obtain ⟨⟨ht1, hby⟩, hw1, ⟨hs1, hs2, hs3⟩, ho1⟩ := mf
  have hal : (ts.flatten ++ pd).length = ts.flatten.length + pd.length := List.length_append
  have lp : ∀ (fuel : Nat) (i : Int), ((0 ≤ i ∧ i ≤ ts.length) ∧ ∀ j, j < i.toNat → ts.getD j [] ≠ pd) → ((ts.length : Int) - i).toNat < fuel → zZ X zm_MO_text (0) (0) (0) (0) [zMOd h (t) (ws) (ts) (pd) (op) (y) (r) (ct) (wh) (fd) (fr)] 19 [(0, .ref h), (1, .int (zI (((ts.flatten.length : Nat) : Int)))), (2, .int (zI (((pd.length : Nat) : Int)))), (3, .int (zI (i)))] [] := by
    intro fuel
    induction fuel with
    | zero => intro i g0 hm; exact absurd hm (Nat.not_lt_zero _)
    | succ fuel ih =>
      intro i g0 hm
      refine zw_iload_n 3 rfl zd_MO_text_19 ?_
      refine zw_aload_n 0 rfl zd_MO_text_20 ?_
      refine zw_unp (fun G ws h => h) (fun x0 hx0 => ?_)
      obtain ⟨⟨at_, ak, an, ab, aw, ay, af, ad, ar⟩, ft, fk, fn, fb, fo, fy, ff⟩ := x0
      obtain ⟨m1, m2, m3, m4, m5⟩ := hx0
      simp only [List.cons_append, List.nil_append]
      dsimp only at m1 m2 m3 m4 m5
      refine zw_get zc_MO 0 9 rfl (by decide) zf_MO_67 rfl zd_MO_text_21 ?_
      refine zw_pack (at0 := zMOd h (t) (ws) (ts) (pd) (op) (y) (r) (ct) (wh) (fd) (fr)) (Ls := [zObj h 6 [.ref at_, .int (zI (((t.length : Nat) : Int))), .int (zI (r)), .int (zI (((ws.length : Nat) : Int))), .ref ak, .ref an, .ref ab, .ref aw, .int (zI (((op.length : Nat) : Int))), .int (zI (((ts.length : Nat) : Int))), .int (zI (((((ts.flatten ++ pd)).length : Nat) : Int))), .ref ay, .ref af, .ref ad, .int (zI (ct)), .int (zI (wh)), .int (zI (y)), .ref ar], zArB at_ (65536) (ft), zArB ak (16384) (fk), zArI an (16384) (fn), zArI ab (16384) (fb), zArI aw (64) (fo), zArB ay (131072) (fy), zArI af (16385) (ff), zArB ad (400) (fd), zArB ar (420) (fr)]) (L2 := []) rfl (fun G w h => ⟨((at_, ak, an, ab, aw, ay, af, ad, ar), ft, fk, fn, fb, fo, fy, ff), ⟨m1, m2, m3, m4, m5⟩, h⟩) ?_
      refine zw_icmp_ge 102 (by omega) (by omega) zd_MO_text_24 (by decide) (fun c24 => ?_) (fun c24 => ?_)
      · -- 24 -> 102
        have e7 : ixOf ts pd = ts.length := ixOf_none (fun j hj => g0.2 j (by omega))
        have e6 : addT ts pd = ts ++ [pd] := by rw [addT, if_neg (by omega)]
        refine zw_unp (fun G ws h => h) (fun x0 hx0 => ?_)
        obtain ⟨⟨at_, ak, an, ab, aw, ay, af, ad, ar⟩, ft, fk, fn, fb, fo, fy, ff⟩ := x0
        obtain ⟨m1, m2, m3, m4, m5⟩ := hx0
        simp only [List.cons_append, List.nil_append]
        dsimp only at m1 m2 m3 m4 m5
        refine zw_aload_n 0 rfl zd_MO_text_102 ?_
        refine zw_dup rfl zd_MO_text_103 ?_
        refine zw_get zc_MO 0 9 rfl (by decide) zf_MO_67 rfl zd_MO_text_104 ?_
        refine zw_iconst zd_MO_text_107 ?_
        refine zw_iadd zd_MO_text_108 ?_
        refine zw_put (L' := [zObj h 6 [.ref at_, .int (zI (((t.length : Nat) : Int))), .int (zI (r)), .int (zI (((ws.length : Nat) : Int))), .ref ak, .ref an, .ref ab, .ref aw, .int (zI (((op.length : Nat) : Int))), .int (zI ((((ts.length : Nat) : Int)) + 1)), .int (zI (((((ts.flatten ++ pd)).length : Nat) : Int))), .ref ay, .ref af, .ref ad, .int (zI (ct)), .int (zI (wh)), .int (zI (y)), .ref ar], zArB at_ (65536) (ft), zArB ak (16384) (fk), zArI an (16384) (fn), zArI ab (16384) (fb), zArI aw (64) (fo), zArB ay (131072) (fy), zArI af (16385) (ff), zArB ad (400) (fd), zArB ar (420) (fr)]) zc_MO 0 9 rfl (by decide) zf_MO_67 rfl rfl rfl (Nat.le_of_ble_eq_true rfl) rfl zd_MO_text_109 ?_
        refine zw_aload_n 0 rfl zd_MO_text_112 ?_
        refine zw_get zc_MO 0 12 rfl (by decide) zf_MO_31 rfl zd_MO_text_113 ?_
        refine zw_aload_n 0 rfl zd_MO_text_116 ?_
        refine zw_get zc_MO 0 9 rfl (by decide) zf_MO_67 rfl zd_MO_text_117 ?_
        refine zw_aload_n 0 rfl zd_MO_text_120 ?_
        refine zw_get zc_MO 0 10 rfl (by decide) zf_MO_64 rfl zd_MO_text_121 ?_
        refine zw_astI (L' := [zObj h 6 [.ref at_, .int (zI (((t.length : Nat) : Int))), .int (zI (r)), .int (zI (((ws.length : Nat) : Int))), .ref ak, .ref an, .ref ab, .ref aw, .int (zI (((op.length : Nat) : Int))), .int (zI ((((ts.length : Nat) : Int)) + 1)), .int (zI (((((ts.flatten ++ pd)).length : Nat) : Int))), .ref ay, .ref af, .ref ad, .int (zI (ct)), .int (zI (wh)), .int (zI (y)), .ref ar], zArB at_ (65536) (ft), zArB ak (16384) (fk), zArI an (16384) (fn), zArI ab (16384) (fb), zArI aw (64) (fo), zArB ay (131072) (fy), zArI af (16385) (upd ff ((((ts.length : Nat) : Int)) + 1).toNat (zI (((((ts.flatten ++ pd)).length : Nat) : Int)))), zArB ad (400) (fd), zArB ar (420) (fr)]) 7 rfl (by omega) (by omega) rfl zd_MO_text_124 ?_
        refine zw_aload_n 0 rfl zd_MO_text_125 ?_
        refine zw_get zc_MO 0 9 rfl (by decide) zf_MO_67 rfl zd_MO_text_126 ?_
        refine zw_iconst zd_MO_text_129 ?_
        refine zw_isub zd_MO_text_130 ?_
        refine zw_eqL (L' := [zObj h 6 [.ref at_, .int (zI (((t.length : Nat) : Int))), .int (zI (r)), .int (zI (((ws.length : Nat) : Int))), .ref ak, .ref an, .ref ab, .ref aw, .int (zI (((op.length : Nat) : Int))), .int (zI ((((ts ++ [pd]).length : Nat) : Int))), .int (zI ((((((ts ++ [pd]).flatten ++ ([]))).length : Nat) : Int))), .ref ay, .ref af, .ref ad, .int (zI (ct)), .int (zI (wh)), .int (zI (y)), .ref ar], zArB at_ (65536) (ft), zArB ak (16384) (fk), zArI an (16384) (fn), zArI ab (16384) (fb), zArI aw (64) (fo), zArB ay (131072) (fy), zArI af (16385) (upd ff ((((ts.length : Nat) : Int)) + 1).toNat (zI (((((ts.flatten ++ pd)).length : Nat) : Int)))), zArB ad (400) (fd), zArB ar (420) (fr)]) (by rw [ts_len1, ts_fl1]) ?_
        refine zw_pack (at0 := zMOd h (t) (ws) (ts ++ [pd]) ([]) (op) (y) (r) (ct) (wh) (fd) (fr)) (Ls := [zObj h 6 [.ref at_, .int (zI (((t.length : Nat) : Int))), .int (zI (r)), .int (zI (((ws.length : Nat) : Int))), .ref ak, .ref an, .ref ab, .ref aw, .int (zI (((op.length : Nat) : Int))), .int (zI ((((ts ++ [pd]).length : Nat) : Int))), .int (zI ((((((ts ++ [pd]).flatten ++ ([]))).length : Nat) : Int))), .ref ay, .ref af, .ref ad, .int (zI (ct)), .int (zI (wh)), .int (zI (y)), .ref ar], zArB at_ (65536) (ft), zArB ak (16384) (fk), zArI an (16384) (fn), zArI ab (16384) (fb), zArI aw (64) (fo), zArB ay (131072) (fy), zArI af (16385) (upd ff ((((ts.length : Nat) : Int)) + 1).toNat (zI (((((ts.flatten ++ pd)).length : Nat) : Int)))), zArB ad (400) (fd), zArB ar (420) (fr)]) (L2 := []) rfl (fun G w h => ⟨((at_, ak, an, ab, aw, ay, af, ad, ar), ft, fk, fn, fb, fo, fy, upd ff ((((ts.length : Nat) : Int)) + 1).toNat (zI (((((ts.flatten ++ pd)).length : Nat) : Int)))), ⟨m1, m2, mtexts_add m3 hl, m4, m5⟩, h⟩) ?_
        exact zw_iret hR (by rw [e7, show ((ts.length : Nat) : Int) + 1 - 1 = ((ts.length : Nat) : Int) by omega]) (by rw [e6]) rfl (by omega) (by omega) zd_MO_text_131
      · -- 24 -> 27
        refine zw_aload_n 0 rfl zd_MO_text_27 ?_
        refine zw_iload_n 3 rfl zd_MO_text_28 ?_
        refine zw_callV (As := [.int (zI (i))]) (rest := []) (L2 := []) (L' := [zMOd h (t) (ws) (ts) (pd) (op) (y) (r) (ct) (wh) (fd) (fr)]) (stk' := [.int (iget (tsSizes ts) i)]) (c_MO_size h t ws ts pd op y r ct wh fd fr i (by omega)) [0] [] rfl rfl rfl zcal_MO_size zl_MO_70 zin_MO_size zse_MO_size 0 rfl zRv_MOd rfl (Nat.le_of_ble_eq_true rfl) (Nat.le_of_ble_eq_true rfl) (by omega) (by omega) rfl (Nat.le_of_ble_eq_true rfl) rfl rfl zd_MO_text_29 ?_
        refine zw_eqs (st' := [.int (zI ((((ts.getD i.toNat []).length : Nat) : Int)))]) (by rw [ig_sizes (by omega)]) ?_
        have tb0 := ts_bound (ts := ts) (i := i.toNat) (by omega)
        refine zw_iload_n 2 rfl zd_MO_text_32 ?_
        refine zw_icmp_eq 39 (by omega) (by omega) zd_MO_text_33 (by decide) (fun c33 => ?_) (fun c33 => ?_)
        · -- 33 -> 39
          have tb := ts_bound (ts := ts) (i := i.toNat) (by omega)
          have al : (ts.flatten ++ pd).length = ts.flatten.length + pd.length := List.length_append
          have lp2 : ∀ (fuel2 : Nat) (k : Int), ((0 ≤ k ∧ k ≤ ((pd.length : Nat) : Int)) ∧ (ts.getD i.toNat []).take k.toNat = pd.take k.toNat) → (((pd.length : Nat) : Int) - k).toNat < fuel2 → zZ X zm_MO_text (0) (0) (0) (0) [zMOd h (t) (ws) (ts) (pd) (op) (y) (r) (ct) (wh) (fd) (fr)] 42 [(0, .ref h), (1, .int (zI (((ts.flatten.length : Nat) : Int)))), (2, .int (zI (((pd.length : Nat) : Int)))), (3, .int (zI (i))), (4, .int (zI (k)))] [] := by
            intro fuel2
            induction fuel2 with
            | zero => intro k g5 hm2; exact absurd hm2 (Nat.not_lt_zero _)
            | succ fuel2 ih2 =>
              intro k g5 hm2
              refine zw_iload 4 rfl zd_MO_text_42 ?_
              refine zw_iload_n 2 rfl zd_MO_text_44 ?_
              refine zw_icmp_ge 80 (by omega) (by omega) zd_MO_text_45 (by decide) (fun c45 => ?_) (fun c45 => ?_)
              · -- 45 -> 80
                refine zw_iload 4 rfl zd_MO_text_80 ?_
                refine zw_iload_n 2 rfl zd_MO_text_82 ?_
                refine zw_icmp_ge 89 (by omega) (by omega) zd_MO_text_83 (by decide) (fun c83 => ?_) (fun c83 => ?_)
                · -- 83 -> 89
                  have e9 : (ts.getD i.toNat []) = pd := by
                    have e8 := g5.2
                    rw [List.take_of_length_le (by omega), List.take_of_length_le (by omega)] at e8
                    exact e8
                  have e7 : ixOf ts pd = i.toNat := ixOf_at (by omega) g0.2 e9
                  have e6 : addT ts pd = ts := by rw [addT, if_pos (by omega)]
                  refine zw_unp (fun G ws h => h) (fun x0 hx0 => ?_)
                  obtain ⟨⟨at_, ak, an, ab, aw, ay, af, ad, ar⟩, ft, fk, fn, fb, fo, fy, ff⟩ := x0
                  obtain ⟨m1, m2, m3, m4, m5⟩ := hx0
                  simp only [List.cons_append, List.nil_append]
                  dsimp only at m1 m2 m3 m4 m5
                  refine zw_aload_n 0 rfl zd_MO_text_89 ?_
                  refine zw_iload_n 1 rfl zd_MO_text_90 ?_
                  refine zw_put (L' := [zObj h 6 [.ref at_, .int (zI (((t.length : Nat) : Int))), .int (zI (r)), .int (zI (((ws.length : Nat) : Int))), .ref ak, .ref an, .ref ab, .ref aw, .int (zI (((op.length : Nat) : Int))), .int (zI (((ts.length : Nat) : Int))), .int (zI (((ts.flatten.length : Nat) : Int))), .ref ay, .ref af, .ref ad, .int (zI (ct)), .int (zI (wh)), .int (zI (y)), .ref ar], zArB at_ (65536) (ft), zArB ak (16384) (fk), zArI an (16384) (fn), zArI ab (16384) (fb), zArI aw (64) (fo), zArB ay (131072) (fy), zArI af (16385) (ff), zArB ad (400) (fd), zArB ar (420) (fr)]) zc_MO 0 10 rfl (by decide) zf_MO_64 rfl rfl rfl (Nat.le_of_ble_eq_true rfl) rfl zd_MO_text_91 ?_
                  refine zw_iload_n 3 rfl zd_MO_text_94 ?_
                  refine zw_eqL (L' := [zObj h 6 [.ref at_, .int (zI (((t.length : Nat) : Int))), .int (zI (r)), .int (zI (((ws.length : Nat) : Int))), .ref ak, .ref an, .ref ab, .ref aw, .int (zI (((op.length : Nat) : Int))), .int (zI (((ts.length : Nat) : Int))), .int (zI (((((ts.flatten ++ ([]))).length : Nat) : Int))), .ref ay, .ref af, .ref ad, .int (zI (ct)), .int (zI (wh)), .int (zI (y)), .ref ar], zArB at_ (65536) (ft), zArB ak (16384) (fk), zArI an (16384) (fn), zArI ab (16384) (fb), zArI aw (64) (fo), zArB ay (131072) (fy), zArI af (16385) (ff), zArB ad (400) (fd), zArB ar (420) (fr)]) (by rw [List.append_nil]) ?_
                  refine zw_pack (at0 := zMOd h (t) (ws) (ts) ([]) (op) (y) (r) (ct) (wh) (fd) (fr)) (Ls := [zObj h 6 [.ref at_, .int (zI (((t.length : Nat) : Int))), .int (zI (r)), .int (zI (((ws.length : Nat) : Int))), .ref ak, .ref an, .ref ab, .ref aw, .int (zI (((op.length : Nat) : Int))), .int (zI (((ts.length : Nat) : Int))), .int (zI (((((ts.flatten ++ ([]))).length : Nat) : Int))), .ref ay, .ref af, .ref ad, .int (zI (ct)), .int (zI (wh)), .int (zI (y)), .ref ar], zArB at_ (65536) (ft), zArB ak (16384) (fk), zArI an (16384) (fn), zArI ab (16384) (fb), zArI aw (64) (fo), zArB ay (131072) (fy), zArI af (16385) (ff), zArB ad (400) (fd), zArB ar (420) (fr)]) (L2 := []) rfl (fun G w h => ⟨((at_, ak, an, ab, aw, ay, af, ad, ar), ft, fk, fn, fb, fo, fy, ff), ⟨m1, m2, mtexts_cut m3, m4, m5⟩, h⟩) ?_
                  exact zw_iret hR (by rw [e7, show ((i.toNat : Nat) : Int) = i by omega]) (by rw [e6]) rfl (by omega) (by omega) zd_MO_text_95
                · -- 83 -> 86
                  exact absurd c83 (by omega)
              · -- 45 -> 48
                refine zw_unp (fun G ws h => h) (fun x0 hx0 => ?_)
                obtain ⟨⟨at_, ak, an, ab, aw, ay, af, ad, ar⟩, ft, fk, fn, fb, fo, fy, ff⟩ := x0
                obtain ⟨m1, m2, m3, m4, m5⟩ := hx0
                simp only [List.cons_append, List.nil_append]
                dsimp only at m1 m2 m3 m4 m5
                refine zw_aload_n 0 rfl zd_MO_text_48 ?_
                refine zw_get zc_MO 0 11 rfl (by decide) zf_MO_28 rfl zd_MO_text_49 ?_
                refine zw_aload_n 0 rfl zd_MO_text_52 ?_
                refine zw_get zc_MO 0 12 rfl (by decide) zf_MO_31 rfl zd_MO_text_53 ?_
                refine zw_iload_n 3 rfl zd_MO_text_56 ?_
                refine zw_aldI 7 rfl (by omega) (by omega) zd_MO_text_57 ?_
                refine zw_topE (m3.2.2.2.2.2 _ (by omega)) ?_
                refine zw_iload 4 rfl zd_MO_text_58 ?_
                refine zw_iadd zd_MO_text_60 ?_
                refine zw_aldB 6 rfl (by omega) (by omega) zd_MO_text_61 ?_
                refine zw_topE (mtexts_at m3 (i := i.toNat) (k := k) (by omega) (by omega)) ?_
                refine zw_aload_n 0 rfl zd_MO_text_62 ?_
                refine zw_get zc_MO 0 11 rfl (by decide) zf_MO_28 rfl zd_MO_text_63 ?_
                refine zw_iload_n 1 rfl zd_MO_text_66 ?_
                refine zw_iload 4 rfl zd_MO_text_67 ?_
                refine zw_iadd zd_MO_text_69 ?_
                refine zw_aldB 6 rfl (by omega) (by omega) zd_MO_text_70 ?_
                refine zw_topE (mtexts_new m3 (k := k) (by omega)) ?_
                refine zw_icmp_neR 80 zd_MO_text_71 (by decide) (fun c71 => ?_) (fun c71 => ?_)
                · -- 71 -> 80
                  refine zw_pack (at0 := zMOd h (t) (ws) (ts) (pd) (op) (y) (r) (ct) (wh) (fd) (fr)) (Ls := [zObj h 6 [.ref at_, .int (zI (((t.length : Nat) : Int))), .int (zI (r)), .int (zI (((ws.length : Nat) : Int))), .ref ak, .ref an, .ref ab, .ref aw, .int (zI (((op.length : Nat) : Int))), .int (zI (((ts.length : Nat) : Int))), .int (zI (((((ts.flatten ++ pd)).length : Nat) : Int))), .ref ay, .ref af, .ref ad, .int (zI (ct)), .int (zI (wh)), .int (zI (y)), .ref ar], zArB at_ (65536) (ft), zArB ak (16384) (fk), zArI an (16384) (fn), zArI ab (16384) (fb), zArI aw (64) (fo), zArB ay (131072) (fy), zArI af (16385) (ff), zArB ad (400) (fd), zArB ar (420) (fr)]) (L2 := []) rfl (fun G w h => ⟨((at_, ak, an, ab, aw, ay, af, ad, ar), ft, fk, fn, fb, fo, fy, ff), ⟨m1, m2, m3, m4, m5⟩, h⟩) ?_
                  refine zw_iload 4 rfl zd_MO_text_80 ?_
                  refine zw_iload_n 2 rfl zd_MO_text_82 ?_
                  refine zw_icmp_ge 89 (by omega) (by omega) zd_MO_text_83 (by decide) (fun c83 => ?_) (fun c83 => ?_)
                  · -- 83 -> 89
                    exact absurd c83 (by omega)
                  · -- 83 -> 86
                    refine zw_goto 96 zd_MO_text_86 (by decide) ?_
                    refine zw_iinc (lv' := [(3, .int (zI (i + 1))), (0, .ref h), (1, .int (zI (((ts.flatten.length : Nat) : Int)))), (2, .int (zI (((pd.length : Nat) : Int)))), (4, .int (zI (k)))]) 3 rfl (Nat.le_of_ble_eq_true rfl) rfl zd_MO_text_96 ?_
                    refine zw_goto 19 zd_MO_text_99 (by decide) ?_
                    refine zw_lpick (lv' := [(0, .ref h), (1, .int (zI (((ts.flatten.length : Nat) : Int)))), (2, .int (zI (((pd.length : Nat) : Int)))), (3, .int (zI (i + 1)))]) [1, 2, 3, 0] rfl ?_
                    refine zw_widen (k' := 0) (n' := 0) (by omega) (by omega) ?_
                    refine ih (i + 1) ⟨by omega, fun j hj => ?_⟩ (by omega)
                    by_cases ej : j = i.toNat
                    · rw [ej]; intro e; rw [e] at c71; exact absurd rfl c71
                    · exact g0.2 j (by omega)
                · -- 71 -> 74
                  refine zw_pack (at0 := zMOd h (t) (ws) (ts) (pd) (op) (y) (r) (ct) (wh) (fd) (fr)) (Ls := [zObj h 6 [.ref at_, .int (zI (((t.length : Nat) : Int))), .int (zI (r)), .int (zI (((ws.length : Nat) : Int))), .ref ak, .ref an, .ref ab, .ref aw, .int (zI (((op.length : Nat) : Int))), .int (zI (((ts.length : Nat) : Int))), .int (zI (((((ts.flatten ++ pd)).length : Nat) : Int))), .ref ay, .ref af, .ref ad, .int (zI (ct)), .int (zI (wh)), .int (zI (y)), .ref ar], zArB at_ (65536) (ft), zArB ak (16384) (fk), zArI an (16384) (fn), zArI ab (16384) (fb), zArI aw (64) (fo), zArB ay (131072) (fy), zArI af (16385) (ff), zArB ad (400) (fd), zArB ar (420) (fr)]) (L2 := []) rfl (fun G w h => ⟨((at_, ak, an, ab, aw, ay, af, ad, ar), ft, fk, fn, fb, fo, fy, ff), ⟨m1, m2, m3, m4, m5⟩, h⟩) ?_
                  have eb := zbyte_inj (hs3 _ (List.mem_append_left _ (ts_mem (by omega) (zmem_getD (l := (ts.getD i.toNat [])) (d := 0) (k := k.toNat) (by omega))))) (hs3 _ (List.mem_append_right _ (zmem_getD (l := pd) (d := 0) (k := k.toNat) (by omega)))) (by first | exact c71 | exact Decidable.not_not.mp c71)
                  refine zw_iinc (lv' := [(4, .int (zI (k + 1))), (0, .ref h), (1, .int (zI (((ts.flatten.length : Nat) : Int)))), (2, .int (zI (((pd.length : Nat) : Int)))), (3, .int (zI (i)))]) 4 rfl (Nat.le_of_ble_eq_true rfl) rfl zd_MO_text_74 ?_
                  refine zw_goto 42 zd_MO_text_77 (by decide) ?_
                  refine zw_lpick (lv' := [(0, .ref h), (1, .int (zI (((ts.flatten.length : Nat) : Int)))), (2, .int (zI (((pd.length : Nat) : Int)))), (3, .int (zI (i))), (4, .int (zI (k + 1)))]) [1, 2, 3, 4, 0] rfl ?_
                  refine zw_widen (k' := 0) (n' := 0) (by omega) (by omega) ?_
                  exact ih2 (k + 1) ⟨by omega, take_step g5.2 (by omega) (by omega) (by omega) eb⟩ (by omega)
          refine zw_iconst zd_MO_text_39 ?_
          refine zw_istore (lv' := [(4, .int (zI (0))), (0, .ref h), (1, .int (zI (((ts.flatten.length : Nat) : Int)))), (2, .int (zI (((pd.length : Nat) : Int)))), (3, .int (zI (i)))]) (Nat.le_of_ble_eq_true rfl) rfl zd_MO_text_40 ?_
          refine zw_lpick (lv' := [(0, .ref h), (1, .int (zI (((ts.flatten.length : Nat) : Int)))), (2, .int (zI (((pd.length : Nat) : Int)))), (3, .int (zI (i))), (4, .int (zI (0)))]) [1, 2, 3, 4, 0] rfl ?_
          refine zw_widen (k' := 0) (n' := 0) (by omega) (by omega) ?_
          exact lp2 _ 0 ⟨by omega, rfl⟩ (Nat.lt_succ_self _)
        · -- 33 -> 36
          refine zw_goto 96 zd_MO_text_36 (by decide) ?_
          refine zw_iinc (lv' := [(3, .int (zI (i + 1))), (0, .ref h), (1, .int (zI (((ts.flatten.length : Nat) : Int)))), (2, .int (zI (((pd.length : Nat) : Int))))]) 3 rfl (Nat.le_of_ble_eq_true rfl) rfl zd_MO_text_96 ?_
          refine zw_goto 19 zd_MO_text_99 (by decide) ?_
          refine zw_lpick (lv' := [(0, .ref h), (1, .int (zI (((ts.flatten.length : Nat) : Int)))), (2, .int (zI (((pd.length : Nat) : Int)))), (3, .int (zI (i + 1)))]) [1, 2, 3, 0] rfl ?_
          refine zw_widen (k' := 0) (n' := 0) (by omega) (by omega) ?_
          refine ih (i + 1) ⟨by omega, fun j hj => ?_⟩ (by omega)
          by_cases ej : j = i.toNat
          · rw [ej]; intro e; rw [e] at c33; exact absurd rfl c33
          · exact g0.2 j (by omega)
  refine zw_unp (fun G ws h => h) (fun x0 hx0 => ?_)
  obtain ⟨⟨at_, ak, an, ab, aw, ay, af, ad, ar⟩, ft, fk, fn, fb, fo, fy, ff⟩ := x0
  obtain ⟨m1, m2, m3, m4, m5⟩ := hx0
  simp only [List.cons_append, List.nil_append]
  dsimp only at m1 m2 m3 m4 m5
  refine zw_aload_n 0 rfl zd_MO_text_0 ?_
  refine zw_get zc_MO 0 12 rfl (by decide) zf_MO_31 rfl zd_MO_text_1 ?_
  refine zw_aload_n 0 rfl zd_MO_text_4 ?_
  refine zw_get zc_MO 0 9 rfl (by decide) zf_MO_67 rfl zd_MO_text_5 ?_
  refine zw_aldI 7 rfl (by omega) (by omega) zd_MO_text_8 ?_
  refine zw_topE (mtexts_from m3) ?_
  refine zw_istore_n (lv' := [(1, .int (zI (((ts.flatten.length : Nat) : Int)))), (0, .ref h)]) (Nat.le_of_ble_eq_true rfl) rfl zd_MO_text_9 ?_
  refine zw_aload_n 1 rfl zd_MO_text_10 ?_
  refine zw_get zc_MO 0 10 rfl (by decide) zf_MO_64 rfl zd_MO_text_11 ?_
  refine zw_iload_n 0 rfl zd_MO_text_14 ?_
  refine zw_isub zd_MO_text_15 ?_
  refine zw_eqs (st' := [.int (zI (((pd.length : Nat) : Int)))]) (by rw [show (((ts.flatten ++ pd).length : Nat) : Int) - ((ts.flatten.length : Nat) : Int) = ((pd.length : Nat) : Int) by rw [List.length_append]; omega]) ?_
  refine zw_istore_n (lv' := [(2, .int (zI (((pd.length : Nat) : Int)))), (1, .int (zI (((ts.flatten.length : Nat) : Int)))), (0, .ref h)]) (Nat.le_of_ble_eq_true rfl) rfl zd_MO_text_16 ?_
  refine zw_iconst zd_MO_text_17 ?_
  refine zw_istore_n (lv' := [(3, .int (zI (0))), (2, .int (zI (((pd.length : Nat) : Int)))), (1, .int (zI (((ts.flatten.length : Nat) : Int)))), (0, .ref h)]) (Nat.le_of_ble_eq_true rfl) rfl zd_MO_text_18 ?_
  refine zw_pack (at0 := zMOd h (t) (ws) (ts) (pd) (op) (y) (r) (ct) (wh) (fd) (fr)) (Ls := [zObj h 6 [.ref at_, .int (zI (((t.length : Nat) : Int))), .int (zI (r)), .int (zI (((ws.length : Nat) : Int))), .ref ak, .ref an, .ref ab, .ref aw, .int (zI (((op.length : Nat) : Int))), .int (zI (((ts.length : Nat) : Int))), .int (zI (((((ts.flatten ++ pd)).length : Nat) : Int))), .ref ay, .ref af, .ref ad, .int (zI (ct)), .int (zI (wh)), .int (zI (y)), .ref ar], zArB at_ (65536) (ft), zArB ak (16384) (fk), zArI an (16384) (fn), zArI ab (16384) (fb), zArI aw (64) (fo), zArB ay (131072) (fy), zArI af (16385) (ff), zArB ad (400) (fd), zArB ar (420) (fr)]) (L2 := []) rfl (fun G w h => ⟨((at_, ak, an, ab, aw, ay, af, ad, ar), ft, fk, fn, fb, fo, fy, ff), ⟨m1, m2, m3, m4, m5⟩, h⟩) ?_
  refine zw_lpick (lv' := [(0, .ref h), (1, .int (zI (((ts.flatten.length : Nat) : Int)))), (2, .int (zI (((pd.length : Nat) : Int)))), (3, .int (zI (0)))]) [3, 2, 1, 0] rfl ?_
  refine zw_widen (k' := 0) (n' := 0) (by omega) (by omega) ?_
  exact lp _ 0 ⟨by omega, fun j hj => absurd hj (Nat.not_lt_zero j)⟩ (Nat.lt_succ_self _)
set_option maxHeartbeats 4000000 in
set_option maxRecDepth 100000 in
theorem c_MO_textOf (h : Nat) (t : List Int) (ws : List (Int32 × Int32 × Int32)) (ts : List (List Int)) (op : List Int) (y r ct wh : Int) (fd fr : Nat → Int32) (q z : Int) (hq : 0 ≤ q ∧ q ≤ z ∧ z ≤ t.length) (hl : ts.length < 16384) (hF : ts.flatten.length + t.length < 120000) : zCT zy_MO_textOf zm_MO_textOf (0) (0) [.ref h, .int (zI q), .int (zI z)] [zMOd h (t) (ws) (ts) ([]) (op) (y) (r) (ct) (wh) (fd) (fr)] (some (.int (zI ((ixOf ts (slc t q z) : Nat) : Int)))) [zMOd h (t) (ws) (addT ts (slc t q z)) ([]) (op) (y) (r) (ct) (wh) (fd) (fr)] := by
  refine zCT.of [(0, .ref h), (1, .int (zI (q))), (2, .int (zI (z)))] rfl (by decide) rfl (fun h => by first | rfl | cases h) (Nat.le_of_ble_eq_true rfl) (fun X hR => ?_)
  refine zw_fact 0 rfl (fun G w h => zMOd_fact h) (fun mf => ?_)
  obtain ⟨⟨ht1, hby⟩, hw1, ⟨hs1, hs2, hs3⟩, ho1⟩ := mf
  have lp : ∀ (fuel : Nat) (p : Int), (q ≤ p ∧ p ≤ z) → (z - p).toNat < fuel → zZ X zm_MO_textOf (0) (0) (0) (0) [zMOd h (t) (ws) (ts) (slc t q p) (op) (y) (r) (ct) (wh) (fd) (fr)] 2 [(0, .ref h), (1, .int (zI (q))), (2, .int (zI (z))), (3, .int (zI (p)))] [] := by
    intro fuel
    induction fuel with
    | zero => intro p g0 hm; exact absurd hm (Nat.not_lt_zero _)
    | succ fuel ih =>
      intro p g0 hm
      have sl := fun (q1 : p ≤ t.length) => slc_len (t := t) (a := q) (b := p) (by omega) (by omega) q1
      have al : (ts.flatten ++ slc t q p).length = ts.flatten.length + (slc t q p).length := List.length_append
      have sl2 := sl (by omega)
      refine zw_iload_n 3 rfl zd_MO_textOf_2 ?_
      refine zw_iload_n 2 rfl zd_MO_textOf_3 ?_
      refine zw_icmp_ge 23 (by omega) (by omega) zd_MO_textOf_4 (by decide) (fun c4 => ?_) (fun c4 => ?_)
      · -- 4 -> 23
        obtain rfl : p = z := by omega
        refine zw_aload_n 0 rfl zd_MO_textOf_23 ?_
        refine zw_callV (As := []) (rest := []) (L2 := []) (L' := [zMOd h (t) (ws) (addT ts (slc t q p)) ([]) (op) (y) (r) (ct) (wh) (fd) (fr)]) (stk' := [.int (zI (((ixOf ts (slc t q p) : Nat) : Int)))]) (c_MO_text h t ws ts (slc t q p) op y r ct wh fd fr (by omega)) [0] [] rfl rfl rfl zcal_MO_text zl_MO_76 zin_MO_text zse_MO_text 0 rfl zRv_MOd rfl (Nat.le_of_ble_eq_true rfl) (Nat.le_of_ble_eq_true rfl) (by omega) (by omega) rfl (Nat.le_of_ble_eq_true rfl) rfl rfl zd_MO_textOf_24 ?_
        exact zw_iret hR rfl rfl rfl (by omega) (by omega) zd_MO_textOf_27
      · -- 4 -> 7
        refine zw_aload_n 0 rfl zd_MO_textOf_7 ?_
        refine zw_aload_n 0 rfl zd_MO_textOf_8 ?_
        refine zw_unp (fun G ws h => h) (fun x0 hx0 => ?_)
        obtain ⟨⟨at_, ak, an, ab, aw, ay, af, ad, ar⟩, ft, fk, fn, fb, fo, fy, ff⟩ := x0
        obtain ⟨m1, m2, m3, m4, m5⟩ := hx0
        simp only [List.cons_append, List.nil_append]
        dsimp only at m1 m2 m3 m4 m5
        refine zw_get zc_MO 0 0 rfl (by decide) zf_MO_8 rfl zd_MO_textOf_9 ?_
        refine zw_iload_n 3 rfl zd_MO_textOf_12 ?_
        refine zw_aldB 1 rfl (by omega) (by omega) zd_MO_textOf_13 ?_
        refine zw_topE (mtape_sgn m1 (z := p) (by omega)) ?_
        refine zw_pack (at0 := zMOd h (t) (ws) (ts) (slc t q p) (op) (y) (r) (ct) (wh) (fd) (fr)) (Ls := [zObj h 6 [.ref at_, .int (zI (((t.length : Nat) : Int))), .int (zI (r)), .int (zI (((ws.length : Nat) : Int))), .ref ak, .ref an, .ref ab, .ref aw, .int (zI (((op.length : Nat) : Int))), .int (zI (((ts.length : Nat) : Int))), .int (zI (((((ts.flatten ++ (slc t q p))).length : Nat) : Int))), .ref ay, .ref af, .ref ad, .int (zI (ct)), .int (zI (wh)), .int (zI (y)), .ref ar], zArB at_ (65536) (ft), zArB ak (16384) (fk), zArI an (16384) (fn), zArI ab (16384) (fb), zArI aw (64) (fo), zArB ay (131072) (fy), zArI af (16385) (ff), zArB ad (400) (fd), zArB ar (420) (fr)]) (L2 := []) rfl (fun G w h => ⟨((at_, ak, an, ab, aw, ay, af, ad, ar), ft, fk, fn, fb, fo, fy, ff), ⟨m1, m2, m3, m4, m5⟩, h⟩) ?_
        refine zw_callV (As := [.int (zI (sgnB (bget t p)))]) (rest := []) (L2 := []) (L' := [zMOd h (t) (ws) (ts) ((slc t q p) ++ [(sgnB (bget t p)) % 256]) (op) (y) (r) (ct) (wh) (fd) (fr)]) (stk' := []) (c_MO_drop h t ws ts (slc t q p) op y r ct wh fd fr (sgnB (bget t p)) (by omega)) [0] [] rfl rfl rfl zcal_MO_drop zl_MO_72 zin_MO_drop zse_MO_drop 0 rfl zRv_MOd rfl (Nat.le_of_ble_eq_true rfl) (Nat.le_of_ble_eq_true rfl) (by omega) (by omega) rfl (Nat.le_of_ble_eq_true rfl) rfl rfl zd_MO_textOf_14 ?_
        refine zw_iinc (lv' := [(3, .int (zI (p + 1))), (0, .ref h), (1, .int (zI (q))), (2, .int (zI (z)))]) 3 rfl (Nat.le_of_ble_eq_true rfl) rfl zd_MO_textOf_17 ?_
        refine zw_goto 2 zd_MO_textOf_20 (by decide) ?_
        refine zw_eqL (L' := [zMOd h (t) (ws) (ts) (slc t q (p + 1)) (op) (y) (r) (ct) (wh) (fd) (fr)]) (by rw [slc_snoc (by omega) (by omega) (by omega), sgnB_mod (mbyte hby (z := p) (by omega))]) ?_
        refine zw_lpick (lv' := [(0, .ref h), (1, .int (zI (q))), (2, .int (zI (z))), (3, .int (zI (p + 1)))]) [1, 2, 3, 0] rfl ?_
        refine zw_widen (k' := 0) (n' := 0) (by omega) (by omega) ?_
        exact ih (p + 1) (by omega) (by omega)
  refine zw_iload_n 1 rfl zd_MO_textOf_0 ?_
  refine zw_istore_n (lv' := [(3, .int (zI (q))), (0, .ref h), (1, .int (zI (q))), (2, .int (zI (z)))]) (Nat.le_of_ble_eq_true rfl) rfl zd_MO_textOf_1 ?_
  refine zw_eqL (L' := [zMOd h (t) (ws) (ts) (slc t q q) (op) (y) (r) (ct) (wh) (fd) (fr)]) (by rw [slc_nil]) ?_
  refine zw_lpick (lv' := [(0, .ref h), (1, .int (zI (q))), (2, .int (zI (z))), (3, .int (zI (q)))]) [1, 2, 3, 0] rfl ?_
  refine zw_widen (k' := 0) (n' := 0) (by omega) (by omega) ?_
  exact lp _ q (by omega) (Nat.lt_succ_self _)
set_option maxHeartbeats 4000000 in
set_option maxRecDepth 100000 in
theorem c_MO_place (h : Nat) (t : List Int) (ws : List (Int32 × Int32 × Int32)) (ts : List (List Int)) (pd : List Int) (op : List Int) (y r ct wh : Int) (fd fr : Nat → Int32) : zCT zy_MO_place zm_MO_place (0) (0) [.ref h] [zMOd h (t) (ws) (ts) (pd) (op) (y) (r) (ct) (wh) (fd) (fr)] (some (.int (zI r))) [zMOd h (t) (ws) (ts) (pd) (op) (y) (r) (ct) (wh) (fd) (fr)] := by
  refine zCT.of [(0, .ref h)] rfl (by decide) rfl (fun h => by first | rfl | cases h) (Nat.le_of_ble_eq_true rfl) (fun X hR => ?_)
  refine zw_fact 0 rfl (fun G w h => zMOd_fact h) (fun mf => ?_)
  obtain ⟨⟨ht1, hby⟩, hw1, ⟨hs1, hs2, hs3⟩, ho1⟩ := mf
  refine zw_aload_n 0 rfl zd_MO_place_0 ?_
  refine zw_unp (fun G ws h => h) (fun x0 hx0 => ?_)
  obtain ⟨⟨at_, ak, an, ab, aw, ay, af, ad, ar⟩, ft, fk, fn, fb, fo, fy, ff⟩ := x0
  obtain ⟨m1, m2, m3, m4, m5⟩ := hx0
  simp only [List.cons_append, List.nil_append]
  dsimp only at m1 m2 m3 m4 m5
  refine zw_get zc_MO 0 2 rfl (by decide) zf_MO_58 rfl zd_MO_place_1 ?_
  refine zw_pack (at0 := zMOd h (t) (ws) (ts) (pd) (op) (y) (r) (ct) (wh) (fd) (fr)) (Ls := [zObj h 6 [.ref at_, .int (zI (((t.length : Nat) : Int))), .int (zI (r)), .int (zI (((ws.length : Nat) : Int))), .ref ak, .ref an, .ref ab, .ref aw, .int (zI (((op.length : Nat) : Int))), .int (zI (((ts.length : Nat) : Int))), .int (zI (((((ts.flatten ++ pd)).length : Nat) : Int))), .ref ay, .ref af, .ref ad, .int (zI (ct)), .int (zI (wh)), .int (zI (y)), .ref ar], zArB at_ (65536) (ft), zArB ak (16384) (fk), zArI an (16384) (fn), zArI ab (16384) (fb), zArI aw (64) (fo), zArB ay (131072) (fy), zArI af (16385) (ff), zArB ad (400) (fd), zArB ar (420) (fr)]) (L2 := []) rfl (fun G w h => ⟨((at_, ak, an, ab, aw, ay, af, ad, ar), ft, fk, fn, fb, fo, fy, ff), ⟨m1, m2, m3, m4, m5⟩, h⟩) ?_
  exact zw_iret hR rfl rfl rfl (by omega) (by omega) zd_MO_place_4
set_option maxHeartbeats 4000000 in
set_option maxRecDepth 100000 in
theorem c_MO_words (h : Nat) (t : List Int) (ws : List (Int32 × Int32 × Int32)) (ts : List (List Int)) (pd : List Int) (op : List Int) (y r ct wh : Int) (fd fr : Nat → Int32) : zCT zy_MO_words zm_MO_words (0) (0) [.ref h] [zMOd h (t) (ws) (ts) (pd) (op) (y) (r) (ct) (wh) (fd) (fr)] (some (.int (zI ((ws.length : Nat) : Int)))) [zMOd h (t) (ws) (ts) (pd) (op) (y) (r) (ct) (wh) (fd) (fr)] := by
  refine zCT.of [(0, .ref h)] rfl (by decide) rfl (fun h => by first | rfl | cases h) (Nat.le_of_ble_eq_true rfl) (fun X hR => ?_)
  refine zw_fact 0 rfl (fun G w h => zMOd_fact h) (fun mf => ?_)
  obtain ⟨⟨ht1, hby⟩, hw1, ⟨hs1, hs2, hs3⟩, ho1⟩ := mf
  refine zw_aload_n 0 rfl zd_MO_words_0 ?_
  refine zw_unp (fun G ws h => h) (fun x0 hx0 => ?_)
  obtain ⟨⟨at_, ak, an, ab, aw, ay, af, ad, ar⟩, ft, fk, fn, fb, fo, fy, ff⟩ := x0
  obtain ⟨m1, m2, m3, m4, m5⟩ := hx0
  simp only [List.cons_append, List.nil_append]
  dsimp only at m1 m2 m3 m4 m5
  refine zw_get zc_MO 0 3 rfl (by decide) zf_MO_61 rfl zd_MO_words_1 ?_
  refine zw_pack (at0 := zMOd h (t) (ws) (ts) (pd) (op) (y) (r) (ct) (wh) (fd) (fr)) (Ls := [zObj h 6 [.ref at_, .int (zI (((t.length : Nat) : Int))), .int (zI (r)), .int (zI (((ws.length : Nat) : Int))), .ref ak, .ref an, .ref ab, .ref aw, .int (zI (((op.length : Nat) : Int))), .int (zI (((ts.length : Nat) : Int))), .int (zI (((((ts.flatten ++ pd)).length : Nat) : Int))), .ref ay, .ref af, .ref ad, .int (zI (ct)), .int (zI (wh)), .int (zI (y)), .ref ar], zArB at_ (65536) (ft), zArB ak (16384) (fk), zArI an (16384) (fn), zArI ab (16384) (fb), zArI aw (64) (fo), zArB ay (131072) (fy), zArI af (16385) (ff), zArB ad (400) (fd), zArB ar (420) (fr)]) (L2 := []) rfl (fun G w h => ⟨((at_, ak, an, ab, aw, ay, af, ad, ar), ft, fk, fn, fb, fo, fy, ff), ⟨m1, m2, m3, m4, m5⟩, h⟩) ?_
  exact zw_iret hR rfl rfl rfl (by omega) (by omega) zd_MO_words_4
set_option maxHeartbeats 4000000 in
set_option maxRecDepth 100000 in
theorem c_MO_texts (h : Nat) (t : List Int) (ws : List (Int32 × Int32 × Int32)) (ts : List (List Int)) (pd : List Int) (op : List Int) (y r ct wh : Int) (fd fr : Nat → Int32) : zCT zy_MO_texts zm_MO_texts (0) (0) [.ref h] [zMOd h (t) (ws) (ts) (pd) (op) (y) (r) (ct) (wh) (fd) (fr)] (some (.int (zI ((ts.length : Nat) : Int)))) [zMOd h (t) (ws) (ts) (pd) (op) (y) (r) (ct) (wh) (fd) (fr)] := by
  refine zCT.of [(0, .ref h)] rfl (by decide) rfl (fun h => by first | rfl | cases h) (Nat.le_of_ble_eq_true rfl) (fun X hR => ?_)
  refine zw_fact 0 rfl (fun G w h => zMOd_fact h) (fun mf => ?_)
  obtain ⟨⟨ht1, hby⟩, hw1, ⟨hs1, hs2, hs3⟩, ho1⟩ := mf
  refine zw_aload_n 0 rfl zd_MO_texts_0 ?_
  refine zw_unp (fun G ws h => h) (fun x0 hx0 => ?_)
  obtain ⟨⟨at_, ak, an, ab, aw, ay, af, ad, ar⟩, ft, fk, fn, fb, fo, fy, ff⟩ := x0
  obtain ⟨m1, m2, m3, m4, m5⟩ := hx0
  simp only [List.cons_append, List.nil_append]
  dsimp only at m1 m2 m3 m4 m5
  refine zw_get zc_MO 0 9 rfl (by decide) zf_MO_67 rfl zd_MO_texts_1 ?_
  refine zw_pack (at0 := zMOd h (t) (ws) (ts) (pd) (op) (y) (r) (ct) (wh) (fd) (fr)) (Ls := [zObj h 6 [.ref at_, .int (zI (((t.length : Nat) : Int))), .int (zI (r)), .int (zI (((ws.length : Nat) : Int))), .ref ak, .ref an, .ref ab, .ref aw, .int (zI (((op.length : Nat) : Int))), .int (zI (((ts.length : Nat) : Int))), .int (zI (((((ts.flatten ++ pd)).length : Nat) : Int))), .ref ay, .ref af, .ref ad, .int (zI (ct)), .int (zI (wh)), .int (zI (y)), .ref ar], zArB at_ (65536) (ft), zArB ak (16384) (fk), zArI an (16384) (fn), zArI ab (16384) (fb), zArI aw (64) (fo), zArB ay (131072) (fy), zArI af (16385) (ff), zArB ad (400) (fd), zArB ar (420) (fr)]) (L2 := []) rfl (fun G w h => ⟨((at_, ak, an, ab, aw, ay, af, ad, ar), ft, fk, fn, fb, fo, fy, ff), ⟨m1, m2, m3, m4, m5⟩, h⟩) ?_
  exact zw_iret hR rfl rfl rfl (by omega) (by omega) zd_MO_texts_4
set_option maxHeartbeats 4000000 in
set_option maxRecDepth 100000 in
theorem c_MO_isWord (h : Nat) (t : List Int) (ws : List (Int32 × Int32 × Int32)) (ts : List (List Int)) (pd : List Int) (op : List Int) (y r ct wh : Int) (fd fr : Nat → Int32) (z : Int) (hz : -2147483648 ≤ z ∧ z ≤ 2147483647) : zCT zy_MO_isWord zm_MO_isWord (0) (0) [.ref h, .int (zI z)] [zMOd h (t) (ws) (ts) (pd) (op) (y) (r) (ct) (wh) (fd) (fr)] (some (.int (zI (bI (isW ws z))))) [zMOd h (t) (ws) (ts) (pd) (op) (y) (r) (ct) (wh) (fd) (fr)] := by
  refine zCT.of [(0, .ref h), (1, .int (zI (z)))] rfl (by decide) rfl (fun h => by first | rfl | cases h) (Nat.le_of_ble_eq_true rfl) (fun X hR => ?_)
  refine zw_fact 0 rfl (fun G w h => zMOd_fact h) (fun mf => ?_)
  obtain ⟨⟨ht1, hby⟩, hw1, ⟨hs1, hs2, hs3⟩, ho1⟩ := mf
  refine zw_iload_n 1 rfl zd_MO_isWord_0 ?_
  refine zw_if_lt 16 (by omega) zd_MO_isWord_1 (by decide) (fun c1 => ?_) (fun c1 => ?_)
  · -- 1 -> 16
    refine zw_iconst zd_MO_isWord_16 ?_
    exact zw_zret hR (by rw [show isW ws z = false from decide_eq_false (by omega)]; rfl) rfl rfl rfl (by omega) (by omega) zd_MO_isWord_17
  · -- 1 -> 4
    refine zw_iload_n 1 rfl zd_MO_isWord_4 ?_
    refine zw_aload_n 0 rfl zd_MO_isWord_5 ?_
    refine zw_unp (fun G ws h => h) (fun x0 hx0 => ?_)
    obtain ⟨⟨at_, ak, an, ab, aw, ay, af, ad, ar⟩, ft, fk, fn, fb, fo, fy, ff⟩ := x0
    obtain ⟨m1, m2, m3, m4, m5⟩ := hx0
    simp only [List.cons_append, List.nil_append]
    dsimp only at m1 m2 m3 m4 m5
    refine zw_get zc_MO 0 3 rfl (by decide) zf_MO_61 rfl zd_MO_isWord_6 ?_
    refine zw_pack (at0 := zMOd h (t) (ws) (ts) (pd) (op) (y) (r) (ct) (wh) (fd) (fr)) (Ls := [zObj h 6 [.ref at_, .int (zI (((t.length : Nat) : Int))), .int (zI (r)), .int (zI (((ws.length : Nat) : Int))), .ref ak, .ref an, .ref ab, .ref aw, .int (zI (((op.length : Nat) : Int))), .int (zI (((ts.length : Nat) : Int))), .int (zI (((((ts.flatten ++ pd)).length : Nat) : Int))), .ref ay, .ref af, .ref ad, .int (zI (ct)), .int (zI (wh)), .int (zI (y)), .ref ar], zArB at_ (65536) (ft), zArB ak (16384) (fk), zArI an (16384) (fn), zArI ab (16384) (fb), zArI aw (64) (fo), zArB ay (131072) (fy), zArI af (16385) (ff), zArB ad (400) (fd), zArB ar (420) (fr)]) (L2 := []) rfl (fun G w h => ⟨((at_, ak, an, ab, aw, ay, af, ad, ar), ft, fk, fn, fb, fo, fy, ff), ⟨m1, m2, m3, m4, m5⟩, h⟩) ?_
    refine zw_icmp_ge 16 (by omega) (by omega) zd_MO_isWord_9 (by decide) (fun c9 => ?_) (fun c9 => ?_)
    · -- 9 -> 16
      refine zw_iconst zd_MO_isWord_16 ?_
      exact zw_zret hR (by rw [show isW ws z = false from decide_eq_false (by omega)]; rfl) rfl rfl rfl (by omega) (by omega) zd_MO_isWord_17
    · -- 9 -> 12
      refine zw_iconst zd_MO_isWord_12 ?_
      refine zw_goto 17 zd_MO_isWord_13 (by decide) ?_
      exact zw_zret hR (by rw [show isW ws z = true from decide_eq_true (by omega)]; rfl) rfl rfl rfl (by omega) (by omega) zd_MO_isWord_17
set_option maxHeartbeats 4000000 in
set_option maxRecDepth 100000 in
theorem c_MO_kind (h : Nat) (t : List Int) (ws : List (Int32 × Int32 × Int32)) (ts : List (List Int)) (pd : List Int) (op : List Int) (y r ct wh : Int) (fd fr : Nat → Int32) (z : Int) (hz : -2147483648 ≤ z ∧ z ≤ 2147483647) : zCT zy_MO_kind zm_MO_kind (0) (0) [.ref h, .int (zI z)] [zMOd h (t) (ws) (ts) (pd) (op) (y) (r) (ct) (wh) (fd) (fr)] (some (.int (iget (ws.map (fun q => q.1)) z))) [zMOd h (t) (ws) (ts) (pd) (op) (y) (r) (ct) (wh) (fd) (fr)] := by
  refine zCT.of [(0, .ref h), (1, .int (zI (z)))] rfl (by decide) rfl (fun h => by first | rfl | cases h) (Nat.le_of_ble_eq_true rfl) (fun X hR => ?_)
  refine zw_fact 0 rfl (fun G w h => zMOd_fact h) (fun mf => ?_)
  obtain ⟨⟨ht1, hby⟩, hw1, ⟨hs1, hs2, hs3⟩, ho1⟩ := mf
  refine zw_aload_n 0 rfl zd_MO_kind_0 ?_
  refine zw_iload_n 1 rfl zd_MO_kind_1 ?_
  refine zw_callV (As := [.int (zI (z))]) (rest := []) (L2 := []) (L' := [zMOd h (t) (ws) (ts) (pd) (op) (y) (r) (ct) (wh) (fd) (fr)]) (stk' := [.int (zI (bI (isW ws z)))]) (c_MO_isWord h t ws ts pd op y r ct wh fd fr z (by omega)) [0] [] rfl rfl rfl zcal_MO_isWord zl_MO_183 zin_MO_isWord zse_MO_isWord 0 rfl zRv_MOd rfl (Nat.le_of_ble_eq_true rfl) (Nat.le_of_ble_eq_true rfl) (by omega) (by omega) rfl (Nat.le_of_ble_eq_true rfl) rfl rfl zd_MO_kind_2 ?_
  have rb2 := bI_rg (isW ws z)
  refine zw_if_eq 17 (by omega) zd_MO_kind_5 (by decide) (fun c5 => ?_) (fun c5 => ?_)
  · -- 5 -> 17
    refine zw_iconst zd_MO_kind_17 ?_
    have hz4 : ¬ (0 ≤ z ∧ z < ws.length) := of_decide_eq_false (zbI0 (b := isW ws z) (by omega))
    exact zw_iret hR (by rw [iget, List.length_map, if_neg hz4]) rfl rfl (by omega) (by omega) zd_MO_kind_18
  · -- 5 -> 8
    refine zw_aload_n 0 rfl zd_MO_kind_8 ?_
    have hz3 : 0 ≤ z ∧ z < ws.length := of_decide_eq_true (zbI1 (b := isW ws z) (by omega))
    refine zw_unp (fun G ws h => h) (fun x0 hx0 => ?_)
    obtain ⟨⟨at_, ak, an, ab, aw, ay, af, ad, ar⟩, ft, fk, fn, fb, fo, fy, ff⟩ := x0
    obtain ⟨m1, m2, m3, m4, m5⟩ := hx0
    simp only [List.cons_append, List.nil_append]
    dsimp only at m1 m2 m3 m4 m5
    refine zw_get zc_MO 0 4 rfl (by decide) zf_MO_14 rfl zd_MO_kind_9 ?_
    refine zw_iload_n 1 rfl zd_MO_kind_12 ?_
    refine zw_aldB 2 rfl (by omega) (by omega) zd_MO_kind_13 ?_
    refine zw_topE ((m2.2.2 _ (by omega) |>.1)) ?_
    refine zw_pack (at0 := zMOd h (t) (ws) (ts) (pd) (op) (y) (r) (ct) (wh) (fd) (fr)) (Ls := [zObj h 6 [.ref at_, .int (zI (((t.length : Nat) : Int))), .int (zI (r)), .int (zI (((ws.length : Nat) : Int))), .ref ak, .ref an, .ref ab, .ref aw, .int (zI (((op.length : Nat) : Int))), .int (zI (((ts.length : Nat) : Int))), .int (zI (((((ts.flatten ++ pd)).length : Nat) : Int))), .ref ay, .ref af, .ref ad, .int (zI (ct)), .int (zI (wh)), .int (zI (y)), .ref ar], zArB at_ (65536) (ft), zArB ak (16384) (fk), zArI an (16384) (fn), zArI ab (16384) (fb), zArI aw (64) (fo), zArB ay (131072) (fy), zArI af (16385) (ff), zArB ad (400) (fd), zArB ar (420) (fr)]) (L2 := []) rfl (fun G w h => ⟨((at_, ak, an, ab, aw, ay, af, ad, ar), ft, fk, fn, fb, fo, fy, ff), ⟨m1, m2, m3, m4, m5⟩, h⟩) ?_
    refine zw_goto 18 zd_MO_kind_14 (by decide) ?_
    exact zw_iret hR (by rw [iget, List.length_map, if_pos hz3, zgD_map _ _ (0, 0, 0) _ (by omega)]) rfl rfl (by omega) (by omega) zd_MO_kind_18
set_option maxHeartbeats 4000000 in
set_option maxRecDepth 100000 in
theorem c_MO_number (h : Nat) (t : List Int) (ws : List (Int32 × Int32 × Int32)) (ts : List (List Int)) (pd : List Int) (op : List Int) (y r ct wh : Int) (fd fr : Nat → Int32) (z : Int) (hz : -2147483648 ≤ z ∧ z ≤ 2147483647) : zCT zy_MO_number zm_MO_number (0) (0) [.ref h, .int (zI z)] [zMOd h (t) (ws) (ts) (pd) (op) (y) (r) (ct) (wh) (fd) (fr)] (some (.int (iget (ws.map (fun q => q.2.1)) z))) [zMOd h (t) (ws) (ts) (pd) (op) (y) (r) (ct) (wh) (fd) (fr)] := by
  refine zCT.of [(0, .ref h), (1, .int (zI (z)))] rfl (by decide) rfl (fun h => by first | rfl | cases h) (Nat.le_of_ble_eq_true rfl) (fun X hR => ?_)
  refine zw_fact 0 rfl (fun G w h => zMOd_fact h) (fun mf => ?_)
  obtain ⟨⟨ht1, hby⟩, hw1, ⟨hs1, hs2, hs3⟩, ho1⟩ := mf
  refine zw_aload_n 0 rfl zd_MO_number_0 ?_
  refine zw_iload_n 1 rfl zd_MO_number_1 ?_
  refine zw_callV (As := [.int (zI (z))]) (rest := []) (L2 := []) (L' := [zMOd h (t) (ws) (ts) (pd) (op) (y) (r) (ct) (wh) (fd) (fr)]) (stk' := [.int (zI (bI (isW ws z)))]) (c_MO_isWord h t ws ts pd op y r ct wh fd fr z (by omega)) [0] [] rfl rfl rfl zcal_MO_isWord zl_MO_183 zin_MO_isWord zse_MO_isWord 0 rfl zRv_MOd rfl (Nat.le_of_ble_eq_true rfl) (Nat.le_of_ble_eq_true rfl) (by omega) (by omega) rfl (Nat.le_of_ble_eq_true rfl) rfl rfl zd_MO_number_2 ?_
  have rb2 := bI_rg (isW ws z)
  refine zw_if_eq 17 (by omega) zd_MO_number_5 (by decide) (fun c5 => ?_) (fun c5 => ?_)
  · -- 5 -> 17
    refine zw_iconst zd_MO_number_17 ?_
    have hz4 : ¬ (0 ≤ z ∧ z < ws.length) := of_decide_eq_false (zbI0 (b := isW ws z) (by omega))
    exact zw_iret hR (by rw [iget, List.length_map, if_neg hz4]) rfl rfl (by omega) (by omega) zd_MO_number_18
  · -- 5 -> 8
    refine zw_aload_n 0 rfl zd_MO_number_8 ?_
    have hz3 : 0 ≤ z ∧ z < ws.length := of_decide_eq_true (zbI1 (b := isW ws z) (by omega))
    refine zw_unp (fun G ws h => h) (fun x0 hx0 => ?_)
    obtain ⟨⟨at_, ak, an, ab, aw, ay, af, ad, ar⟩, ft, fk, fn, fb, fo, fy, ff⟩ := x0
    obtain ⟨m1, m2, m3, m4, m5⟩ := hx0
    simp only [List.cons_append, List.nil_append]
    dsimp only at m1 m2 m3 m4 m5
    refine zw_get zc_MO 0 5 rfl (by decide) zf_MO_17 rfl zd_MO_number_9 ?_
    refine zw_iload_n 1 rfl zd_MO_number_12 ?_
    refine zw_aldI 3 rfl (by omega) (by omega) zd_MO_number_13 ?_
    refine zw_topE ((m2.2.2 _ (by omega) |>.2.1)) ?_
    refine zw_pack (at0 := zMOd h (t) (ws) (ts) (pd) (op) (y) (r) (ct) (wh) (fd) (fr)) (Ls := [zObj h 6 [.ref at_, .int (zI (((t.length : Nat) : Int))), .int (zI (r)), .int (zI (((ws.length : Nat) : Int))), .ref ak, .ref an, .ref ab, .ref aw, .int (zI (((op.length : Nat) : Int))), .int (zI (((ts.length : Nat) : Int))), .int (zI (((((ts.flatten ++ pd)).length : Nat) : Int))), .ref ay, .ref af, .ref ad, .int (zI (ct)), .int (zI (wh)), .int (zI (y)), .ref ar], zArB at_ (65536) (ft), zArB ak (16384) (fk), zArI an (16384) (fn), zArI ab (16384) (fb), zArI aw (64) (fo), zArB ay (131072) (fy), zArI af (16385) (ff), zArB ad (400) (fd), zArB ar (420) (fr)]) (L2 := []) rfl (fun G w h => ⟨((at_, ak, an, ab, aw, ay, af, ad, ar), ft, fk, fn, fb, fo, fy, ff), ⟨m1, m2, m3, m4, m5⟩, h⟩) ?_
    refine zw_goto 18 zd_MO_number_14 (by decide) ?_
    exact zw_iret hR (by rw [iget, List.length_map, if_pos hz3, zgD_map _ _ (0, 0, 0) _ (by omega)]) rfl rfl (by omega) (by omega) zd_MO_number_18
set_option maxHeartbeats 4000000 in
set_option maxRecDepth 100000 in
theorem c_MO_begin (h : Nat) (t : List Int) (ws : List (Int32 × Int32 × Int32)) (ts : List (List Int)) (pd : List Int) (op : List Int) (y r ct wh : Int) (fd fr : Nat → Int32) (z : Int) (hz : -2147483648 ≤ z ∧ z ≤ 2147483647) : zCT zy_MO_begin zm_MO_begin (0) (0) [.ref h, .int (zI z)] [zMOd h (t) (ws) (ts) (pd) (op) (y) (r) (ct) (wh) (fd) (fr)] (some (.int (iget (ws.map (fun q => q.2.2)) z))) [zMOd h (t) (ws) (ts) (pd) (op) (y) (r) (ct) (wh) (fd) (fr)] := by
  refine zCT.of [(0, .ref h), (1, .int (zI (z)))] rfl (by decide) rfl (fun h => by first | rfl | cases h) (Nat.le_of_ble_eq_true rfl) (fun X hR => ?_)
  refine zw_fact 0 rfl (fun G w h => zMOd_fact h) (fun mf => ?_)
  obtain ⟨⟨ht1, hby⟩, hw1, ⟨hs1, hs2, hs3⟩, ho1⟩ := mf
  refine zw_aload_n 0 rfl zd_MO_begin_0 ?_
  refine zw_iload_n 1 rfl zd_MO_begin_1 ?_
  refine zw_callV (As := [.int (zI (z))]) (rest := []) (L2 := []) (L' := [zMOd h (t) (ws) (ts) (pd) (op) (y) (r) (ct) (wh) (fd) (fr)]) (stk' := [.int (zI (bI (isW ws z)))]) (c_MO_isWord h t ws ts pd op y r ct wh fd fr z (by omega)) [0] [] rfl rfl rfl zcal_MO_isWord zl_MO_183 zin_MO_isWord zse_MO_isWord 0 rfl zRv_MOd rfl (Nat.le_of_ble_eq_true rfl) (Nat.le_of_ble_eq_true rfl) (by omega) (by omega) rfl (Nat.le_of_ble_eq_true rfl) rfl rfl zd_MO_begin_2 ?_
  have rb2 := bI_rg (isW ws z)
  refine zw_if_eq 17 (by omega) zd_MO_begin_5 (by decide) (fun c5 => ?_) (fun c5 => ?_)
  · -- 5 -> 17
    refine zw_iconst zd_MO_begin_17 ?_
    have hz4 : ¬ (0 ≤ z ∧ z < ws.length) := of_decide_eq_false (zbI0 (b := isW ws z) (by omega))
    exact zw_iret hR (by rw [iget, List.length_map, if_neg hz4]) rfl rfl (by omega) (by omega) zd_MO_begin_18
  · -- 5 -> 8
    refine zw_aload_n 0 rfl zd_MO_begin_8 ?_
    have hz3 : 0 ≤ z ∧ z < ws.length := of_decide_eq_true (zbI1 (b := isW ws z) (by omega))
    refine zw_unp (fun G ws h => h) (fun x0 hx0 => ?_)
    obtain ⟨⟨at_, ak, an, ab, aw, ay, af, ad, ar⟩, ft, fk, fn, fb, fo, fy, ff⟩ := x0
    obtain ⟨m1, m2, m3, m4, m5⟩ := hx0
    simp only [List.cons_append, List.nil_append]
    dsimp only at m1 m2 m3 m4 m5
    refine zw_get zc_MO 0 6 rfl (by decide) zf_MO_21 rfl zd_MO_begin_9 ?_
    refine zw_iload_n 1 rfl zd_MO_begin_12 ?_
    refine zw_aldI 4 rfl (by omega) (by omega) zd_MO_begin_13 ?_
    refine zw_topE ((m2.2.2 _ (by omega) |>.2.2)) ?_
    refine zw_pack (at0 := zMOd h (t) (ws) (ts) (pd) (op) (y) (r) (ct) (wh) (fd) (fr)) (Ls := [zObj h 6 [.ref at_, .int (zI (((t.length : Nat) : Int))), .int (zI (r)), .int (zI (((ws.length : Nat) : Int))), .ref ak, .ref an, .ref ab, .ref aw, .int (zI (((op.length : Nat) : Int))), .int (zI (((ts.length : Nat) : Int))), .int (zI (((((ts.flatten ++ pd)).length : Nat) : Int))), .ref ay, .ref af, .ref ad, .int (zI (ct)), .int (zI (wh)), .int (zI (y)), .ref ar], zArB at_ (65536) (ft), zArB ak (16384) (fk), zArI an (16384) (fn), zArI ab (16384) (fb), zArI aw (64) (fo), zArB ay (131072) (fy), zArI af (16385) (ff), zArB ad (400) (fd), zArB ar (420) (fr)]) (L2 := []) rfl (fun G w h => ⟨((at_, ak, an, ab, aw, ay, af, ad, ar), ft, fk, fn, fb, fo, fy, ff), ⟨m1, m2, m3, m4, m5⟩, h⟩) ?_
    refine zw_goto 18 zd_MO_begin_14 (by decide) ?_
    exact zw_iret hR (by rw [iget, List.length_map, if_pos hz3, zgD_map _ _ (0, 0, 0) _ (by omega)]) rfl rfl (by omega) (by omega) zd_MO_begin_18
set_option maxHeartbeats 4000000 in
set_option maxRecDepth 100000 in
theorem c_MO_at (h : Nat) (t : List Int) (ws : List (Int32 × Int32 × Int32)) (ts : List (List Int)) (pd : List Int) (op : List Int) (y r ct wh : Int) (fd fr : Nat → Int32) (z : Int) (hz : -2147483648 ≤ z ∧ z ≤ 2147483647) (v : Int) (hv : -2147483648 ≤ v ∧ v ≤ 2147483647) : zCT zy_MO_at zm_MO_at (0) (0) [.ref h, .int (zI z), .int (zI v)] [zMOd h (t) (ws) (ts) (pd) (op) (y) (r) (ct) (wh) (fd) (fr)] (some (.int (zI (tsAt ts z v)))) [zMOd h (t) (ws) (ts) (pd) (op) (y) (r) (ct) (wh) (fd) (fr)] := by
  refine zCT.of [(0, .ref h), (1, .int (zI (z))), (2, .int (zI (v)))] rfl (by decide) rfl (fun h => by first | rfl | cases h) (Nat.le_of_ble_eq_true rfl) (fun X hR => ?_)
  refine zw_fact 0 rfl (fun G w h => zMOd_fact h) (fun mf => ?_)
  obtain ⟨⟨ht1, hby⟩, hw1, ⟨hs1, hs2, hs3⟩, ho1⟩ := mf
  refine zw_iload_n 1 rfl zd_MO_at_0 ?_
  refine zw_if_lt 45 (by omega) zd_MO_at_1 (by decide) (fun c1 => ?_) (fun c1 => ?_)
  · -- 1 -> 45
    refine zw_iconst zd_MO_at_45 ?_
    exact zw_iret hR (by rw [tsAt, if_neg (by omega)]) rfl rfl (by omega) (by omega) zd_MO_at_46
  · -- 1 -> 4
    refine zw_iload_n 1 rfl zd_MO_at_4 ?_
    refine zw_aload_n 0 rfl zd_MO_at_5 ?_
    refine zw_unp (fun G ws h => h) (fun x0 hx0 => ?_)
    obtain ⟨⟨at_, ak, an, ab, aw, ay, af, ad, ar⟩, ft, fk, fn, fb, fo, fy, ff⟩ := x0
    obtain ⟨m1, m2, m3, m4, m5⟩ := hx0
    simp only [List.cons_append, List.nil_append]
    dsimp only at m1 m2 m3 m4 m5
    refine zw_get zc_MO 0 9 rfl (by decide) zf_MO_67 rfl zd_MO_at_6 ?_
    refine zw_pack (at0 := zMOd h (t) (ws) (ts) (pd) (op) (y) (r) (ct) (wh) (fd) (fr)) (Ls := [zObj h 6 [.ref at_, .int (zI (((t.length : Nat) : Int))), .int (zI (r)), .int (zI (((ws.length : Nat) : Int))), .ref ak, .ref an, .ref ab, .ref aw, .int (zI (((op.length : Nat) : Int))), .int (zI (((ts.length : Nat) : Int))), .int (zI (((((ts.flatten ++ pd)).length : Nat) : Int))), .ref ay, .ref af, .ref ad, .int (zI (ct)), .int (zI (wh)), .int (zI (y)), .ref ar], zArB at_ (65536) (ft), zArB ak (16384) (fk), zArI an (16384) (fn), zArI ab (16384) (fb), zArI aw (64) (fo), zArB ay (131072) (fy), zArI af (16385) (ff), zArB ad (400) (fd), zArB ar (420) (fr)]) (L2 := []) rfl (fun G w h => ⟨((at_, ak, an, ab, aw, ay, af, ad, ar), ft, fk, fn, fb, fo, fy, ff), ⟨m1, m2, m3, m4, m5⟩, h⟩) ?_
    refine zw_icmp_ge 45 (by omega) (by omega) zd_MO_at_9 (by decide) (fun c9 => ?_) (fun c9 => ?_)
    · -- 9 -> 45
      refine zw_iconst zd_MO_at_45 ?_
      exact zw_iret hR (by rw [tsAt, if_neg (by omega)]) rfl rfl (by omega) (by omega) zd_MO_at_46
    · -- 9 -> 12
      refine zw_iload_n 2 rfl zd_MO_at_12 ?_
      refine zw_if_lt 45 (by omega) zd_MO_at_13 (by decide) (fun c13 => ?_) (fun c13 => ?_)
      · -- 13 -> 45
        refine zw_iconst zd_MO_at_45 ?_
        exact zw_iret hR (by rw [tsAt, if_neg (by omega)]) rfl rfl (by omega) (by omega) zd_MO_at_46
      · -- 13 -> 16
        refine zw_iload_n 2 rfl zd_MO_at_16 ?_
        refine zw_aload_n 0 rfl zd_MO_at_17 ?_
        refine zw_iload_n 1 rfl zd_MO_at_18 ?_
        refine zw_callV (As := [.int (zI (z))]) (rest := [.int (zI (v))]) (L2 := []) (L' := [zMOd h (t) (ws) (ts) (pd) (op) (y) (r) (ct) (wh) (fd) (fr)]) (stk' := [.int (iget (tsSizes ts) z), .int (zI (v))]) (c_MO_size h t ws ts pd op y r ct wh fd fr z (by omega)) [0] [] rfl rfl rfl zcal_MO_size zl_MO_70 zin_MO_size zse_MO_size 0 rfl zRv_MOd rfl (Nat.le_of_ble_eq_true rfl) (Nat.le_of_ble_eq_true rfl) (by omega) (by omega) rfl (Nat.le_of_ble_eq_true rfl) rfl rfl zd_MO_at_19 ?_
        refine zw_eqs (st' := [.int (zI ((((ts.getD z.toNat []).length : Nat) : Int))), .int (zI (v))]) (by rw [ig_sizes (by omega)]) ?_
        have tb := ts_bound (ts := ts) (i := z.toNat) (by omega)
        have hal : (ts.flatten ++ pd).length = ts.flatten.length + pd.length := List.length_append
        refine zw_icmp_ge 45 (by omega) (by omega) zd_MO_at_22 (by decide) (fun c22 => ?_) (fun c22 => ?_)
        · -- 22 -> 45
          refine zw_iconst zd_MO_at_45 ?_
          exact zw_iret hR (by rw [tsAt, if_neg (by omega)]) rfl rfl (by omega) (by omega) zd_MO_at_46
        · -- 22 -> 25
          have al : (ts.flatten ++ pd).length = ts.flatten.length + pd.length := List.length_append
          refine zw_aload_n 0 rfl zd_MO_at_25 ?_
          refine zw_unp (fun G ws h => h) (fun x0 hx0 => ?_)
          obtain ⟨⟨at_, ak, an, ab, aw, ay, af, ad, ar⟩, ft, fk, fn, fb, fo, fy, ff⟩ := x0
          obtain ⟨m1, m2, m3, m4, m5⟩ := hx0
          simp only [List.cons_append, List.nil_append]
          dsimp only at m1 m2 m3 m4 m5
          refine zw_get zc_MO 0 11 rfl (by decide) zf_MO_28 rfl zd_MO_at_26 ?_
          refine zw_aload_n 0 rfl zd_MO_at_29 ?_
          refine zw_get zc_MO 0 12 rfl (by decide) zf_MO_31 rfl zd_MO_at_30 ?_
          refine zw_iload_n 1 rfl zd_MO_at_33 ?_
          refine zw_aldI 7 rfl (by omega) (by omega) zd_MO_at_34 ?_
          refine zw_topE (m3.2.2.2.2.2 _ (by omega)) ?_
          refine zw_iload_n 2 rfl zd_MO_at_35 ?_
          refine zw_iadd zd_MO_at_36 ?_
          refine zw_aldB 6 rfl (by omega) (by omega) zd_MO_at_37 ?_
          refine zw_topE (mtexts_at m3 (i := z.toNat) (k := v) (by omega) (by omega)) ?_
          refine zw_pack (at0 := zMOd h (t) (ws) (ts) (pd) (op) (y) (r) (ct) (wh) (fd) (fr)) (Ls := [zObj h 6 [.ref at_, .int (zI (((t.length : Nat) : Int))), .int (zI (r)), .int (zI (((ws.length : Nat) : Int))), .ref ak, .ref an, .ref ab, .ref aw, .int (zI (((op.length : Nat) : Int))), .int (zI (((ts.length : Nat) : Int))), .int (zI (((((ts.flatten ++ pd)).length : Nat) : Int))), .ref ay, .ref af, .ref ad, .int (zI (ct)), .int (zI (wh)), .int (zI (y)), .ref ar], zArB at_ (65536) (ft), zArB ak (16384) (fk), zArI an (16384) (fn), zArI ab (16384) (fb), zArI aw (64) (fo), zArB ay (131072) (fy), zArI af (16385) (ff), zArB ad (400) (fd), zArB ar (420) (fr)]) (L2 := []) rfl (fun G w h => ⟨((at_, ak, an, ab, aw, ay, af, ad, ar), ft, fk, fn, fb, fo, fy, ff), ⟨m1, m2, m3, m4, m5⟩, h⟩) ?_
          refine zw_sipush rfl zd_MO_at_38 ?_
          refine zw_iandR zd_MO_at_41 ?_
          refine zw_topE (zI_byte' (hs3 _ (List.mem_append_left _ (ts_mem (by omega) (zmem_getD (l := ts.getD z.toNat []) (d := 0) (k := v.toNat) (by omega)))))) ?_
          refine zw_goto 46 zd_MO_at_42 (by decide) ?_
          exact zw_iret hR (by rw [tsAt, if_pos (by omega)]) rfl rfl (by omega) (by omega) zd_MO_at_46
