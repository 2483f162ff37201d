/-! the model: cut, type, new -/
def sameU (r r2 : Int) (v w : zU) : Prop := v.p = w.p ∧ v.ws = w.ws ∧ v.ts = w.ts ∧ v.op = w.op ∧ v.y = w.y ∧ (v.y ≠ 0 → v.r = w.r) ∧ (v.y = 0 → v.r = r ∧ w.r = r2)
theorem same_tx {u1 u2 : zU} {r r2 : Int} (h : u1.p = u2.p ∧ u1.ws = u2.ws ∧ u1.ts = u2.ts ∧ u1.op = u2.op ∧ u1.y = 0 ∧ u2.y = 0 ∧ u1.r = r ∧ u2.r = r2) (kd : Int) (xs : List Int) (en : Int) : sameU r r2 (txS u1 kd xs en) (txS u2 kd xs en) := by
  obtain ⟨h1, h2, h3, h4, h5, h6, h7, h8⟩ := h
  refine ⟨rfl, ?_, ?_, h4, by show u1.y = u2.y; rw [h5, h6], fun e => absurd h5 e, fun _ => ⟨h7, h8⟩⟩
  · show u1.ws ++ _ = u2.ws ++ _
    rw [h1, h2, h3]
  · show addT u1.ts xs = addT u2.ts xs
    rw [h3]
theorem same_fl {u1 u2 : zU} {r r2 : Int} (h : u1.p = u2.p ∧ u1.ws = u2.ws ∧ u1.ts = u2.ts ∧ u1.op = u2.op ∧ u1.y = 0 ∧ u2.y = 0 ∧ u1.r = r ∧ u2.r = r2) (y q : Int) (hy : y ≠ 0) : sameU r r2 (flS u1 y q) (flS u2 y q) :=
  ⟨h.1, h.2.1, h.2.2.1, h.2.2.2.1, rfl, fun _ => rfl, fun e => absurd e hy⟩
theorem oneS_same (t : List Int) (u1 u2 : zU) (r r2 : Int) (h : u1.p = u2.p ∧ u1.ws = u2.ws ∧ u1.ts = u2.ts ∧ u1.op = u2.op ∧ u1.y = 0 ∧ u2.y = 0 ∧ u1.r = r ∧ u2.r = r2) : sameU r r2 (oneS t u1) (oneS t u2) := by
  obtain ⟨h1, h2, h3, h4, h5, h6, h7, h8⟩ := id h
  by_cases c1 : bget t u2.p = 40
  · rw [oneS_br c1, oneS_br (u := u1) (h1 ▸ c1), h1]
    generalize brS t t.length (u2.p + 1) 1 [] = z
    unfold brkS
    by_cases c : 0 ≤ z.2
    · simp only [if_pos c]; exact same_tx h _ _ _
    · simp only [if_neg c]; exact ⟨rfl, h2, h3, h4, rfl, fun _ => rfl, fun e => absurd e (show (2 : Int) ≠ 0 by decide)⟩
  by_cases c2 : bget t u2.p = 41
  · rw [oneS_41 c2, oneS_41 (u := u1) (h1 ▸ c2), h1]; exact same_fl h _ _ (by decide)
  by_cases c3 : bget t u2.p = 47
  · rw [oneS_47 c3, oneS_47 (u := u1) (h1 ▸ c3), h1]
    by_cases c : 127 < rowE t (u2.p + 1) - u2.p - 1
    · simp only [if_pos c]; exact same_fl h _ _ (by decide)
    · simp only [if_neg c]; exact same_tx h _ _ _
  by_cases c4 : bget t u2.p = 60
  · rw [oneS_lt c4, oneS_lt (u := u1) (h1 ▸ c4), h1]
    by_cases c : bget t (u2.p + 1) = 60
    · simp only [if_pos c]; exact same_tx h _ _ _
    · simp only [if_neg c]
      generalize prS t t.length (u2.p + 1) (-1) [] = z
      unfold prsS
      by_cases d : z.2.2.1 = 0
      · simp only [if_pos d]; exact same_tx h _ _ _
      · simp only [if_neg d]
        by_cases d2 : z.2.2.1 = 2
        · simp only [if_pos d2]; exact ⟨rfl, h2, h3, h4, rfl, fun _ => rfl, fun e => absurd e (show (2 : Int) ≠ 0 by decide)⟩
        · simp only [if_neg d2]; exact ⟨rfl, h2, h3, h4, rfl, fun _ => rfl, fun e => absurd e (show (3 : Int) ≠ 0 by decide)⟩
  by_cases c5 : bget t u2.p = 62
  · rw [oneS_gt c5, oneS_gt (u := u1) (h1 ▸ c5), h1]
    by_cases c : bget t (u2.p + 1) = 62
    · simp only [if_pos c]; exact same_tx h _ _ _
    · simp only [if_neg c]; exact same_fl h _ _ (by decide)
  by_cases c6 : bget t u2.p = 91 ∨ bget t u2.p = 93
  · rw [oneS_sq c6, oneS_sq (u := u1) (h1 ▸ c6), h1]; exact same_tx h _ _ _
  by_cases c7 : bget t u2.p = 123
  · rw [oneS_op c7, oneS_op (u := u1) (h1 ▸ c7)]
    unfold opnS
    rw [h4]
    by_cases c : u2.op.length < 64
    · simp only [if_pos c]
      refine ⟨?_, ?_, h3, ?_, by show u1.y = u2.y; rw [h5, h6], fun e => absurd h5 e, fun _ => ⟨h7, h8⟩⟩
      · show u1.p + 1 = u2.p + 1; rw [h1]
      · show u1.ws ++ _ = u2.ws ++ _; rw [h1, h2]
      · show u2.op ++ _ = u2.op ++ _; rw [h2]
    · simp only [if_neg c]; rw [h1]; exact same_fl h _ _ (by decide)
  by_cases c8 : bget t u2.p = 125
  · rw [oneS_cl c8, oneS_cl (u := u1) (h1 ▸ c8)]
    unfold clsS
    rw [h4]
    by_cases c : u2.op.length = 0
    · simp only [if_pos c]; rw [h1]; exact same_fl h _ _ (by decide)
    · simp only [if_neg c]
      refine ⟨?_, ?_, h3, rfl, by show u1.y = u2.y; rw [h5, h6], fun e => absurd h5 e, fun _ => ⟨h7, h8⟩⟩
      · show u1.p + 1 = u2.p + 1; rw [h1]
      · show wsetN u1.ws _ _ ++ _ = wsetN u2.ws _ _ ++ _; rw [h1, h2]
  · rw [oneS_row (u := u2) (by omega), oneS_row (u := u1) (by rw [h1]; omega)]
    unfold rowS
    rw [h1]
    by_cases d1 : 127 < rowE t u2.p - u2.p
    · simp only [if_pos d1]; exact same_fl h _ _ (by decide)
    · simp only [if_neg d1]
      by_cases d2 : (rdK t u2.p (rowE t u2.p)).1 = 3
      · simp only [if_pos d2]; exact same_tx h _ _ _
      · simp only [if_neg d2]
        by_cases d3 : (rdK t u2.p (rowE t u2.p)).2.2 = 0
        · simp only [if_pos d3]; exact same_fl h _ _ (by decide)
        · simp only [if_neg d3]
          refine ⟨rfl, ?_, h3, h4, by show u1.y = u2.y; rw [h5, h6], fun e => absurd h5 e, fun _ => ⟨h7, h8⟩⟩
          show u1.ws ++ _ = u2.ws ++ _; rw [h2]
theorem run_sk {t : List Int} : ∀ (k f : Nat) (u : zU), u.y = 0 → 0 ≤ u.p → u.p ≤ t.length → (t.length : Int) - u.p ≤ k → (t.length : Int) - u.p ≤ f → ∃ k' : Nat, ((t.length : Int) - skE t f u.p ≤ k' ∧ runS t k u = runS t k' (skE t f u.p, u.ws, u.ts, u.op, u.y, u.r, u.pend, u.mb)) ∧ u.p ≤ skE t f u.p ∧ skE t f u.p ≤ t.length ∧ (skE t f u.p = t.length ∨ lvOut t (skE t f u.p) = 0)
  | k, f, u, hy, h0, h1, hk, hf => by
    by_cases c : u.p < t.length ∧ lvOut t u.p = 1
    · obtain ⟨k1, rfl⟩ : ∃ k1, k = k1 + 1 := ⟨k - 1, by omega⟩
      obtain ⟨f1, rfl, e⟩ := skE_in c.1 hf c.2
      have hl := lvPos_rg ⟨h0, c.1⟩ c.2
      obtain ⟨k', a, b⟩ := run_sk k1 f1 (skpS t u) hy (show 0 ≤ lvPos t u.p by omega) (show lvPos t u.p ≤ t.length by omega) (show (t.length : Int) - lvPos t u.p ≤ k1 by omega) (show (t.length : Int) - lvPos t u.p ≤ f1 by omega)
      have e2 : skE t (f1 + 1) u.p = skE t f1 (skpS t u).p := e
      rw [e2, runS_skip c.1 hy c.2]
      refine ⟨k', a, ?_, b.2⟩
      have : lvPos t u.p ≤ skE t f1 (skpS t u).p := b.1
      omega
    · rw [skE_out c]
      refine ⟨k, ⟨hk, rfl⟩, Int.le_refl _, h1, ?_⟩
      have := lvOut_01 t u.p
      omega
theorem zUok_p {t : List Int} {u : zU} (h : zUok t u) {p : Int} (h1 : u.p ≤ p) (h2 : p ≤ t.length) : zUok t (p, u.ws, u.ts, u.op, u.y, u.r, u.pend, u.mb) := by
  have := h.p0; have := h.w; have := h.f
  exact ⟨by show 0 ≤ p; omega, h2, by show (u.ws.length : Int) ≤ p; omega, h.s, by show (u.ts.flatten.length : Int) ≤ p; omega, h.o, h.ox, h.m, h.d, h.g⟩
/-- the model between two calls -/
def zMA (h : Nat) (t : List Int) (ws : List (Int32 × Int32 × Int32)) (ts : List (List Int)) (r : Int) : zAt := fun G w => ∃ x : List Int × Int × Int × Int × (Nat → Int32) × (Nat → Int32), True ∧ zSt [zMOd h t ws ts [] x.1 x.2.1 r x.2.2.1 x.2.2.2.1 x.2.2.2.2.1 x.2.2.2.2.2] G w
theorem zRv_MA {h : Nat} {t : List Int} {ws : List (Int32 × Int32 × Int32)} {ts : List (List Int)} {r : Int} : zRv (zMA h t ws ts r) h 6 := fun G w ⟨x, _, hs⟩ => by
  obtain ⟨u, v, rfl, hu, hv⟩ := hs
  obtain ⟨p, fs, hp⟩ := zRv_MOd G u hu
  refine ⟨p, fs, ?_⟩
  rw [List.getElem?_append_left (by have := List.getElem?_eq_some_iff.mp hp; exact this.1)]
  exact hp
theorem mtape_nil {t : List Int} {f : Nat → Int32} (m : mTape t f) : mTape [] f := ⟨Nat.zero_le _, fun _ h => (by cases h), m.2.2.1, fun _ h => absurd h (Nat.not_lt_zero _)⟩
theorem mwords_nil {ws : List (Int32 × Int32 × Int32)} {fk fn fb : Nat → Int32} (m : mWords ws fk fn fb) : mWords [] fk fn fb := ⟨Nat.zero_le _, m.2.1, fun _ h => absurd h (Nat.not_lt_zero _)⟩
theorem mtexts_nil {ts : List (List Int)} {pd : List Int} {fy ff : Nat → Int32} (m : mTexts ts pd fy ff) : mTexts [] [] fy ff := by
  refine ⟨Nat.zero_le _, Nat.zero_le _, fun _ h => (by cases h), m.2.2.2.1, fun _ h => absurd h (Nat.not_lt_zero _), fun i hi => ?_⟩
  have : i = 0 := Nat.le_zero.mp hi
  subst this
  exact m.2.2.2.2.2 0 (Nat.zero_le _)
theorem mopen_nil (fo : Nat → Int32) : mOpen [] fo := ⟨Nat.zero_le _, fun _ h => absurd h (Nat.not_lt_zero _)⟩
theorem cutS_of {t : List Int} {u : zU} (h : runS t t.length (0, [], [], [], 0, (t.length : Int), [], 0) = u) : cutS t = if u.y = 0 ∧ 0 < u.op.length then (u.p, u.ws, u.ts, u.op, 4, (t.length : Int), u.pend, u.mb) else u := by
  unfold cutS
  rw [h]
set_option maxHeartbeats 4000000 in
set_option maxRecDepth 100000 in
theorem c_MO_cut (h : Nat) (t : List Int) (ws : List (Int32 × Int32 × Int32)) (ts : List (List Int)) (op : List Int) (y r ct wh : Int) (fd fr : Nat → Int32) (c1 : zU) (hc : cutS t = c1) (ht4 : t.length ≤ 10000) : zCT zy_MO_cut zm_MO_cut (0) (0) [.ref h] [zMOd h (t) (ws) (ts) ([]) (op) (y) (r) (ct) (wh) (fd) (fr)] (some (.int (zI (if c1.y = 0 then ((c1.ws.length : Nat) : Int) else -c1.y)))) [zMA h ([]) (c1.ws) (c1.ts) (c1.r)] := by
  refine zCT.of [(0, .ref h)] rfl (by decide) rfl (fun h => by first | rfl | cases h) (Nat.le_of_ble_eq_true rfl) (fun X hR => ?_)
  refine zw_fact 0 rfl (fun G w h => zMOd_fact h) (fun mf => ?_)
  obtain ⟨⟨ht1, hby⟩, hw1, ⟨hs1, hs2, hs3⟩, ho1⟩ := mf
  have j88 : ∀ (u : zU) (rm : Int), zUok t u → runS t t.length (0, [], [], [], 0, ((t.length : Nat) : Int), [], 0) = u → ((u.y = 0 ∧ u.r = ((t.length : Nat) : Int)) ∨ (u.y ≠ 0 ∧ rm = u.r)) → (0 ≤ u.y ∧ u.y ≤ 8) → zZ X zm_MO_cut (0) (0) (0) (0) [zMOy h (t) (u.ws) (u.ts) (u.op) (u.y) (rm)] 88 [(0, .ref h)] [] := by
    intro u rm hok hrun hyr hy8
    have hcu := cutS_of hrun
    rw [hc] at hcu
    have hw9 := hok.w; have hp9 := hok.p1; have hs9 := hok.s
    refine zw_unp (fun G ws h => h) (fun x0 hx0 => ?_)
    obtain ⟨pend, ct, wh, fd, fr⟩ := x0
    have hpd := hx0
    clear hx0
    simp only [List.cons_append, List.nil_append]
    dsimp only at hpd
    refine zw_unp (fun G ws h => h) (fun x0 hx0 => ?_)
    obtain ⟨⟨at_, ak, an, ab, aw, ay, af, ad, ar⟩, ft, fk, fn, fb, fo, fy, ff⟩ := x0
    obtain ⟨m1, m2, m3, m4, m5⟩ := hx0
    simp only [List.cons_append, List.nil_append]
    dsimp only at m1 m2 m3 m4 m5
    refine zw_aload_n 0 rfl zd_MO_cut_88 ?_
    refine zw_get zc_MO 0 16 rfl (by decide) zf_MO_55 rfl zd_MO_cut_89 ?_
    refine zw_if_ne 112 (by omega) zd_MO_cut_92 (by decide) (fun c92 => ?_) (fun c92 => ?_)
    · -- 92 -> 112
      refine zw_aload_n 0 rfl zd_MO_cut_112 ?_
      refine zw_get zc_MO 0 16 rfl (by decide) zf_MO_55 rfl zd_MO_cut_113 ?_
      refine zw_if_ne 127 (by omega) zd_MO_cut_116 (by decide) (fun c116 => ?_) (fun c116 => ?_)
      · -- 116 -> 127
        refine zw_aload_n 0 rfl zd_MO_cut_127 ?_
        refine zw_iconst zd_MO_cut_128 ?_
        refine zw_put (L' := [zObj h 6 [.ref at_, .int (zI (0)), .int (zI (rm)), .int (zI (((u.ws.length : Nat) : Int))), .ref ak, .ref an, .ref ab, .ref aw, .int (zI (((u.op.length : Nat) : Int))), .int (zI (((u.ts.length : Nat) : Int))), .int (zI (((((u.ts.flatten ++ pend)).length : Nat) : Int))), .ref ay, .ref af, .ref ad, .int (zI (ct)), .int (zI (wh)), .int (zI (u.y)), .ref ar], zArB at_ (65536) (ft), zArB ak (16384) (fk), zArI an (16384) (fn), zArI ab (16384) (fb), zArI aw (64) (fo), zArB ay (131072) (fy), zArI af (16385) (ff), zArB ad (400) (fd), zArB ar (420) (fr)]) zc_MO 0 1 rfl (by decide) zf_MO_40 rfl rfl rfl (Nat.le_of_ble_eq_true rfl) rfl zd_MO_cut_129 ?_
        refine zw_aload_n 0 rfl zd_MO_cut_132 ?_
        refine zw_aload_n 0 rfl zd_MO_cut_133 ?_
        refine zw_get zc_MO 0 12 rfl (by decide) zf_MO_31 rfl zd_MO_cut_134 ?_
        refine zw_aload_n 0 rfl zd_MO_cut_137 ?_
        refine zw_get zc_MO 0 9 rfl (by decide) zf_MO_67 rfl zd_MO_cut_138 ?_
        refine zw_aldI 7 rfl (by omega) (by omega) zd_MO_cut_141 ?_
        refine zw_topE (mtexts_from m3) ?_
        refine zw_put (L' := [zObj h 6 [.ref at_, .int (zI (0)), .int (zI (rm)), .int (zI (((u.ws.length : Nat) : Int))), .ref ak, .ref an, .ref ab, .ref aw, .int (zI (((u.op.length : Nat) : Int))), .int (zI (((u.ts.length : Nat) : Int))), .int (zI (((u.ts.flatten.length : Nat) : Int))), .ref ay, .ref af, .ref ad, .int (zI (ct)), .int (zI (wh)), .int (zI (u.y)), .ref ar], zArB at_ (65536) (ft), zArB ak (16384) (fk), zArI an (16384) (fn), zArI ab (16384) (fb), zArI aw (64) (fo), zArB ay (131072) (fy), zArI af (16385) (ff), zArB ad (400) (fd), zArB ar (420) (fr)]) zc_MO 0 10 rfl (by decide) zf_MO_64 rfl rfl rfl (Nat.le_of_ble_eq_true rfl) rfl zd_MO_cut_142 ?_
        refine zw_aload_n 0 rfl zd_MO_cut_145 ?_
        refine zw_get zc_MO 0 16 rfl (by decide) zf_MO_55 rfl zd_MO_cut_146 ?_
        refine zw_if_ne 159 (by omega) zd_MO_cut_149 (by decide) (fun c149 => ?_) (fun c149 => ?_)
        · -- 149 -> 159
          refine zw_aload_n 0 rfl zd_MO_cut_159 ?_
          refine zw_get zc_MO 0 16 rfl (by decide) zf_MO_55 rfl zd_MO_cut_160 ?_
          refine zw_ineg zd_MO_cut_163 ?_
          refine zw_eqL (L' := [zObj h 6 [.ref at_, .int (zI (0)), .int (zI (rm)), .int (zI (((u.ws.length : Nat) : Int))), .ref ak, .ref an, .ref ab, .ref aw, .int (zI (((u.op.length : Nat) : Int))), .int (zI (((u.ts.length : Nat) : Int))), .int (zI ((((u.ts.flatten ++ []).length : Nat) : Int))), .ref ay, .ref af, .ref ad, .int (zI (ct)), .int (zI (wh)), .int (zI (u.y)), .ref ar], zArB at_ (65536) (ft), zArB ak (16384) (fk), zArI an (16384) (fn), zArI ab (16384) (fb), zArI aw (64) (fo), zArB ay (131072) (fy), zArI af (16385) (ff), zArB ad (400) (fd), zArB ar (420) (fr)]) (by rw [List.append_nil]) ?_
          refine zw_pack (at0 := zMOd h ([]) (u.ws) (u.ts) ([]) (u.op) (u.y) (rm) (ct) (wh) (fd) (fr)) (Ls := [zObj h 6 [.ref at_, .int (zI (0)), .int (zI (rm)), .int (zI (((u.ws.length : Nat) : Int))), .ref ak, .ref an, .ref ab, .ref aw, .int (zI (((u.op.length : Nat) : Int))), .int (zI (((u.ts.length : Nat) : Int))), .int (zI ((((u.ts.flatten ++ []).length : Nat) : Int))), .ref ay, .ref af, .ref ad, .int (zI (ct)), .int (zI (wh)), .int (zI (u.y)), .ref ar], zArB at_ (65536) (ft), zArB ak (16384) (fk), zArI an (16384) (fn), zArI ab (16384) (fb), zArI aw (64) (fo), zArB ay (131072) (fy), zArI af (16385) (ff), zArB ad (400) (fd), zArB ar (420) (fr)]) (L2 := []) rfl (fun G w h => ⟨((at_, ak, an, ab, aw, ay, af, ad, ar), ft, fk, fn, fb, fo, fy, ff), ⟨mtape_nil m1, m2, mtexts_cut m3, m4, m5⟩, h⟩) ?_
          refine zw_pack (at0 := zMA h ([]) (u.ws) (u.ts) (rm)) (Ls := [zMOd h ([]) (u.ws) (u.ts) ([]) (u.op) (u.y) (rm) (ct) (wh) (fd) (fr)]) (L2 := []) rfl (fun G w h => ⟨(u.op, u.y, ct, wh, fd, fr), trivial, h⟩) ?_
          rw [if_neg (fun c => absurd c.1 (by omega))] at hcu
          exact zw_iret hR (by rw [hcu, if_neg (by omega)]) (by rw [hcu, show rm = u.r by omega]) rfl (by omega) (by omega) zd_MO_cut_164
        · -- 149 -> 152
          exfalso; omega
      · -- 116 -> 119
        exfalso; omega
    · -- 92 -> 95
      refine zw_aload_n 0 rfl zd_MO_cut_95 ?_
      refine zw_get zc_MO 0 8 rfl (by decide) zf_MO_156 rfl zd_MO_cut_96 ?_
      refine zw_if_le 112 (by omega) zd_MO_cut_99 (by decide) (fun c99 => ?_) (fun c99 => ?_)
      · -- 99 -> 112
        refine zw_aload_n 0 rfl zd_MO_cut_112 ?_
        refine zw_get zc_MO 0 16 rfl (by decide) zf_MO_55 rfl zd_MO_cut_113 ?_
        refine zw_if_ne 127 (by omega) zd_MO_cut_116 (by decide) (fun c116 => ?_) (fun c116 => ?_)
        · -- 116 -> 127
          exfalso; omega
        · -- 116 -> 119
          refine zw_aload_n 0 rfl zd_MO_cut_119 ?_
          refine zw_aload_n 0 rfl zd_MO_cut_120 ?_
          refine zw_get zc_MO 0 1 rfl (by decide) zf_MO_40 rfl zd_MO_cut_121 ?_
          refine zw_put (L' := [zObj h 6 [.ref at_, .int (zI (((t.length : Nat) : Int))), .int (zI (((t.length : Nat) : Int))), .int (zI (((u.ws.length : Nat) : Int))), .ref ak, .ref an, .ref ab, .ref aw, .int (zI (((u.op.length : Nat) : Int))), .int (zI (((u.ts.length : Nat) : Int))), .int (zI (((((u.ts.flatten ++ pend)).length : Nat) : Int))), .ref ay, .ref af, .ref ad, .int (zI (ct)), .int (zI (wh)), .int (zI (u.y)), .ref ar], zArB at_ (65536) (ft), zArB ak (16384) (fk), zArI an (16384) (fn), zArI ab (16384) (fb), zArI aw (64) (fo), zArB ay (131072) (fy), zArI af (16385) (ff), zArB ad (400) (fd), zArB ar (420) (fr)]) zc_MO 0 2 rfl (by decide) zf_MO_58 rfl rfl rfl (Nat.le_of_ble_eq_true rfl) rfl zd_MO_cut_124 ?_
          refine zw_aload_n 0 rfl zd_MO_cut_127 ?_
          refine zw_iconst zd_MO_cut_128 ?_
          refine zw_put (L' := [zObj h 6 [.ref at_, .int (zI (0)), .int (zI (((t.length : Nat) : Int))), .int (zI (((u.ws.length : Nat) : Int))), .ref ak, .ref an, .ref ab, .ref aw, .int (zI (((u.op.length : Nat) : Int))), .int (zI (((u.ts.length : Nat) : Int))), .int (zI (((((u.ts.flatten ++ pend)).length : Nat) : Int))), .ref ay, .ref af, .ref ad, .int (zI (ct)), .int (zI (wh)), .int (zI (u.y)), .ref ar], zArB at_ (65536) (ft), zArB ak (16384) (fk), zArI an (16384) (fn), zArI ab (16384) (fb), zArI aw (64) (fo), zArB ay (131072) (fy), zArI af (16385) (ff), zArB ad (400) (fd), zArB ar (420) (fr)]) zc_MO 0 1 rfl (by decide) zf_MO_40 rfl rfl rfl (Nat.le_of_ble_eq_true rfl) rfl zd_MO_cut_129 ?_
          refine zw_aload_n 0 rfl zd_MO_cut_132 ?_
          refine zw_aload_n 0 rfl zd_MO_cut_133 ?_
          refine zw_get zc_MO 0 12 rfl (by decide) zf_MO_31 rfl zd_MO_cut_134 ?_
          refine zw_aload_n 0 rfl zd_MO_cut_137 ?_
          refine zw_get zc_MO 0 9 rfl (by decide) zf_MO_67 rfl zd_MO_cut_138 ?_
          refine zw_aldI 7 rfl (by omega) (by omega) zd_MO_cut_141 ?_
          refine zw_topE (mtexts_from m3) ?_
          refine zw_put (L' := [zObj h 6 [.ref at_, .int (zI (0)), .int (zI (((t.length : Nat) : Int))), .int (zI (((u.ws.length : Nat) : Int))), .ref ak, .ref an, .ref ab, .ref aw, .int (zI (((u.op.length : Nat) : Int))), .int (zI (((u.ts.length : Nat) : Int))), .int (zI (((u.ts.flatten.length : Nat) : Int))), .ref ay, .ref af, .ref ad, .int (zI (ct)), .int (zI (wh)), .int (zI (u.y)), .ref ar], zArB at_ (65536) (ft), zArB ak (16384) (fk), zArI an (16384) (fn), zArI ab (16384) (fb), zArI aw (64) (fo), zArB ay (131072) (fy), zArI af (16385) (ff), zArB ad (400) (fd), zArB ar (420) (fr)]) zc_MO 0 10 rfl (by decide) zf_MO_64 rfl rfl rfl (Nat.le_of_ble_eq_true rfl) rfl zd_MO_cut_142 ?_
          refine zw_aload_n 0 rfl zd_MO_cut_145 ?_
          refine zw_get zc_MO 0 16 rfl (by decide) zf_MO_55 rfl zd_MO_cut_146 ?_
          refine zw_if_ne 159 (by omega) zd_MO_cut_149 (by decide) (fun c149 => ?_) (fun c149 => ?_)
          · -- 149 -> 159
            exfalso; omega
          · -- 149 -> 152
            refine zw_aload_n 0 rfl zd_MO_cut_152 ?_
            refine zw_get zc_MO 0 3 rfl (by decide) zf_MO_61 rfl zd_MO_cut_153 ?_
            refine zw_goto 164 zd_MO_cut_156 (by decide) ?_
            refine zw_eqL (L' := [zObj h 6 [.ref at_, .int (zI (0)), .int (zI (((t.length : Nat) : Int))), .int (zI (((u.ws.length : Nat) : Int))), .ref ak, .ref an, .ref ab, .ref aw, .int (zI (((u.op.length : Nat) : Int))), .int (zI (((u.ts.length : Nat) : Int))), .int (zI ((((u.ts.flatten ++ []).length : Nat) : Int))), .ref ay, .ref af, .ref ad, .int (zI (ct)), .int (zI (wh)), .int (zI (u.y)), .ref ar], zArB at_ (65536) (ft), zArB ak (16384) (fk), zArI an (16384) (fn), zArI ab (16384) (fb), zArI aw (64) (fo), zArB ay (131072) (fy), zArI af (16385) (ff), zArB ad (400) (fd), zArB ar (420) (fr)]) (by rw [List.append_nil]) ?_
            refine zw_pack (at0 := zMOd h ([]) (u.ws) (u.ts) ([]) (u.op) (u.y) (((t.length : Nat) : Int)) (ct) (wh) (fd) (fr)) (Ls := [zObj h 6 [.ref at_, .int (zI (0)), .int (zI (((t.length : Nat) : Int))), .int (zI (((u.ws.length : Nat) : Int))), .ref ak, .ref an, .ref ab, .ref aw, .int (zI (((u.op.length : Nat) : Int))), .int (zI (((u.ts.length : Nat) : Int))), .int (zI ((((u.ts.flatten ++ []).length : Nat) : Int))), .ref ay, .ref af, .ref ad, .int (zI (ct)), .int (zI (wh)), .int (zI (u.y)), .ref ar], zArB at_ (65536) (ft), zArB ak (16384) (fk), zArI an (16384) (fn), zArI ab (16384) (fb), zArI aw (64) (fo), zArB ay (131072) (fy), zArI af (16385) (ff), zArB ad (400) (fd), zArB ar (420) (fr)]) (L2 := []) rfl (fun G w h => ⟨((at_, ak, an, ab, aw, ay, af, ad, ar), ft, fk, fn, fb, fo, fy, ff), ⟨mtape_nil m1, m2, mtexts_cut m3, m4, m5⟩, h⟩) ?_
            refine zw_pack (at0 := zMA h ([]) (u.ws) (u.ts) (((t.length : Nat) : Int))) (Ls := [zMOd h ([]) (u.ws) (u.ts) ([]) (u.op) (u.y) (((t.length : Nat) : Int)) (ct) (wh) (fd) (fr)]) (L2 := []) rfl (fun G w h => ⟨(u.op, u.y, ct, wh, fd, fr), trivial, h⟩) ?_
            rw [if_neg (fun c => absurd c.2 (by omega))] at hcu
            exact zw_iret hR (by rw [hcu, if_pos (by omega)]) (by rw [hcu, show u.r = ((t.length : Nat) : Int) by omega]) rfl (by omega) (by omega) zd_MO_cut_164
      · -- 99 -> 102
        refine zw_aload_n 0 rfl zd_MO_cut_102 ?_
        refine zw_iconst zd_MO_cut_103 ?_
        refine zw_aload_n 0 rfl zd_MO_cut_104 ?_
        refine zw_get zc_MO 0 1 rfl (by decide) zf_MO_40 rfl zd_MO_cut_105 ?_
        refine zw_pack (at0 := zMOd h (t) (u.ws) (u.ts) (pend) (u.op) (u.y) (rm) (ct) (wh) (fd) (fr)) (Ls := [zObj h 6 [.ref at_, .int (zI (((t.length : Nat) : Int))), .int (zI (rm)), .int (zI (((u.ws.length : Nat) : Int))), .ref ak, .ref an, .ref ab, .ref aw, .int (zI (((u.op.length : Nat) : Int))), .int (zI (((u.ts.length : Nat) : Int))), .int (zI (((((u.ts.flatten ++ pend)).length : Nat) : Int))), .ref ay, .ref af, .ref ad, .int (zI (ct)), .int (zI (wh)), .int (zI (u.y)), .ref ar], zArB at_ (65536) (ft), zArB ak (16384) (fk), zArI an (16384) (fn), zArI ab (16384) (fb), zArI aw (64) (fo), zArB ay (131072) (fy), zArI af (16385) (ff), zArB ad (400) (fd), zArB ar (420) (fr)]) (L2 := []) rfl (fun G w h => ⟨((at_, ak, an, ab, aw, ay, af, ad, ar), ft, fk, fn, fb, fo, fy, ff), ⟨m1, m2, m3, m4, m5⟩, h⟩) ?_
        refine zw_callV (As := [.int (zI (4)), .int (zI (((t.length : Nat) : Int)))]) (rest := []) (L2 := []) (L' := [zMOd h (t) (u.ws) (u.ts) (pend) (u.op) (4) (((t.length : Nat) : Int)) (ct) (wh) (fd) (fr)]) (stk' := [.int (zI (-1))]) (c_MO_fail h t u.ws u.ts pend u.op u.y rm ct wh fd fr 4 (((t.length : Nat) : Int))) [0] [] rfl rfl rfl zcal_MO_fail zl_MO_80 zin_MO_fail zse_MO_fail 0 rfl zRv_MOd rfl (Nat.le_of_ble_eq_true rfl) (Nat.le_of_ble_eq_true rfl) (by omega) (by omega) rfl (Nat.le_of_ble_eq_true rfl) rfl rfl zd_MO_cut_108 ?_
        refine zw_unp (fun G ws h => h) (fun x0 hx0 => ?_)
        obtain ⟨⟨at_, ak, an, ab, aw, ay, af, ad, ar⟩, ft, fk, fn, fb, fo, fy, ff⟩ := x0
        obtain ⟨m1, m2, m3, m4, m5⟩ := hx0
        simp only [List.cons_append, List.nil_append]
        dsimp only at m1 m2 m3 m4 m5
        have y4 : (4 : Int) ≠ 0 := by decide
        refine zw_pop rfl zd_MO_cut_111 ?_
        refine zw_aload_n 0 rfl zd_MO_cut_112 ?_
        refine zw_get zc_MO 0 16 rfl (by decide) zf_MO_55 rfl zd_MO_cut_113 ?_
        refine zw_if_ne 127 (by omega) zd_MO_cut_116 (by decide) (fun c116 => ?_) (fun c116 => ?_)
        · -- 116 -> 127
          refine zw_aload_n 0 rfl zd_MO_cut_127 ?_
          refine zw_iconst zd_MO_cut_128 ?_
          refine zw_put (L' := [zObj h 6 [.ref at_, .int (zI (0)), .int (zI (((t.length : Nat) : Int))), .int (zI (((u.ws.length : Nat) : Int))), .ref ak, .ref an, .ref ab, .ref aw, .int (zI (((u.op.length : Nat) : Int))), .int (zI (((u.ts.length : Nat) : Int))), .int (zI (((((u.ts.flatten ++ pend)).length : Nat) : Int))), .ref ay, .ref af, .ref ad, .int (zI (ct)), .int (zI (wh)), .int (zI (4)), .ref ar], zArB at_ (65536) (ft), zArB ak (16384) (fk), zArI an (16384) (fn), zArI ab (16384) (fb), zArI aw (64) (fo), zArB ay (131072) (fy), zArI af (16385) (ff), zArB ad (400) (fd), zArB ar (420) (fr)]) zc_MO 0 1 rfl (by decide) zf_MO_40 rfl rfl rfl (Nat.le_of_ble_eq_true rfl) rfl zd_MO_cut_129 ?_
          refine zw_aload_n 0 rfl zd_MO_cut_132 ?_
          refine zw_aload_n 0 rfl zd_MO_cut_133 ?_
          refine zw_get zc_MO 0 12 rfl (by decide) zf_MO_31 rfl zd_MO_cut_134 ?_
          refine zw_aload_n 0 rfl zd_MO_cut_137 ?_
          refine zw_get zc_MO 0 9 rfl (by decide) zf_MO_67 rfl zd_MO_cut_138 ?_
          refine zw_aldI 7 rfl (by omega) (by omega) zd_MO_cut_141 ?_
          refine zw_topE (mtexts_from m3) ?_
          refine zw_put (L' := [zObj h 6 [.ref at_, .int (zI (0)), .int (zI (((t.length : Nat) : Int))), .int (zI (((u.ws.length : Nat) : Int))), .ref ak, .ref an, .ref ab, .ref aw, .int (zI (((u.op.length : Nat) : Int))), .int (zI (((u.ts.length : Nat) : Int))), .int (zI (((u.ts.flatten.length : Nat) : Int))), .ref ay, .ref af, .ref ad, .int (zI (ct)), .int (zI (wh)), .int (zI (4)), .ref ar], zArB at_ (65536) (ft), zArB ak (16384) (fk), zArI an (16384) (fn), zArI ab (16384) (fb), zArI aw (64) (fo), zArB ay (131072) (fy), zArI af (16385) (ff), zArB ad (400) (fd), zArB ar (420) (fr)]) zc_MO 0 10 rfl (by decide) zf_MO_64 rfl rfl rfl (Nat.le_of_ble_eq_true rfl) rfl zd_MO_cut_142 ?_
          refine zw_aload_n 0 rfl zd_MO_cut_145 ?_
          refine zw_get zc_MO 0 16 rfl (by decide) zf_MO_55 rfl zd_MO_cut_146 ?_
          refine zw_if_ne 159 (by omega) zd_MO_cut_149 (by decide) (fun c149 => ?_) (fun c149 => ?_)
          · -- 149 -> 159
            refine zw_aload_n 0 rfl zd_MO_cut_159 ?_
            refine zw_get zc_MO 0 16 rfl (by decide) zf_MO_55 rfl zd_MO_cut_160 ?_
            refine zw_ineg zd_MO_cut_163 ?_
            refine zw_eqL (L' := [zObj h 6 [.ref at_, .int (zI (0)), .int (zI (((t.length : Nat) : Int))), .int (zI (((u.ws.length : Nat) : Int))), .ref ak, .ref an, .ref ab, .ref aw, .int (zI (((u.op.length : Nat) : Int))), .int (zI (((u.ts.length : Nat) : Int))), .int (zI ((((u.ts.flatten ++ []).length : Nat) : Int))), .ref ay, .ref af, .ref ad, .int (zI (ct)), .int (zI (wh)), .int (zI (4)), .ref ar], zArB at_ (65536) (ft), zArB ak (16384) (fk), zArI an (16384) (fn), zArI ab (16384) (fb), zArI aw (64) (fo), zArB ay (131072) (fy), zArI af (16385) (ff), zArB ad (400) (fd), zArB ar (420) (fr)]) (by rw [List.append_nil]) ?_
            refine zw_pack (at0 := zMOd h ([]) (u.ws) (u.ts) ([]) (u.op) (4) (((t.length : Nat) : Int)) (ct) (wh) (fd) (fr)) (Ls := [zObj h 6 [.ref at_, .int (zI (0)), .int (zI (((t.length : Nat) : Int))), .int (zI (((u.ws.length : Nat) : Int))), .ref ak, .ref an, .ref ab, .ref aw, .int (zI (((u.op.length : Nat) : Int))), .int (zI (((u.ts.length : Nat) : Int))), .int (zI ((((u.ts.flatten ++ []).length : Nat) : Int))), .ref ay, .ref af, .ref ad, .int (zI (ct)), .int (zI (wh)), .int (zI (4)), .ref ar], zArB at_ (65536) (ft), zArB ak (16384) (fk), zArI an (16384) (fn), zArI ab (16384) (fb), zArI aw (64) (fo), zArB ay (131072) (fy), zArI af (16385) (ff), zArB ad (400) (fd), zArB ar (420) (fr)]) (L2 := []) rfl (fun G w h => ⟨((at_, ak, an, ab, aw, ay, af, ad, ar), ft, fk, fn, fb, fo, fy, ff), ⟨mtape_nil m1, m2, mtexts_cut m3, m4, m5⟩, h⟩) ?_
            refine zw_pack (at0 := zMA h ([]) (u.ws) (u.ts) (((t.length : Nat) : Int))) (Ls := [zMOd h ([]) (u.ws) (u.ts) ([]) (u.op) (4) (((t.length : Nat) : Int)) (ct) (wh) (fd) (fr)]) (L2 := []) rfl (fun G w h => ⟨(u.op, 4, ct, wh, fd, fr), trivial, h⟩) ?_
            rw [if_pos ⟨by omega, by omega⟩] at hcu
            exact zw_iret hR (by rw [hcu]; rfl) (by rw [hcu]) rfl (by omega) (by omega) zd_MO_cut_164
          · -- 149 -> 152
            exact absurd c149 (by decide)
        · -- 116 -> 119
          exact absurd c116 (by decide)
  have lp : ∀ (fuel : Nat) (u : zU), (zUok t u ∧ u.y = 0 ∧ u.r = ((t.length : Nat) : Int) ∧ (u.p = t.length ∨ lvOut t u.p = 0) ∧ ∃ k : Nat, (t.length : Int) - u.p ≤ k ∧ runS t k u = runS t t.length (0, [], [], [], 0, ((t.length : Nat) : Int), [], 0)) → ((t.length : Int) - u.p).toNat < fuel → zZ X zm_MO_cut (0) (0) (0) (0) [zMOy h (t) (u.ws) (u.ts) (u.op) (0) (r)] 31 [(0, .ref h), (1, .int (zI (u.p)))] [] := by
    intro fuel
    induction fuel with
    | zero => intro u g0 hm; exact absurd hm (Nat.not_lt_zero _)
    | succ fuel ih =>
      intro u g0 hm
      obtain ⟨hok, hy, hru, hlv, ⟨k, hk, hrun⟩⟩ := g0
      have hp0 := hok.p0; have hp1 := hok.p1; have hw9 := hok.w; have hs9 := hok.s; have hf9 := hok.f
      refine zw_unp (fun G ws h => h) (fun x0 hx0 => ?_)
      obtain ⟨pend, ct, wh, fd, fr⟩ := x0
      have hpd := hx0
      clear hx0
      simp only [List.cons_append, List.nil_append]
      dsimp only at hpd
      obtain rfl := hpd rfl
      refine zw_aload_n 0 rfl zd_MO_cut_31 ?_
      refine zw_unp (fun G ws h => h) (fun x0 hx0 => ?_)
      obtain ⟨⟨at_, ak, an, ab, aw, ay, af, ad, ar⟩, ft, fk, fn, fb, fo, fy, ff⟩ := x0
      obtain ⟨m1, m2, m3, m4, m5⟩ := hx0
      simp only [List.cons_append, List.nil_append]
      dsimp only at m1 m2 m3 m4 m5
      refine zw_get zc_MO 0 16 rfl (by decide) zf_MO_55 rfl zd_MO_cut_32 ?_
      refine zw_pack (at0 := zMOd h (t) (u.ws) (u.ts) ([]) (u.op) (0) (r) (ct) (wh) (fd) (fr)) (Ls := [zObj h 6 [.ref at_, .int (zI (((t.length : Nat) : Int))), .int (zI (r)), .int (zI (((u.ws.length : Nat) : Int))), .ref ak, .ref an, .ref ab, .ref aw, .int (zI (((u.op.length : Nat) : Int))), .int (zI (((u.ts.length : Nat) : Int))), .int (zI (((((u.ts.flatten ++ ([]))).length : Nat) : Int))), .ref ay, .ref af, .ref ad, .int (zI (ct)), .int (zI (wh)), .int (zI (0)), .ref ar], zArB at_ (65536) (ft), zArB ak (16384) (fk), zArI an (16384) (fn), zArI ab (16384) (fb), zArI aw (64) (fo), zArB ay (131072) (fy), zArI af (16385) (ff), zArB ad (400) (fd), zArB ar (420) (fr)]) (L2 := []) rfl (fun G w h => ⟨((at_, ak, an, ab, aw, ay, af, ad, ar), ft, fk, fn, fb, fo, fy, ff), ⟨m1, m2, m3, m4, m5⟩, h⟩) ?_
      refine zw_if_ne 88 (by omega) zd_MO_cut_35 (by decide) (fun c35 => ?_) (fun c35 => ?_)
      · -- 35 -> 88
        exact absurd c35 (by decide)
      · -- 35 -> 38
        refine zw_iload_n 1 rfl zd_MO_cut_38 ?_
        refine zw_aload_n 0 rfl zd_MO_cut_39 ?_
        refine zw_unp (fun G ws h => h) (fun x0 hx0 => ?_)
        obtain ⟨⟨at_, ak, an, ab, aw, ay, af, ad, ar⟩, ft, fk, fn, fb, fo, fy, ff⟩ := x0
        obtain ⟨m1, m2, m3, m4, m5⟩ := hx0
        simp only [List.cons_append, List.nil_append]
        dsimp only at m1 m2 m3 m4 m5
        refine zw_get zc_MO 0 1 rfl (by decide) zf_MO_40 rfl zd_MO_cut_40 ?_
        refine zw_pack (at0 := zMOd h (t) (u.ws) (u.ts) ([]) (u.op) (0) (r) (ct) (wh) (fd) (fr)) (Ls := [zObj h 6 [.ref at_, .int (zI (((t.length : Nat) : Int))), .int (zI (r)), .int (zI (((u.ws.length : Nat) : Int))), .ref ak, .ref an, .ref ab, .ref aw, .int (zI (((u.op.length : Nat) : Int))), .int (zI (((u.ts.length : Nat) : Int))), .int (zI (((((u.ts.flatten ++ ([]))).length : Nat) : Int))), .ref ay, .ref af, .ref ad, .int (zI (ct)), .int (zI (wh)), .int (zI (0)), .ref ar], zArB at_ (65536) (ft), zArB ak (16384) (fk), zArI an (16384) (fn), zArI ab (16384) (fb), zArI aw (64) (fo), zArB ay (131072) (fy), zArI af (16385) (ff), zArB ad (400) (fd), zArB ar (420) (fr)]) (L2 := []) rfl (fun G w h => ⟨((at_, ak, an, ab, aw, ay, af, ad, ar), ft, fk, fn, fb, fo, fy, ff), ⟨m1, m2, m3, m4, m5⟩, h⟩) ?_
        refine zw_icmp_ge 88 (by omega) (by omega) zd_MO_cut_43 (by decide) (fun c43 => ?_) (fun c43 => ?_)
        · -- 43 -> 88
          refine zw_pack (at0 := zMOy h (t) (u.ws) (u.ts) (u.op) (0) (r)) (Ls := [zMOd h (t) (u.ws) (u.ts) ([]) (u.op) (0) (r) (ct) (wh) (fd) (fr)]) (L2 := []) rfl (fun G w h => ⟨([], ct, wh, fd, fr), fun _ => rfl, h⟩) ?_
          have hru2 := runS_stop (t := t) k u (fun c => by omega)
          rw [hrun] at hru2
          refine zw_eqL (L' := [zMOy h (t) (u.ws) (u.ts) (u.op) (u.y) (r)]) (by rw [hy]) ?_
          refine zw_lpick (lv' := [(0, .ref h)]) [0] rfl ?_
          refine zw_widen (k' := 0) (n' := 0) (by omega) (by omega) ?_
          exact j88 u r hok hru2 (Or.inl ⟨hy, hru⟩) (by omega)
        · -- 43 -> 46
          refine zw_aload_n 0 rfl zd_MO_cut_46 ?_
          refine zw_unp (fun G ws h => h) (fun x0 hx0 => ?_)
          obtain ⟨⟨at_, ak, an, ab, aw, ay, af, ad, ar⟩, ft, fk, fn, fb, fo, fy, ff⟩ := x0
          obtain ⟨m1, m2, m3, m4, m5⟩ := hx0
          simp only [List.cons_append, List.nil_append]
          dsimp only at m1 m2 m3 m4 m5
          refine zw_get zc_MO 0 3 rfl (by decide) zf_MO_61 rfl zd_MO_cut_47 ?_
          refine zw_pack (at0 := zMOd h (t) (u.ws) (u.ts) ([]) (u.op) (0) (r) (ct) (wh) (fd) (fr)) (Ls := [zObj h 6 [.ref at_, .int (zI (((t.length : Nat) : Int))), .int (zI (r)), .int (zI (((u.ws.length : Nat) : Int))), .ref ak, .ref an, .ref ab, .ref aw, .int (zI (((u.op.length : Nat) : Int))), .int (zI (((u.ts.length : Nat) : Int))), .int (zI (((((u.ts.flatten ++ ([]))).length : Nat) : Int))), .ref ay, .ref af, .ref ad, .int (zI (ct)), .int (zI (wh)), .int (zI (0)), .ref ar], zArB at_ (65536) (ft), zArB ak (16384) (fk), zArI an (16384) (fn), zArI ab (16384) (fb), zArI aw (64) (fo), zArB ay (131072) (fy), zArI af (16385) (ff), zArB ad (400) (fd), zArB ar (420) (fr)]) (L2 := []) rfl (fun G w h => ⟨((at_, ak, an, ab, aw, ay, af, ad, ar), ft, fk, fn, fb, fo, fy, ff), ⟨m1, m2, m3, m4, m5⟩, h⟩) ?_
          refine zw_sipush rfl zd_MO_cut_50 ?_
          refine zw_icmp_ne 66 (by omega) (by omega) zd_MO_cut_53 (by decide) (fun c53 => ?_) (fun c53 => ?_)
          · -- 53 -> 66
            have hlv0 : lvOut t u.p = 0 := by omega
            obtain ⟨v1, hv1⟩ : ∃ v1, oneS t (u.p, u.ws, u.ts, u.op, 0, r, [], 0) = v1 := ⟨_, rfl⟩
            have hok2 := oneS_ok hok (by omega) hlv0
            have hsm := oneS_same t (u.p, u.ws, u.ts, u.op, 0, r, [], 0) u r ((t.length : Nat) : Int) ⟨rfl, rfl, rfl, rfl, rfl, hy, rfl, hru⟩
            rw [hv1] at hsm
            obtain ⟨k1, rfl⟩ : ∃ k1, k = k1 + 1 := ⟨k - 1, by omega⟩
            rw [runS_one (by omega) hy hlv0] at hrun
            have hmo := (oneS_mono t u).2.2.2
            generalize hv : oneS t u = v at hsm hok2 hrun hmo
            obtain ⟨e1, e2, e3, e4, e5, e6, e7⟩ := hsm
            have hvp0 := hok2.1.p0; have hvp1 := hok2.1.p1
            refine zw_aload_n 0 rfl zd_MO_cut_66 ?_
            refine zw_iload_n 1 rfl zd_MO_cut_67 ?_
            refine zw_callV (As := [.int (zI (u.p))]) (rest := []) (L2 := []) (L' := [zMOy h (t) (v1.ws) (v1.ts) (v1.op) (v1.y) (v1.r)]) (stk' := [.int (zI (if v1.y = 0 then v1.p else -1))]) (c_MO_one h t u.ws u.ts u.op r ct wh fd fr u.p (by omega) hlv0 (by omega) (by omega) (by omega) hok.ox v1 hv1) [0] [] rfl rfl rfl zcal_MO_one zl_MO_180 zin_MO_one zse_MO_one 0 rfl zRv_MOd rfl (Nat.le_of_ble_eq_true rfl) (Nat.le_of_ble_eq_true rfl) (by omega) (by omega) rfl (Nat.le_of_ble_eq_true rfl) rfl rfl zd_MO_cut_68 ?_
            refine zw_unp (fun G ws h => h) (fun x0 hx0 => ?_)
            obtain ⟨pend, ct, wh, fd, fr⟩ := x0
            have hpd := hx0
            clear hx0
            simp only [List.cons_append, List.nil_append]
            dsimp only at hpd
            refine zw_istore_n (lv' := [(1, .int (zI (if v1.y = 0 then v1.p else -1))), (0, .ref h)]) (Nat.le_of_ble_eq_true rfl) rfl zd_MO_cut_71 ?_
            refine zw_aload_n 1 rfl zd_MO_cut_72 ?_
            refine zw_unp (fun G ws h => h) (fun x0 hx0 => ?_)
            obtain ⟨⟨at_, ak, an, ab, aw, ay, af, ad, ar⟩, ft, fk, fn, fb, fo, fy, ff⟩ := x0
            obtain ⟨m1, m2, m3, m4, m5⟩ := hx0
            simp only [List.cons_append, List.nil_append]
            dsimp only at m1 m2 m3 m4 m5
            refine zw_get zc_MO 0 16 rfl (by decide) zf_MO_55 rfl zd_MO_cut_73 ?_
            refine zw_pack (at0 := zMOd h (t) (v1.ws) (v1.ts) (pend) (v1.op) (v1.y) (v1.r) (ct) (wh) (fd) (fr)) (Ls := [zObj h 6 [.ref at_, .int (zI (((t.length : Nat) : Int))), .int (zI (v1.r)), .int (zI (((v1.ws.length : Nat) : Int))), .ref ak, .ref an, .ref ab, .ref aw, .int (zI (((v1.op.length : Nat) : Int))), .int (zI (((v1.ts.length : Nat) : Int))), .int (zI (((((v1.ts.flatten ++ pend)).length : Nat) : Int))), .ref ay, .ref af, .ref ad, .int (zI (ct)), .int (zI (wh)), .int (zI (v1.y)), .ref ar], zArB at_ (65536) (ft), zArB ak (16384) (fk), zArI an (16384) (fn), zArI ab (16384) (fb), zArI aw (64) (fo), zArB ay (131072) (fy), zArI af (16385) (ff), zArB ad (400) (fd), zArB ar (420) (fr)]) (L2 := []) rfl (fun G w h => ⟨((at_, ak, an, ab, aw, ay, af, ad, ar), ft, fk, fn, fb, fo, fy, ff), ⟨m1, m2, m3, m4, m5⟩, h⟩) ?_
            refine zw_if_ne 31 (by omega) zd_MO_cut_76 (by decide) (fun c76 => ?_) (fun c76 => ?_)
            · -- 76 -> 31
              refine zw_aload_n 1 rfl zd_MO_cut_31 ?_
              refine zw_unp (fun G ws h => h) (fun x0 hx0 => ?_)
              obtain ⟨⟨at_, ak, an, ab, aw, ay, af, ad, ar⟩, ft, fk, fn, fb, fo, fy, ff⟩ := x0
              obtain ⟨m1, m2, m3, m4, m5⟩ := hx0
              simp only [List.cons_append, List.nil_append]
              dsimp only at m1 m2 m3 m4 m5
              refine zw_get zc_MO 0 16 rfl (by decide) zf_MO_55 rfl zd_MO_cut_32 ?_
              refine zw_pack (at0 := zMOd h (t) (v1.ws) (v1.ts) (pend) (v1.op) (v1.y) (v1.r) (ct) (wh) (fd) (fr)) (Ls := [zObj h 6 [.ref at_, .int (zI (((t.length : Nat) : Int))), .int (zI (v1.r)), .int (zI (((v1.ws.length : Nat) : Int))), .ref ak, .ref an, .ref ab, .ref aw, .int (zI (((v1.op.length : Nat) : Int))), .int (zI (((v1.ts.length : Nat) : Int))), .int (zI (((((v1.ts.flatten ++ pend)).length : Nat) : Int))), .ref ay, .ref af, .ref ad, .int (zI (ct)), .int (zI (wh)), .int (zI (v1.y)), .ref ar], zArB at_ (65536) (ft), zArB ak (16384) (fk), zArI an (16384) (fn), zArI ab (16384) (fb), zArI aw (64) (fo), zArB ay (131072) (fy), zArI af (16385) (ff), zArB ad (400) (fd), zArB ar (420) (fr)]) (L2 := []) rfl (fun G w h => ⟨((at_, ak, an, ab, aw, ay, af, ad, ar), ft, fk, fn, fb, fo, fy, ff), ⟨m1, m2, m3, m4, m5⟩, h⟩) ?_
              refine zw_if_ne 88 (by omega) zd_MO_cut_35 (by decide) (fun c35 => ?_) (fun c35 => ?_)
              · -- 35 -> 88
                refine zw_pack (at0 := zMOy h (t) (v1.ws) (v1.ts) (v1.op) (v1.y) (v1.r)) (Ls := [zMOd h (t) (v1.ws) (v1.ts) (pend) (v1.op) (v1.y) (v1.r) (ct) (wh) (fd) (fr)]) (L2 := []) rfl (fun G w h => ⟨(pend, ct, wh, fd, fr), hpd, h⟩) ?_
                have hru2 := runS_stop (t := t) k1 v (fun c => by omega)
                rw [hrun] at hru2
                refine zw_eqL (L' := [zMOy h (t) (v.ws) (v.ts) (v.op) (v.y) (v.r)]) (by rw [e2, e3, e4, e6 (by omega), e5]) ?_
                refine zw_lpick (lv' := [(0, .ref h)]) [1] rfl ?_
                refine zw_widen (k' := 0) (n' := 0) (by omega) (by omega) ?_
                exact j88 v v.r hok2.1 hru2 (Or.inr ⟨by omega, rfl⟩) (by omega)
              · -- 35 -> 38
                exfalso; omega
            · -- 76 -> 79
              have hy1 : v1.y = 0 := by omega
              refine zw_eqv (lv' := [(1, .int (zI (v1.p))), (0, .ref h)]) (by rw [if_pos hy1]) ?_
              refine zw_aload_n 1 rfl zd_MO_cut_79 ?_
              refine zw_iload_n 0 rfl zd_MO_cut_80 ?_
              refine zw_callV (As := [.int (zI (v1.p))]) (rest := []) (L2 := []) (L' := [zMOd h (t) (v1.ws) (v1.ts) (pend) (v1.op) (v1.y) (v1.r) (ct) (wh) (fd) (fr)]) (stk' := [.int (zI (skE t t.length v1.p))]) (c_MO_skip h t v1.ws v1.ts pend v1.op v1.y v1.r ct wh fd fr v1.p (by omega)) [0] [] rfl rfl rfl zcal_MO_skip zl_MO_177 zin_MO_skip zse_MO_skip 0 rfl zRv_MOd rfl (Nat.le_of_ble_eq_true rfl) (Nat.le_of_ble_eq_true rfl) (by omega) (by omega) rfl (Nat.le_of_ble_eq_true rfl) rfl rfl zd_MO_cut_81 ?_
              refine zw_istore_n (lv' := [(1, .int (zI (skE t t.length v1.p))), (0, .ref h)]) (Nat.le_of_ble_eq_true rfl) rfl zd_MO_cut_84 ?_
              refine zw_goto 31 zd_MO_cut_85 (by decide) ?_
              obtain ⟨k2, ⟨b1, b2⟩, b3, b4, b5⟩ := run_sk k1 t.length v (by omega) (by omega) (by omega) (by omega) (by omega)
              rw [hrun] at b2
              refine zw_pack (at0 := zMOy h (t) (v1.ws) (v1.ts) (v1.op) (v1.y) (v1.r)) (Ls := [zMOd h (t) (v1.ws) (v1.ts) (pend) (v1.op) (v1.y) (v1.r) (ct) (wh) (fd) (fr)]) (L2 := []) rfl (fun G w h => ⟨(pend, ct, wh, fd, fr), hpd, h⟩) ?_
              refine zw_eqL (L' := [zMOy h (t) (v.ws) (v.ts) (v.op) (0) (r)]) (by rw [e2, e3, e4, (e7 (by omega)).1, hy1]) ?_
              refine zw_lpick (lv' := [(0, .ref h), (1, .int (zI (skE t t.length v1.p)))]) [1, 0] rfl ?_
              refine zw_widen (k' := 0) (n' := 0) (by omega) (by omega) ?_
              refine zw_eqv (lv' := [(0, .ref h), (1, .int (zI (skE t t.length v.p)))]) (by rw [e1]) ?_
              have hvr : v.r = ((t.length : Nat) : Int) := (e7 hy1).2
              exact ih (skE t t.length v.p, v.ws, v.ts, v.op, v.y, v.r, v.pend, v.mb) ⟨zUok_p hok2.1 b3 b4, show v.y = 0 by omega, hvr, b5, k2, b1, b2.symm⟩ (show ((t.length : Int) - skE t t.length v.p).toNat < fuel by omega)
          · -- 53 -> 56
            exfalso; omega
  refine zw_unp (fun G ws h => h) (fun x0 hx0 => ?_)
  obtain ⟨⟨at_, ak, an, ab, aw, ay, af, ad, ar⟩, ft, fk, fn, fb, fo, fy, ff⟩ := x0
  obtain ⟨m1, m2, m3, m4, m5⟩ := hx0
  simp only [List.cons_append, List.nil_append]
  dsimp only at m1 m2 m3 m4 m5
  refine zw_aload_n 0 rfl zd_MO_cut_0 ?_
  refine zw_iconst zd_MO_cut_1 ?_
  refine zw_put (L' := [zObj h 6 [.ref at_, .int (zI (((t.length : Nat) : Int))), .int (zI (r)), .int (zI (0)), .ref ak, .ref an, .ref ab, .ref aw, .int (zI (((op.length : Nat) : Int))), .int (zI (((ts.length : Nat) : Int))), .int (zI (((((ts.flatten ++ ([]))).length : Nat) : Int))), .ref ay, .ref af, .ref ad, .int (zI (ct)), .int (zI (wh)), .int (zI (y)), .ref ar], zArB at_ (65536) (ft), zArB ak (16384) (fk), zArI an (16384) (fn), zArI ab (16384) (fb), zArI aw (64) (fo), zArB ay (131072) (fy), zArI af (16385) (ff), zArB ad (400) (fd), zArB ar (420) (fr)]) zc_MO 0 3 rfl (by decide) zf_MO_61 rfl rfl rfl (Nat.le_of_ble_eq_true rfl) rfl zd_MO_cut_2 ?_
  refine zw_aload_n 0 rfl zd_MO_cut_5 ?_
  refine zw_iconst zd_MO_cut_6 ?_
  refine zw_put (L' := [zObj h 6 [.ref at_, .int (zI (((t.length : Nat) : Int))), .int (zI (r)), .int (zI (0)), .ref ak, .ref an, .ref ab, .ref aw, .int (zI (((op.length : Nat) : Int))), .int (zI (0)), .int (zI (((((ts.flatten ++ ([]))).length : Nat) : Int))), .ref ay, .ref af, .ref ad, .int (zI (ct)), .int (zI (wh)), .int (zI (y)), .ref ar], zArB at_ (65536) (ft), zArB ak (16384) (fk), zArI an (16384) (fn), zArI ab (16384) (fb), zArI aw (64) (fo), zArB ay (131072) (fy), zArI af (16385) (ff), zArB ad (400) (fd), zArB ar (420) (fr)]) zc_MO 0 9 rfl (by decide) zf_MO_67 rfl rfl rfl (Nat.le_of_ble_eq_true rfl) rfl zd_MO_cut_7 ?_
  refine zw_aload_n 0 rfl zd_MO_cut_10 ?_
  refine zw_iconst zd_MO_cut_11 ?_
  refine zw_put (L' := [zObj h 6 [.ref at_, .int (zI (((t.length : Nat) : Int))), .int (zI (r)), .int (zI (0)), .ref ak, .ref an, .ref ab, .ref aw, .int (zI (((op.length : Nat) : Int))), .int (zI (0)), .int (zI (0)), .ref ay, .ref af, .ref ad, .int (zI (ct)), .int (zI (wh)), .int (zI (y)), .ref ar], zArB at_ (65536) (ft), zArB ak (16384) (fk), zArI an (16384) (fn), zArI ab (16384) (fb), zArI aw (64) (fo), zArB ay (131072) (fy), zArI af (16385) (ff), zArB ad (400) (fd), zArB ar (420) (fr)]) zc_MO 0 10 rfl (by decide) zf_MO_64 rfl rfl rfl (Nat.le_of_ble_eq_true rfl) rfl zd_MO_cut_12 ?_
  refine zw_aload_n 0 rfl zd_MO_cut_15 ?_
  refine zw_iconst zd_MO_cut_16 ?_
  refine zw_put (L' := [zObj h 6 [.ref at_, .int (zI (((t.length : Nat) : Int))), .int (zI (r)), .int (zI (0)), .ref ak, .ref an, .ref ab, .ref aw, .int (zI (0)), .int (zI (0)), .int (zI (0)), .ref ay, .ref af, .ref ad, .int (zI (ct)), .int (zI (wh)), .int (zI (y)), .ref ar], zArB at_ (65536) (ft), zArB ak (16384) (fk), zArI an (16384) (fn), zArI ab (16384) (fb), zArI aw (64) (fo), zArB ay (131072) (fy), zArI af (16385) (ff), zArB ad (400) (fd), zArB ar (420) (fr)]) zc_MO 0 8 rfl (by decide) zf_MO_156 rfl rfl rfl (Nat.le_of_ble_eq_true rfl) rfl zd_MO_cut_17 ?_
  refine zw_aload_n 0 rfl zd_MO_cut_20 ?_
  refine zw_iconst zd_MO_cut_21 ?_
  refine zw_put (L' := [zObj h 6 [.ref at_, .int (zI (((t.length : Nat) : Int))), .int (zI (r)), .int (zI (0)), .ref ak, .ref an, .ref ab, .ref aw, .int (zI (0)), .int (zI (0)), .int (zI (0)), .ref ay, .ref af, .ref ad, .int (zI (ct)), .int (zI (wh)), .int (zI (0)), .ref ar], zArB at_ (65536) (ft), zArB ak (16384) (fk), zArI an (16384) (fn), zArI ab (16384) (fb), zArI aw (64) (fo), zArB ay (131072) (fy), zArI af (16385) (ff), zArB ad (400) (fd), zArB ar (420) (fr)]) zc_MO 0 16 rfl (by decide) zf_MO_55 rfl rfl rfl (Nat.le_of_ble_eq_true rfl) rfl zd_MO_cut_22 ?_
  refine zw_pack (at0 := zMOd h (t) ([]) ([]) ([]) ([]) (0) (r) (ct) (wh) (fd) (fr)) (Ls := [zObj h 6 [.ref at_, .int (zI (((t.length : Nat) : Int))), .int (zI (r)), .int (zI (0)), .ref ak, .ref an, .ref ab, .ref aw, .int (zI (0)), .int (zI (0)), .int (zI (0)), .ref ay, .ref af, .ref ad, .int (zI (ct)), .int (zI (wh)), .int (zI (0)), .ref ar], zArB at_ (65536) (ft), zArB ak (16384) (fk), zArI an (16384) (fn), zArI ab (16384) (fb), zArI aw (64) (fo), zArB ay (131072) (fy), zArI af (16385) (ff), zArB ad (400) (fd), zArB ar (420) (fr)]) (L2 := []) rfl (fun G w h => ⟨((at_, ak, an, ab, aw, ay, af, ad, ar), ft, fk, fn, fb, fo, fy, ff), ⟨m1, mwords_nil m2, mtexts_nil m3, mopen_nil _, m5⟩, h⟩) ?_
  refine zw_aload_n 0 rfl zd_MO_cut_25 ?_
  refine zw_iconst zd_MO_cut_26 ?_
  refine zw_callV (As := [.int (zI (0))]) (rest := []) (L2 := []) (L' := [zMOd h (t) ([]) ([]) ([]) ([]) (0) (r) (ct) (wh) (fd) (fr)]) (stk' := [.int (zI (skE t t.length 0))]) (c_MO_skip h t ([]) ([]) ([]) ([]) 0 r ct wh fd fr 0 (by omega)) [0] [] rfl rfl rfl zcal_MO_skip zl_MO_177 zin_MO_skip zse_MO_skip 0 rfl zRv_MOd rfl (Nat.le_of_ble_eq_true rfl) (Nat.le_of_ble_eq_true rfl) (by omega) (by omega) rfl (Nat.le_of_ble_eq_true rfl) rfl rfl zd_MO_cut_27 ?_
  refine zw_istore_n (lv' := [(1, .int (zI (skE t t.length 0))), (0, .ref h)]) (Nat.le_of_ble_eq_true rfl) rfl zd_MO_cut_30 ?_
  refine zw_pack (at0 := zMOy h (t) ([]) ([]) ([]) (0) (r)) (Ls := [zMOd h (t) ([]) ([]) ([]) ([]) (0) (r) (ct) (wh) (fd) (fr)]) (L2 := []) rfl (fun G w h => ⟨([], ct, wh, fd, fr), fun _ => rfl, h⟩) ?_
  obtain ⟨k2, ⟨b1, b2⟩, b3, b4, b5⟩ := run_sk t.length t.length ((0, [], [], [], 0, ((t.length : Nat) : Int), [], 0) : zU) rfl (show (0 : Int) ≤ 0 by omega) (show (0 : Int) ≤ t.length by omega) (show (t.length : Int) - 0 ≤ t.length by omega) (show (t.length : Int) - 0 ≤ t.length by omega)
  refine zw_lpick (lv' := [(0, .ref h), (1, .int (zI (skE t t.length 0)))]) [1, 0] rfl ?_
  refine zw_widen (k' := 0) (n' := 0) (by omega) (by omega) ?_
  exact lp _ (skE t t.length 0, [], [], [], 0, ((t.length : Nat) : Int), [], 0) ⟨zUok_p (zU0_ok t) b3 b4, rfl, rfl, b5, k2, b1, b2.symm⟩ (Nat.lt_succ_self _)
