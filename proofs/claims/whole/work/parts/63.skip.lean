theorem scanE_step {f : Int → Bool} {t : List Int} {q : Int} (h0 : 0 ≤ q) (h1 : q < t.length) (h2 : f (bget t q) = true) : scanE f t q = scanE f t (q + 1) := by
  obtain ⟨s1, s2, s3, s4⟩ := scanE_spec (f := f) (t := t) (p := q + 1) (by omega)
  refine scanE_uniq h0 (by omega) (fun j a b => ?_) s4
  rcases Int.lt_or_le q j with c | c
  · exact s3 j (by omega) b
  · rw [show j = q by omega]
    exact ⟨h1, h2⟩
theorem scanE_stop {f : Int → Bool} {t : List Int} {q : Int} (h0 : 0 ≤ q) (h : ¬ (q < t.length ∧ f (bget t q) = true)) : scanE f t q = q := scanE_uniq h0 (Int.le_refl q) (fun j a b => by omega) h
/-- behind blanks and comments -/
def skE (t : List Int) : Nat → Int → Int
  | 0, p => p
  | k + 1, p => if p < t.length ∧ lvOut t p = 1 then skE t k (lvPos t p) else p
theorem skE_in {t : List Int} {k : Nat} {p : Int} (hp : p < t.length) (hk : (t.length : Int) - p ≤ k) (hl : lvOut t p = 1) : ∃ k', k = k' + 1 ∧ skE t k p = skE t k' (lvPos t p) := by
  obtain ⟨k', rfl⟩ : ∃ k', k = k' + 1 := ⟨k - 1, by omega⟩
  exact ⟨k', rfl, by rw [skE, if_pos ⟨hp, hl⟩]⟩
theorem skE_out {t : List Int} {k : Nat} {p : Int} (h : ¬ (p < t.length ∧ lvOut t p = 1)) : skE t k p = p := by
  cases k with
  | zero => rfl
  | succ k => rw [skE, if_neg h]
def dlt (b : Int) : Int := if b = 40 then 1 else if b = 41 then -1 else 0
theorem brS_out {t : List Int} {k : Nat} {q d : Int} {acc xs : List Int} {E : Int} (h : ¬ q < t.length) (hb : brS t k q d acc = (xs, E)) : xs = acc ∧ E = -1 := by
  cases k with
  | zero => rw [brS] at hb; cases hb; exact ⟨rfl, rfl⟩
  | succ k => rw [brS, if_pos h] at hb; cases hb; exact ⟨rfl, rfl⟩
theorem brS_esc {t : List Int} {k : Nat} {q d : Int} {acc xs : List Int} {E : Int} (h : q < t.length) (hk : (t.length : Int) - q ≤ k) (h92 : bget t q = 92) (hb : brS t k q d acc = (xs, E)) : ∃ k' : Nat, k = k' + 1 ∧ brS t k' (escS t (q + 1)).2 d (acc ++ (escS t (q + 1)).1) = (xs, E) := by
  obtain ⟨k', rfl⟩ : ∃ k', k = k' + 1 := ⟨k - 1, by omega⟩
  rw [brS, if_neg (by omega), if_pos h92] at hb
  exact ⟨k', rfl, hb⟩
theorem brS_end {t : List Int} {k : Nat} {q d : Int} {acc xs : List Int} {E : Int} (h : q < t.length) (hk : (t.length : Int) - q ≤ k) (h92 : bget t q ≠ 92) (hd : d + dlt (bget t q) = 0) (hb : brS t k q d acc = (xs, E)) : xs = acc ∧ E = q := by
  obtain ⟨k', rfl⟩ : ∃ k', k = k' + 1 := ⟨k - 1, by omega⟩
  unfold dlt at hd
  rw [brS, if_neg (by omega), if_neg h92, if_pos hd] at hb
  cases hb
  exact ⟨rfl, rfl⟩
theorem brS_go {t : List Int} {k : Nat} {q d : Int} {acc xs : List Int} {E : Int} (h : q < t.length) (hk : (t.length : Int) - q ≤ k) (h92 : bget t q ≠ 92) (hd : d + dlt (bget t q) ≠ 0) (hb : brS t k q d acc = (xs, E)) : ∃ k' : Nat, k = k' + 1 ∧ brS t k' (if bget t q = 13 ∧ bget t (q + 1) = 10 then q + 2 else q + 1) (d + dlt (bget t q)) (acc ++ [if bget t q = 13 then 10 else bget t q]) = (xs, E) := by
  obtain ⟨k', rfl⟩ : ∃ k', k = k' + 1 := ⟨k - 1, by omega⟩
  unfold dlt at hd
  rw [brS, if_neg (by omega), if_neg h92, if_neg hd] at hb
  exact ⟨k', rfl, hb⟩
theorem prS_out {t : List Int} {k : Nat} {q hf : Int} {acc xs : List Int} {h1 wy E : Int} (h : ¬ q < t.length) (hb : prS t k q hf acc = (xs, h1, wy, E)) : xs = acc ∧ h1 = hf ∧ wy = 2 ∧ E = q := by
  cases k with
  | zero => rw [prS] at hb; cases hb; exact ⟨rfl, rfl, rfl, rfl⟩
  | succ k => rw [prS, if_pos h] at hb; cases hb; exact ⟨rfl, rfl, rfl, rfl⟩
theorem prS_gt {t : List Int} {k : Nat} {q hf : Int} {acc xs : List Int} {h1 wy E : Int} (h : q < t.length) (hk : (t.length : Int) - q ≤ k) (h62 : bget t q = 62) (hb : prS t k q hf acc = (xs, h1, wy, E)) : xs = acc ∧ h1 = hf ∧ wy = 0 ∧ E = q := by
  obtain ⟨k', rfl⟩ : ∃ k', k = k' + 1 := ⟨k - 1, by omega⟩
  rw [prS, if_neg (by omega), if_pos h62] at hb
  cases hb
  exact ⟨rfl, rfl, rfl, rfl⟩
theorem prS_blank {t : List Int} {k : Nat} {q hf : Int} {acc xs : List Int} {h1 wy E : Int} (h : q < t.length) (hk : (t.length : Int) - q ≤ k) (h62 : bget t q ≠ 62) (hs : sBlank (bget t q) = true) (hb : prS t k q hf acc = (xs, h1, wy, E)) : ∃ k' : Nat, k = k' + 1 ∧ prS t k' (q + 1) hf acc = (xs, h1, wy, E) := by
  obtain ⟨k', rfl⟩ : ∃ k', k = k' + 1 := ⟨k - 1, by omega⟩
  rw [prS, if_neg (by omega), if_neg h62, if_pos hs] at hb
  exact ⟨k', rfl, hb⟩
theorem prS_bad {t : List Int} {k : Nat} {q hf : Int} {acc xs : List Int} {h1 wy E : Int} (h : q < t.length) (hk : (t.length : Int) - q ≤ k) (h62 : bget t q ≠ 62) (hs : sBlank (bget t q) = false) (hd : digV (bget t q) < 0 ∨ 15 < digV (bget t q)) (hb : prS t k q hf acc = (xs, h1, wy, E)) : xs = acc ∧ h1 = hf ∧ wy = 3 ∧ E = q := by
  obtain ⟨k', rfl⟩ : ∃ k', k = k' + 1 := ⟨k - 1, by omega⟩
  rw [prS, if_neg (by omega), if_neg h62, if_neg (by rw [hs]; decide), if_pos hd] at hb
  cases hb
  exact ⟨rfl, rfl, rfl, rfl⟩
theorem prS_1st {t : List Int} {k : Nat} {q hf : Int} {acc xs : List Int} {h1 wy E : Int} (h : q < t.length) (hk : (t.length : Int) - q ≤ k) (hs : sBlank (bget t q) = false) (hd : 0 ≤ digV (bget t q) ∧ digV (bget t q) ≤ 15) (h62 : bget t q ≠ 62) (hf1 : hf = -1) (hb : prS t k q hf acc = (xs, h1, wy, E)) : ∃ k' : Nat, k = k' + 1 ∧ prS t k' (q + 1) (digV (bget t q)) acc = (xs, h1, wy, E) := by
  obtain ⟨k', rfl⟩ : ∃ k', k = k' + 1 := ⟨k - 1, by omega⟩
  rw [prS, if_neg (by omega), if_neg h62, if_neg (by rw [hs]; decide), if_neg (by omega), if_pos hf1] at hb
  exact ⟨k', rfl, hb⟩
theorem prS_2nd {t : List Int} {k : Nat} {q hf : Int} {acc xs : List Int} {h1 wy E : Int} (h : q < t.length) (hk : (t.length : Int) - q ≤ k) (hs : sBlank (bget t q) = false) (hd : 0 ≤ digV (bget t q) ∧ digV (bget t q) ≤ 15) (h62 : bget t q ≠ 62) (hf1 : hf ≠ -1) (hb : prS t k q hf acc = (xs, h1, wy, E)) : ∃ k' : Nat, k = k' + 1 ∧ prS t k' (q + 1) (-1) (acc ++ [16 * hf + digV (bget t q)]) = (xs, h1, wy, E) := by
  obtain ⟨k', rfl⟩ : ∃ k', k = k' + 1 := ⟨k - 1, by omega⟩
  rw [prS, if_neg (by omega), if_neg h62, if_neg (by rw [hs]; decide), if_neg (by omega), if_neg hf1] at hb
  exact ⟨k', rfl, hb⟩
theorem digV_blank {z : Int} (h : 0 ≤ digV z) : sBlank z = false := by
  have hz : (48 ≤ z ∧ z ≤ 57) ∨ (97 ≤ z ∧ z ≤ 122) ∨ (65 ≤ z ∧ z ≤ 90) := by
    unfold digV at h
    repeat' split at h
    all_goals omega
  exact decide_eq_false (by omega)
theorem mopen_add {op : List Int} {fo : Nat → Int32} {x : Int} (m : mOpen op fo) (h : op.length < 64) : mOpen (op ++ [x]) (upd fo ((op.length : Nat) : Int).toNat (zI x)) := by
  refine ⟨by rw [List.length_append, List.length_singleton]; omega, fun j hj => ?_⟩
  rw [show ((op.length : Nat) : Int).toNat = op.length by omega]
  rw [List.length_append, List.length_singleton] at hj
  by_cases e : j = op.length
  · subst e
    rw [pk_us, zgD_r _ _ _ (Nat.le_refl _)]
    simp
  · rw [pk_un e, zgD_l _ _ _ (by omega)]
    exact m.2 j (by omega)
theorem mopen_pop {op : List Int} {fo : Nat → Int32} (m : mOpen op fo) : mOpen (op.take (op.length - 1)) fo := by
  refine ⟨by rw [List.length_take]; have := m.1; omega, fun j hj => ?_⟩
  rw [List.length_take] at hj
  rw [zgD_take (by omega)]
  exact m.2 j (by omega)
theorem mopen_last {op : List Int} {fo : Nat → Int32} (m : mOpen op fo) (h : 0 < op.length) : fo (((op.length : Nat) : Int) - 1).toNat = zI (op.getD (op.length - 1) 0) := by
  rw [show (((op.length : Nat) : Int) - 1).toNat = op.length - 1 by omega]
  exact m.2 _ (by omega)
theorem mwords_set {ws : List (Int32 × Int32 × Int32)} {fk fn fb : Nat → Int32} {z : Int} {x : Int32} (m : mWords ws fk fn fb) (hz : 0 ≤ z ∧ z < ws.length) : mWords (wsetN ws z x) fk (upd fn z.toNat x) fb := by
  refine ⟨by rw [wsetN_len]; exact m.1, m.2.1, fun j hj => ?_⟩
  rw [wsetN_len] at hj
  unfold wsetN
  rw [if_pos hz]
  by_cases e : j = z.toNat
  · subst e
    rw [pk_us, List.getD_eq_getElem?_getD, List.getElem?_set_self hj]
    exact ⟨(m.2.2 _ hj).1, rfl, (m.2.2 _ hj).2.2⟩
  · rw [pk_un e, List.getD_eq_getElem?_getD, List.getElem?_set_ne (Ne.symm e), ← List.getD_eq_getElem?_getD]
    exact m.2.2 j hj
set_option maxHeartbeats 4000000 in
set_option maxRecDepth 100000 in
theorem c_MO_skip (h : Nat) (t : List Int) (ws : List (Int32 × Int32 × Int32)) (ts : List (List Int)) (pd : List Int) (op : List Int) (y r ct wh : Int) (fd fr : Nat → Int32) (z : Int) (hz : 0 ≤ z ∧ z ≤ t.length) : zCT zy_MO_skip zm_MO_skip (0) (0) [.ref h, .int (zI z)] [zMOd h (t) (ws) (ts) (pd) (op) (y) (r) (ct) (wh) (fd) (fr)] (some (.int (zI (skE t t.length z)))) [zMOd h (t) (ws) (ts) (pd) (op) (y) (r) (ct) (wh) (fd) (fr)] := by
  refine zCT.of [(0, .ref h), (1, .int (zI (z)))] rfl (by decide) rfl (fun h => by first | rfl | cases h) (Nat.le_of_ble_eq_true rfl) (fun X hR => ?_)
  refine zw_fact 0 rfl (fun G w h => zMOd_fact h) (fun mf => ?_)
  obtain ⟨⟨ht1, hby⟩, hw1, ⟨hs1, hs2, hs3⟩, ho1⟩ := mf
  have lp : ∀ (fuel : Nat) (q : Int) (c : Int), (((z ≤ q ∧ q ≤ t.length) ∧ (0 ≤ c ∧ c ≤ 1)) ∧ ∃ k : Nat, (c = 0 ∧ (t.length : Int) - q ≤ k ∧ skE t k q = skE t t.length z) ∨ (c = 1 ∧ (t.length : Int) - scanE (fun b => !sLine b) t q ≤ k ∧ skE t k (scanE (fun b => !sLine b) t q) = skE t t.length z)) → ((t.length : Int) - q).toNat < fuel → zZ X zm_MO_skip (0) (0) (0) (0) [zMOd h (t) (ws) (ts) (pd) (op) (y) (r) (ct) (wh) (fd) (fr)] 4 [(0, .ref h), (1, .int (zI (z))), (2, .int (zI (q))), (3, .int (zI (c)))] [] := by
    intro fuel
    induction fuel with
    | zero => intro q c g0 hm; exact absurd hm (Nat.not_lt_zero _)
    | succ fuel ih =>
      intro q c g0 hm
      obtain ⟨⟨g1, g2⟩, k, g3⟩ := g0
      refine zw_iload_n 2 rfl zd_MO_skip_4 ?_
      refine zw_aload_n 0 rfl zd_MO_skip_5 ?_
      refine zw_unp (fun G ws h => h) (fun x0 hx0 => ?_)
      obtain ⟨⟨at_, ak, an, ab, aw, ay, af, ad, ar⟩, ft, fk, fn, fb, fo, fy, ff⟩ := x0
      obtain ⟨m1, m2, m3, m4, m5⟩ := hx0
      simp only [List.cons_append, List.nil_append]
      dsimp only at m1 m2 m3 m4 m5
      refine zw_get zc_MO 0 1 rfl (by decide) zf_MO_40 rfl zd_MO_skip_6 ?_
      refine zw_pack (at0 := zMOd h (t) (ws) (ts) (pd) (op) (y) (r) (ct) (wh) (fd) (fr)) (Ls := [zObj h 6 [.ref at_, .int (zI (((t.length : Nat) : Int))), .int (zI (r)), .int (zI (((ws.length : Nat) : Int))), .ref ak, .ref an, .ref ab, .ref aw, .int (zI (((op.length : Nat) : Int))), .int (zI (((ts.length : Nat) : Int))), .int (zI (((((ts.flatten ++ pd)).length : Nat) : Int))), .ref ay, .ref af, .ref ad, .int (zI (ct)), .int (zI (wh)), .int (zI (y)), .ref ar], zArB at_ (65536) (ft), zArB ak (16384) (fk), zArI an (16384) (fn), zArI ab (16384) (fb), zArI aw (64) (fo), zArB ay (131072) (fy), zArI af (16385) (ff), zArB ad (400) (fd), zArB ar (420) (fr)]) (L2 := []) rfl (fun G w h => ⟨((at_, ak, an, ab, aw, ay, af, ad, ar), ft, fk, fn, fb, fo, fy, ff), ⟨m1, m2, m3, m4, m5⟩, h⟩) ?_
      refine zw_icmp_ge 77 (by omega) (by omega) zd_MO_skip_9 (by decide) (fun c9 => ?_) (fun c9 => ?_)
      · -- 9 -> 77
        refine zw_iload_n 2 rfl zd_MO_skip_77 ?_
        have eR : skE t t.length z = q := by
          rcases g3 with ⟨gc, gk, ge⟩ | ⟨gc, gk, ge⟩
          · rw [← ge]; exact skE_out (fun q1 => by have q3 := q1.2; unfold lvOut at q3; first | omega | (rw [if_neg (by rw [zbI0 (b := sBlank (bget t q)) (by omega)]; decide), if_neg (by omega)] at q3; omega))
          · rw [scanE_stop (by omega) (fun q1 => by omega)] at ge; rw [← ge]; exact skE_out (fun q1 => by omega)
        exact zw_iret hR (by rw [eR]) (rfl) rfl (by omega) (by omega) zd_MO_skip_78
      · -- 9 -> 12
        refine zw_iload_n 3 rfl zd_MO_skip_12 ?_
        refine zw_if_ne 37 (by omega) zd_MO_skip_13 (by decide) (fun c13 => ?_) (fun c13 => ?_)
        · -- 13 -> 37
          refine zw_aload_n 0 rfl zd_MO_skip_37 ?_
          refine zw_iload_n 2 rfl zd_MO_skip_38 ?_
          refine zw_callV (As := [.int (zI (q))]) (rest := []) (L2 := []) (L' := [zMOd h (t) (ws) (ts) (pd) (op) (y) (r) (ct) (wh) (fd) (fr)]) (stk' := [.int (zI (bget t q))]) (c_MO_byteAt h t ws ts pd op y r ct wh fd fr q (by omega)) [0] [] rfl rfl rfl zcal_MO_byteAt zl_MO_51 zin_MO_byteAt zse_MO_byteAt 0 rfl zRv_MOd rfl (Nat.le_of_ble_eq_true rfl) (Nat.le_of_ble_eq_true rfl) (by omega) (by omega) rfl (Nat.le_of_ble_eq_true rfl) rfl rfl zd_MO_skip_39 ?_
          have rg39 := bget_rg hby q
          refine zw_bipush rfl zd_MO_skip_42 ?_
          refine zw_icmp_ne 49 (by omega) (by omega) zd_MO_skip_44 (by decide) (fun c44 => ?_) (fun c44 => ?_)
          · -- 44 -> 49
            refine zw_aload_n 0 rfl zd_MO_skip_49 ?_
            refine zw_iload_n 2 rfl zd_MO_skip_50 ?_
            refine zw_callV (As := [.int (zI (q))]) (rest := []) (L2 := []) (L' := [zMOd h (t) (ws) (ts) (pd) (op) (y) (r) (ct) (wh) (fd) (fr)]) (stk' := [.int (zI (bget t q))]) (c_MO_byteAt h t ws ts pd op y r ct wh fd fr q (by omega)) [0] [] rfl rfl rfl zcal_MO_byteAt zl_MO_51 zin_MO_byteAt zse_MO_byteAt 0 rfl zRv_MOd rfl (Nat.le_of_ble_eq_true rfl) (Nat.le_of_ble_eq_true rfl) (by omega) (by omega) rfl (Nat.le_of_ble_eq_true rfl) rfl rfl zd_MO_skip_51 ?_
            have rg51 := bget_rg hby q
            refine zw_bipush rfl zd_MO_skip_54 ?_
            refine zw_icmp_eq 69 (by omega) (by omega) zd_MO_skip_56 (by decide) (fun c56 => ?_) (fun c56 => ?_)
            · -- 56 -> 69
              refine zw_iconst zd_MO_skip_69 ?_
              refine zw_istore_n (lv' := [(3, .int (zI (0))), (0, .ref h), (1, .int (zI (z))), (2, .int (zI (q)))]) (Nat.le_of_ble_eq_true rfl) rfl zd_MO_skip_70 ?_
              refine zw_iinc (lv' := [(2, .int (zI (q + 1))), (3, .int (zI (0))), (0, .ref h), (1, .int (zI (z)))]) 3 rfl (Nat.le_of_ble_eq_true rfl) rfl zd_MO_skip_71 ?_
              refine zw_goto 4 zd_MO_skip_74 (by decide) ?_
              refine zw_lpick (lv' := [(0, .ref h), (1, .int (zI (z))), (2, .int (zI (q + 1))), (3, .int (zI (0)))]) [2, 3, 0, 1] rfl ?_
              refine zw_widen (k' := 0) (n' := 0) (by omega) (by omega) ?_
              refine ih (q + 1) (0) ⟨by omega, ?_⟩ (by omega)
              rcases g3 with ⟨gc, gk, ge⟩ | ⟨gc, gk, ge⟩
              · -- a line end, outside
                have hbl : sBlank (bget t q) = true := decide_eq_true (by omega)
                obtain ⟨k2, rfl, e2⟩ := skE_in (k := k) (p := q) (by omega) gk (by unfold lvOut; rw [if_pos hbl])
                rw [show lvPos t q = q + 1 by unfold lvPos; rw [if_pos hbl]] at e2
                exact ⟨k2, Or.inl ⟨rfl, by omega, by rw [← e2]; exact ge⟩⟩
              · -- a line end of a comment
                have hbl : sBlank (bget t q) = true := decide_eq_true (by omega)
                have e3 : scanE (fun b => !sLine b) t q = q := scanE_stop (by omega) (fun q1 => by have q2 : (!sLine (bget t q)) = true := q1.2; rw [show sLine (bget t q) = true from decide_eq_true (by omega)] at q2; exact absurd q2 (by decide))
                rw [e3] at gk ge
                obtain ⟨k2, rfl, e2⟩ := skE_in (k := k) (p := q) (by omega) gk (by unfold lvOut; rw [if_pos hbl])
                rw [show lvPos t q = q + 1 by unfold lvPos; rw [if_pos hbl]] at e2
                exact ⟨k2, Or.inl ⟨rfl, by omega, by rw [← e2]; exact ge⟩⟩
            · -- 56 -> 59
              refine zw_aload_n 0 rfl zd_MO_skip_59 ?_
              refine zw_iload_n 2 rfl zd_MO_skip_60 ?_
              refine zw_callV (As := [.int (zI (q))]) (rest := []) (L2 := []) (L' := [zMOd h (t) (ws) (ts) (pd) (op) (y) (r) (ct) (wh) (fd) (fr)]) (stk' := [.int (zI (bget t q))]) (c_MO_byteAt h t ws ts pd op y r ct wh fd fr q (by omega)) [0] [] rfl rfl rfl zcal_MO_byteAt zl_MO_51 zin_MO_byteAt zse_MO_byteAt 0 rfl zRv_MOd rfl (Nat.le_of_ble_eq_true rfl) (Nat.le_of_ble_eq_true rfl) (by omega) (by omega) rfl (Nat.le_of_ble_eq_true rfl) rfl rfl zd_MO_skip_61 ?_
              have rg61 := bget_rg hby q
              refine zw_bipush rfl zd_MO_skip_64 ?_
              refine zw_icmp_ne 71 (by omega) (by omega) zd_MO_skip_66 (by decide) (fun c66 => ?_) (fun c66 => ?_)
              · -- 66 -> 71
                refine zw_iinc (lv' := [(2, .int (zI (q + 1))), (0, .ref h), (1, .int (zI (z))), (3, .int (zI (c)))]) 2 rfl (Nat.le_of_ble_eq_true rfl) rfl zd_MO_skip_71 ?_
                refine zw_goto 4 zd_MO_skip_74 (by decide) ?_
                refine zw_lpick (lv' := [(0, .ref h), (1, .int (zI (z))), (2, .int (zI (q + 1))), (3, .int (zI (c)))]) [1, 2, 0, 3] rfl ?_
                refine zw_widen (k' := 0) (n' := 0) (by omega) (by omega) ?_
                refine ih (q + 1) (c) ⟨by omega, ?_⟩ (by omega)
                rcases g3 with ⟨gc, gk, ge⟩ | ⟨gc, gk, ge⟩
                · -- a blank
                  first
                  | (exfalso; omega)
                  | (have hbl : sBlank (bget t q) = true := zbI1 (b := sBlank (bget t q)) (by omega)
                     obtain ⟨k2, rfl, e2⟩ := skE_in (k := k) (p := q) (by omega) gk (by unfold lvOut; rw [if_pos hbl])
                     rw [show lvPos t q = q + 1 by unfold lvPos; rw [if_pos hbl]] at e2
                     exact ⟨k2, Or.inl ⟨gc, by omega, by rw [← e2]; exact ge⟩⟩)
                · -- of a comment
                  first
                  | (exfalso; omega)
                  | (have e3 : scanE (fun b => !sLine b) t q = scanE (fun b => !sLine b) t (q + 1) := scanE_step (by omega) (by omega) (by show (!sLine (bget t q)) = true; rw [show sLine (bget t q) = false from decide_eq_false (by omega)]; rfl)
                     exact ⟨k, Or.inr ⟨gc, by rw [← e3]; exact gk, by rw [← e3]; exact ge⟩⟩)
              · -- 66 -> 69
                refine zw_iconst zd_MO_skip_69 ?_
                refine zw_istore_n (lv' := [(3, .int (zI (0))), (0, .ref h), (1, .int (zI (z))), (2, .int (zI (q)))]) (Nat.le_of_ble_eq_true rfl) rfl zd_MO_skip_70 ?_
                refine zw_iinc (lv' := [(2, .int (zI (q + 1))), (3, .int (zI (0))), (0, .ref h), (1, .int (zI (z)))]) 3 rfl (Nat.le_of_ble_eq_true rfl) rfl zd_MO_skip_71 ?_
                refine zw_goto 4 zd_MO_skip_74 (by decide) ?_
                refine zw_lpick (lv' := [(0, .ref h), (1, .int (zI (z))), (2, .int (zI (q + 1))), (3, .int (zI (0)))]) [2, 3, 0, 1] rfl ?_
                refine zw_widen (k' := 0) (n' := 0) (by omega) (by omega) ?_
                refine ih (q + 1) (0) ⟨by omega, ?_⟩ (by omega)
                rcases g3 with ⟨gc, gk, ge⟩ | ⟨gc, gk, ge⟩
                · -- a line end, outside
                  have hbl : sBlank (bget t q) = true := decide_eq_true (by omega)
                  obtain ⟨k2, rfl, e2⟩ := skE_in (k := k) (p := q) (by omega) gk (by unfold lvOut; rw [if_pos hbl])
                  rw [show lvPos t q = q + 1 by unfold lvPos; rw [if_pos hbl]] at e2
                  exact ⟨k2, Or.inl ⟨rfl, by omega, by rw [← e2]; exact ge⟩⟩
                · -- a line end of a comment
                  have hbl : sBlank (bget t q) = true := decide_eq_true (by omega)
                  have e3 : scanE (fun b => !sLine b) t q = q := scanE_stop (by omega) (fun q1 => by have q2 : (!sLine (bget t q)) = true := q1.2; rw [show sLine (bget t q) = true from decide_eq_true (by omega)] at q2; exact absurd q2 (by decide))
                  rw [e3] at gk ge
                  obtain ⟨k2, rfl, e2⟩ := skE_in (k := k) (p := q) (by omega) gk (by unfold lvOut; rw [if_pos hbl])
                  rw [show lvPos t q = q + 1 by unfold lvPos; rw [if_pos hbl]] at e2
                  exact ⟨k2, Or.inl ⟨rfl, by omega, by rw [← e2]; exact ge⟩⟩
          · -- 44 -> 47
            refine zw_iconst zd_MO_skip_47 ?_
            refine zw_istore_n (lv' := [(3, .int (zI (1))), (0, .ref h), (1, .int (zI (z))), (2, .int (zI (q)))]) (Nat.le_of_ble_eq_true rfl) rfl zd_MO_skip_48 ?_
            refine zw_aload_n 1 rfl zd_MO_skip_49 ?_
            refine zw_iload_n 3 rfl zd_MO_skip_50 ?_
            refine zw_callV (As := [.int (zI (q))]) (rest := []) (L2 := []) (L' := [zMOd h (t) (ws) (ts) (pd) (op) (y) (r) (ct) (wh) (fd) (fr)]) (stk' := [.int (zI (bget t q))]) (c_MO_byteAt h t ws ts pd op y r ct wh fd fr q (by omega)) [0] [] rfl rfl rfl zcal_MO_byteAt zl_MO_51 zin_MO_byteAt zse_MO_byteAt 0 rfl zRv_MOd rfl (Nat.le_of_ble_eq_true rfl) (Nat.le_of_ble_eq_true rfl) (by omega) (by omega) rfl (Nat.le_of_ble_eq_true rfl) rfl rfl zd_MO_skip_51 ?_
            have rg51 := bget_rg hby q
            refine zw_bipush rfl zd_MO_skip_54 ?_
            refine zw_icmp_eq 69 (by omega) (by omega) zd_MO_skip_56 (by decide) (fun c56 => ?_) (fun c56 => ?_)
            · -- 56 -> 69
              refine zw_iconst zd_MO_skip_69 ?_
              refine zw_istore_n (lv' := [(3, .int (zI (0))), (0, .ref h), (1, .int (zI (z))), (2, .int (zI (q)))]) (Nat.le_of_ble_eq_true rfl) rfl zd_MO_skip_70 ?_
              refine zw_iinc (lv' := [(2, .int (zI (q + 1))), (3, .int (zI (0))), (0, .ref h), (1, .int (zI (z)))]) 3 rfl (Nat.le_of_ble_eq_true rfl) rfl zd_MO_skip_71 ?_
              refine zw_goto 4 zd_MO_skip_74 (by decide) ?_
              refine zw_lpick (lv' := [(0, .ref h), (1, .int (zI (z))), (2, .int (zI (q + 1))), (3, .int (zI (0)))]) [2, 3, 0, 1] rfl ?_
              refine zw_widen (k' := 0) (n' := 0) (by omega) (by omega) ?_
              refine ih (q + 1) (0) ⟨by omega, ?_⟩ (by omega)
              rcases g3 with ⟨gc, gk, ge⟩ | ⟨gc, gk, ge⟩
              · -- a line end, outside
                have hbl : sBlank (bget t q) = true := decide_eq_true (by omega)
                obtain ⟨k2, rfl, e2⟩ := skE_in (k := k) (p := q) (by omega) gk (by unfold lvOut; rw [if_pos hbl])
                rw [show lvPos t q = q + 1 by unfold lvPos; rw [if_pos hbl]] at e2
                exact ⟨k2, Or.inl ⟨rfl, by omega, by rw [← e2]; exact ge⟩⟩
              · -- a line end of a comment
                have hbl : sBlank (bget t q) = true := decide_eq_true (by omega)
                have e3 : scanE (fun b => !sLine b) t q = q := scanE_stop (by omega) (fun q1 => by have q2 : (!sLine (bget t q)) = true := q1.2; rw [show sLine (bget t q) = true from decide_eq_true (by omega)] at q2; exact absurd q2 (by decide))
                rw [e3] at gk ge
                obtain ⟨k2, rfl, e2⟩ := skE_in (k := k) (p := q) (by omega) gk (by unfold lvOut; rw [if_pos hbl])
                rw [show lvPos t q = q + 1 by unfold lvPos; rw [if_pos hbl]] at e2
                exact ⟨k2, Or.inl ⟨rfl, by omega, by rw [← e2]; exact ge⟩⟩
            · -- 56 -> 59
              refine zw_aload_n 1 rfl zd_MO_skip_59 ?_
              refine zw_iload_n 3 rfl zd_MO_skip_60 ?_
              refine zw_callV (As := [.int (zI (q))]) (rest := []) (L2 := []) (L' := [zMOd h (t) (ws) (ts) (pd) (op) (y) (r) (ct) (wh) (fd) (fr)]) (stk' := [.int (zI (bget t q))]) (c_MO_byteAt h t ws ts pd op y r ct wh fd fr q (by omega)) [0] [] rfl rfl rfl zcal_MO_byteAt zl_MO_51 zin_MO_byteAt zse_MO_byteAt 0 rfl zRv_MOd rfl (Nat.le_of_ble_eq_true rfl) (Nat.le_of_ble_eq_true rfl) (by omega) (by omega) rfl (Nat.le_of_ble_eq_true rfl) rfl rfl zd_MO_skip_61 ?_
              have rg61 := bget_rg hby q
              refine zw_bipush rfl zd_MO_skip_64 ?_
              refine zw_icmp_ne 71 (by omega) (by omega) zd_MO_skip_66 (by decide) (fun c66 => ?_) (fun c66 => ?_)
              · -- 66 -> 71
                refine zw_iinc (lv' := [(2, .int (zI (q + 1))), (3, .int (zI (1))), (0, .ref h), (1, .int (zI (z)))]) 3 rfl (Nat.le_of_ble_eq_true rfl) rfl zd_MO_skip_71 ?_
                refine zw_goto 4 zd_MO_skip_74 (by decide) ?_
                refine zw_lpick (lv' := [(0, .ref h), (1, .int (zI (z))), (2, .int (zI (q + 1))), (3, .int (zI (1)))]) [2, 3, 0, 1] rfl ?_
                refine zw_widen (k' := 0) (n' := 0) (by omega) (by omega) ?_
                refine ih (q + 1) (1) ⟨by omega, ?_⟩ (by omega)
                rcases g3 with ⟨gc, gk, ge⟩ | ⟨gc, gk, ge⟩
                · -- begins
                  obtain ⟨k2, rfl, e2⟩ := skE_in (k := k) (p := q) (by omega) gk (by unfold lvOut; rw [if_neg (by rw [show sBlank (bget t q) = false from decide_eq_false (by omega)]; decide), if_pos (by omega)])
                  have e3 : lvPos t q = scanE (fun b => !sLine b) t (q + 1) := by unfold lvPos; rw [if_neg (by rw [show sBlank (bget t q) = false from decide_eq_false (by omega)]; decide), if_pos (by omega)]; exact scanE_step (by omega) (by omega) (by rw [show bget t q = 37 by omega]; decide)
                  have e4 := (scanE_spec (f := (fun b => !sLine b)) (t := t) (p := q + 1) (by omega)).1
                  exact ⟨k2, Or.inr ⟨rfl, by omega, by rw [← e3, ← e2]; exact ge⟩⟩
                · -- goes on
                  have e3 : scanE (fun b => !sLine b) t q = scanE (fun b => !sLine b) t (q + 1) := scanE_step (by omega) (by omega) (by rw [show bget t q = 37 by omega]; decide)
                  exact ⟨k, Or.inr ⟨rfl, by rw [← e3]; exact gk, by rw [← e3]; exact ge⟩⟩
              · -- 66 -> 69
                refine zw_iconst zd_MO_skip_69 ?_
                refine zw_istore_n (lv' := [(3, .int (zI (0))), (0, .ref h), (1, .int (zI (z))), (2, .int (zI (q)))]) (Nat.le_of_ble_eq_true rfl) rfl zd_MO_skip_70 ?_
                refine zw_iinc (lv' := [(2, .int (zI (q + 1))), (3, .int (zI (0))), (0, .ref h), (1, .int (zI (z)))]) 3 rfl (Nat.le_of_ble_eq_true rfl) rfl zd_MO_skip_71 ?_
                refine zw_goto 4 zd_MO_skip_74 (by decide) ?_
                refine zw_lpick (lv' := [(0, .ref h), (1, .int (zI (z))), (2, .int (zI (q + 1))), (3, .int (zI (0)))]) [2, 3, 0, 1] rfl ?_
                refine zw_widen (k' := 0) (n' := 0) (by omega) (by omega) ?_
                refine ih (q + 1) (0) ⟨by omega, ?_⟩ (by omega)
                rcases g3 with ⟨gc, gk, ge⟩ | ⟨gc, gk, ge⟩
                · -- a line end, outside
                  have hbl : sBlank (bget t q) = true := decide_eq_true (by omega)
                  obtain ⟨k2, rfl, e2⟩ := skE_in (k := k) (p := q) (by omega) gk (by unfold lvOut; rw [if_pos hbl])
                  rw [show lvPos t q = q + 1 by unfold lvPos; rw [if_pos hbl]] at e2
                  exact ⟨k2, Or.inl ⟨rfl, by omega, by rw [← e2]; exact ge⟩⟩
                · -- a line end of a comment
                  have hbl : sBlank (bget t q) = true := decide_eq_true (by omega)
                  have e3 : scanE (fun b => !sLine b) t q = q := scanE_stop (by omega) (fun q1 => by have q2 : (!sLine (bget t q)) = true := q1.2; rw [show sLine (bget t q) = true from decide_eq_true (by omega)] at q2; exact absurd q2 (by decide))
                  rw [e3] at gk ge
                  obtain ⟨k2, rfl, e2⟩ := skE_in (k := k) (p := q) (by omega) gk (by unfold lvOut; rw [if_pos hbl])
                  rw [show lvPos t q = q + 1 by unfold lvPos; rw [if_pos hbl]] at e2
                  exact ⟨k2, Or.inl ⟨rfl, by omega, by rw [← e2]; exact ge⟩⟩
        · -- 13 -> 16
          refine zw_aload_n 0 rfl zd_MO_skip_16 ?_
          refine zw_iload_n 2 rfl zd_MO_skip_17 ?_
          refine zw_callV (As := [.int (zI (q))]) (rest := []) (L2 := []) (L' := [zMOd h (t) (ws) (ts) (pd) (op) (y) (r) (ct) (wh) (fd) (fr)]) (stk' := [.int (zI (bget t q))]) (c_MO_byteAt h t ws ts pd op y r ct wh fd fr q (by omega)) [0] [] rfl rfl rfl zcal_MO_byteAt zl_MO_51 zin_MO_byteAt zse_MO_byteAt 0 rfl zRv_MOd rfl (Nat.le_of_ble_eq_true rfl) (Nat.le_of_ble_eq_true rfl) (by omega) (by omega) rfl (Nat.le_of_ble_eq_true rfl) rfl rfl zd_MO_skip_18 ?_
          have rg18 := bget_rg hby q
          refine zw_callS (a := 0) (As := [.int (zI (bget t q))]) (rest := []) (L2 := [zMOd h (t) (ws) (ts) (pd) (op) (y) (r) (ct) (wh) (fd) (fr)]) (L' := [zMOd h (t) (ws) (ts) (pd) (op) (y) (r) (ct) (wh) (fd) (fr)]) (stk' := [.int (zI (bI (sBlank (bget t q))))]) (c_MO_isBlank (bget t q) (by omega)) [] [0] rfl rfl rfl zcal_MO_isBlank zl_MO_44 zst_MO_isBlank (Nat.le_of_ble_eq_true rfl) (Nat.le_of_ble_eq_true rfl) (by omega) (by omega) rfl (Nat.le_of_ble_eq_true rfl) rfl rfl zd_MO_skip_21 ?_
          have rb21 := bI_rg (sBlank (bget t q))
          refine zw_if_ne 37 (by omega) zd_MO_skip_24 (by decide) (fun c24 => ?_) (fun c24 => ?_)
          · -- 24 -> 37
            refine zw_aload_n 0 rfl zd_MO_skip_37 ?_
            refine zw_iload_n 2 rfl zd_MO_skip_38 ?_
            refine zw_callV (As := [.int (zI (q))]) (rest := []) (L2 := []) (L' := [zMOd h (t) (ws) (ts) (pd) (op) (y) (r) (ct) (wh) (fd) (fr)]) (stk' := [.int (zI (bget t q))]) (c_MO_byteAt h t ws ts pd op y r ct wh fd fr q (by omega)) [0] [] rfl rfl rfl zcal_MO_byteAt zl_MO_51 zin_MO_byteAt zse_MO_byteAt 0 rfl zRv_MOd rfl (Nat.le_of_ble_eq_true rfl) (Nat.le_of_ble_eq_true rfl) (by omega) (by omega) rfl (Nat.le_of_ble_eq_true rfl) rfl rfl zd_MO_skip_39 ?_
            have rg39 := bget_rg hby q
            refine zw_bipush rfl zd_MO_skip_42 ?_
            refine zw_icmp_ne 49 (by omega) (by omega) zd_MO_skip_44 (by decide) (fun c44 => ?_) (fun c44 => ?_)
            · -- 44 -> 49
              refine zw_aload_n 0 rfl zd_MO_skip_49 ?_
              refine zw_iload_n 2 rfl zd_MO_skip_50 ?_
              refine zw_callV (As := [.int (zI (q))]) (rest := []) (L2 := []) (L' := [zMOd h (t) (ws) (ts) (pd) (op) (y) (r) (ct) (wh) (fd) (fr)]) (stk' := [.int (zI (bget t q))]) (c_MO_byteAt h t ws ts pd op y r ct wh fd fr q (by omega)) [0] [] rfl rfl rfl zcal_MO_byteAt zl_MO_51 zin_MO_byteAt zse_MO_byteAt 0 rfl zRv_MOd rfl (Nat.le_of_ble_eq_true rfl) (Nat.le_of_ble_eq_true rfl) (by omega) (by omega) rfl (Nat.le_of_ble_eq_true rfl) rfl rfl zd_MO_skip_51 ?_
              have rg51 := bget_rg hby q
              refine zw_bipush rfl zd_MO_skip_54 ?_
              refine zw_icmp_eq 69 (by omega) (by omega) zd_MO_skip_56 (by decide) (fun c56 => ?_) (fun c56 => ?_)
              · -- 56 -> 69
                refine zw_iconst zd_MO_skip_69 ?_
                refine zw_istore_n (lv' := [(3, .int (zI (0))), (0, .ref h), (1, .int (zI (z))), (2, .int (zI (q)))]) (Nat.le_of_ble_eq_true rfl) rfl zd_MO_skip_70 ?_
                refine zw_iinc (lv' := [(2, .int (zI (q + 1))), (3, .int (zI (0))), (0, .ref h), (1, .int (zI (z)))]) 3 rfl (Nat.le_of_ble_eq_true rfl) rfl zd_MO_skip_71 ?_
                refine zw_goto 4 zd_MO_skip_74 (by decide) ?_
                refine zw_lpick (lv' := [(0, .ref h), (1, .int (zI (z))), (2, .int (zI (q + 1))), (3, .int (zI (0)))]) [2, 3, 0, 1] rfl ?_
                refine zw_widen (k' := 0) (n' := 0) (by omega) (by omega) ?_
                refine ih (q + 1) (0) ⟨by omega, ?_⟩ (by omega)
                rcases g3 with ⟨gc, gk, ge⟩ | ⟨gc, gk, ge⟩
                · -- a line end, outside
                  have hbl : sBlank (bget t q) = true := decide_eq_true (by omega)
                  obtain ⟨k2, rfl, e2⟩ := skE_in (k := k) (p := q) (by omega) gk (by unfold lvOut; rw [if_pos hbl])
                  rw [show lvPos t q = q + 1 by unfold lvPos; rw [if_pos hbl]] at e2
                  exact ⟨k2, Or.inl ⟨rfl, by omega, by rw [← e2]; exact ge⟩⟩
                · -- a line end of a comment
                  have hbl : sBlank (bget t q) = true := decide_eq_true (by omega)
                  have e3 : scanE (fun b => !sLine b) t q = q := scanE_stop (by omega) (fun q1 => by have q2 : (!sLine (bget t q)) = true := q1.2; rw [show sLine (bget t q) = true from decide_eq_true (by omega)] at q2; exact absurd q2 (by decide))
                  rw [e3] at gk ge
                  obtain ⟨k2, rfl, e2⟩ := skE_in (k := k) (p := q) (by omega) gk (by unfold lvOut; rw [if_pos hbl])
                  rw [show lvPos t q = q + 1 by unfold lvPos; rw [if_pos hbl]] at e2
                  exact ⟨k2, Or.inl ⟨rfl, by omega, by rw [← e2]; exact ge⟩⟩
              · -- 56 -> 59
                refine zw_aload_n 0 rfl zd_MO_skip_59 ?_
                refine zw_iload_n 2 rfl zd_MO_skip_60 ?_
                refine zw_callV (As := [.int (zI (q))]) (rest := []) (L2 := []) (L' := [zMOd h (t) (ws) (ts) (pd) (op) (y) (r) (ct) (wh) (fd) (fr)]) (stk' := [.int (zI (bget t q))]) (c_MO_byteAt h t ws ts pd op y r ct wh fd fr q (by omega)) [0] [] rfl rfl rfl zcal_MO_byteAt zl_MO_51 zin_MO_byteAt zse_MO_byteAt 0 rfl zRv_MOd rfl (Nat.le_of_ble_eq_true rfl) (Nat.le_of_ble_eq_true rfl) (by omega) (by omega) rfl (Nat.le_of_ble_eq_true rfl) rfl rfl zd_MO_skip_61 ?_
                have rg61 := bget_rg hby q
                refine zw_bipush rfl zd_MO_skip_64 ?_
                refine zw_icmp_ne 71 (by omega) (by omega) zd_MO_skip_66 (by decide) (fun c66 => ?_) (fun c66 => ?_)
                · -- 66 -> 71
                  refine zw_iinc (lv' := [(2, .int (zI (q + 1))), (0, .ref h), (1, .int (zI (z))), (3, .int (zI (c)))]) 2 rfl (Nat.le_of_ble_eq_true rfl) rfl zd_MO_skip_71 ?_
                  refine zw_goto 4 zd_MO_skip_74 (by decide) ?_
                  refine zw_lpick (lv' := [(0, .ref h), (1, .int (zI (z))), (2, .int (zI (q + 1))), (3, .int (zI (c)))]) [1, 2, 0, 3] rfl ?_
                  refine zw_widen (k' := 0) (n' := 0) (by omega) (by omega) ?_
                  refine ih (q + 1) (c) ⟨by omega, ?_⟩ (by omega)
                  rcases g3 with ⟨gc, gk, ge⟩ | ⟨gc, gk, ge⟩
                  · -- a blank
                    first
                    | (exfalso; omega)
                    | (have hbl : sBlank (bget t q) = true := zbI1 (b := sBlank (bget t q)) (by omega)
                       obtain ⟨k2, rfl, e2⟩ := skE_in (k := k) (p := q) (by omega) gk (by unfold lvOut; rw [if_pos hbl])
                       rw [show lvPos t q = q + 1 by unfold lvPos; rw [if_pos hbl]] at e2
                       exact ⟨k2, Or.inl ⟨gc, by omega, by rw [← e2]; exact ge⟩⟩)
                  · -- of a comment
                    first
                    | (exfalso; omega)
                    | (have e3 : scanE (fun b => !sLine b) t q = scanE (fun b => !sLine b) t (q + 1) := scanE_step (by omega) (by omega) (by show (!sLine (bget t q)) = true; rw [show sLine (bget t q) = false from decide_eq_false (by omega)]; rfl)
                       exact ⟨k, Or.inr ⟨gc, by rw [← e3]; exact gk, by rw [← e3]; exact ge⟩⟩)
                · -- 66 -> 69
                  refine zw_iconst zd_MO_skip_69 ?_
                  refine zw_istore_n (lv' := [(3, .int (zI (0))), (0, .ref h), (1, .int (zI (z))), (2, .int (zI (q)))]) (Nat.le_of_ble_eq_true rfl) rfl zd_MO_skip_70 ?_
                  refine zw_iinc (lv' := [(2, .int (zI (q + 1))), (3, .int (zI (0))), (0, .ref h), (1, .int (zI (z)))]) 3 rfl (Nat.le_of_ble_eq_true rfl) rfl zd_MO_skip_71 ?_
                  refine zw_goto 4 zd_MO_skip_74 (by decide) ?_
                  refine zw_lpick (lv' := [(0, .ref h), (1, .int (zI (z))), (2, .int (zI (q + 1))), (3, .int (zI (0)))]) [2, 3, 0, 1] rfl ?_
                  refine zw_widen (k' := 0) (n' := 0) (by omega) (by omega) ?_
                  refine ih (q + 1) (0) ⟨by omega, ?_⟩ (by omega)
                  rcases g3 with ⟨gc, gk, ge⟩ | ⟨gc, gk, ge⟩
                  · -- a line end, outside
                    have hbl : sBlank (bget t q) = true := decide_eq_true (by omega)
                    obtain ⟨k2, rfl, e2⟩ := skE_in (k := k) (p := q) (by omega) gk (by unfold lvOut; rw [if_pos hbl])
                    rw [show lvPos t q = q + 1 by unfold lvPos; rw [if_pos hbl]] at e2
                    exact ⟨k2, Or.inl ⟨rfl, by omega, by rw [← e2]; exact ge⟩⟩
                  · -- a line end of a comment
                    have hbl : sBlank (bget t q) = true := decide_eq_true (by omega)
                    have e3 : scanE (fun b => !sLine b) t q = q := scanE_stop (by omega) (fun q1 => by have q2 : (!sLine (bget t q)) = true := q1.2; rw [show sLine (bget t q) = true from decide_eq_true (by omega)] at q2; exact absurd q2 (by decide))
                    rw [e3] at gk ge
                    obtain ⟨k2, rfl, e2⟩ := skE_in (k := k) (p := q) (by omega) gk (by unfold lvOut; rw [if_pos hbl])
                    rw [show lvPos t q = q + 1 by unfold lvPos; rw [if_pos hbl]] at e2
                    exact ⟨k2, Or.inl ⟨rfl, by omega, by rw [← e2]; exact ge⟩⟩
            · -- 44 -> 47
              refine zw_iconst zd_MO_skip_47 ?_
              refine zw_istore_n (lv' := [(3, .int (zI (1))), (0, .ref h), (1, .int (zI (z))), (2, .int (zI (q)))]) (Nat.le_of_ble_eq_true rfl) rfl zd_MO_skip_48 ?_
              refine zw_aload_n 1 rfl zd_MO_skip_49 ?_
              refine zw_iload_n 3 rfl zd_MO_skip_50 ?_
              refine zw_callV (As := [.int (zI (q))]) (rest := []) (L2 := []) (L' := [zMOd h (t) (ws) (ts) (pd) (op) (y) (r) (ct) (wh) (fd) (fr)]) (stk' := [.int (zI (bget t q))]) (c_MO_byteAt h t ws ts pd op y r ct wh fd fr q (by omega)) [0] [] rfl rfl rfl zcal_MO_byteAt zl_MO_51 zin_MO_byteAt zse_MO_byteAt 0 rfl zRv_MOd rfl (Nat.le_of_ble_eq_true rfl) (Nat.le_of_ble_eq_true rfl) (by omega) (by omega) rfl (Nat.le_of_ble_eq_true rfl) rfl rfl zd_MO_skip_51 ?_
              have rg51 := bget_rg hby q
              refine zw_bipush rfl zd_MO_skip_54 ?_
              refine zw_icmp_eq 69 (by omega) (by omega) zd_MO_skip_56 (by decide) (fun c56 => ?_) (fun c56 => ?_)
              · -- 56 -> 69
                refine zw_iconst zd_MO_skip_69 ?_
                refine zw_istore_n (lv' := [(3, .int (zI (0))), (0, .ref h), (1, .int (zI (z))), (2, .int (zI (q)))]) (Nat.le_of_ble_eq_true rfl) rfl zd_MO_skip_70 ?_
                refine zw_iinc (lv' := [(2, .int (zI (q + 1))), (3, .int (zI (0))), (0, .ref h), (1, .int (zI (z)))]) 3 rfl (Nat.le_of_ble_eq_true rfl) rfl zd_MO_skip_71 ?_
                refine zw_goto 4 zd_MO_skip_74 (by decide) ?_
                refine zw_lpick (lv' := [(0, .ref h), (1, .int (zI (z))), (2, .int (zI (q + 1))), (3, .int (zI (0)))]) [2, 3, 0, 1] rfl ?_
                refine zw_widen (k' := 0) (n' := 0) (by omega) (by omega) ?_
                refine ih (q + 1) (0) ⟨by omega, ?_⟩ (by omega)
                rcases g3 with ⟨gc, gk, ge⟩ | ⟨gc, gk, ge⟩
                · -- a line end, outside
                  have hbl : sBlank (bget t q) = true := decide_eq_true (by omega)
                  obtain ⟨k2, rfl, e2⟩ := skE_in (k := k) (p := q) (by omega) gk (by unfold lvOut; rw [if_pos hbl])
                  rw [show lvPos t q = q + 1 by unfold lvPos; rw [if_pos hbl]] at e2
                  exact ⟨k2, Or.inl ⟨rfl, by omega, by rw [← e2]; exact ge⟩⟩
                · -- a line end of a comment
                  have hbl : sBlank (bget t q) = true := decide_eq_true (by omega)
                  have e3 : scanE (fun b => !sLine b) t q = q := scanE_stop (by omega) (fun q1 => by have q2 : (!sLine (bget t q)) = true := q1.2; rw [show sLine (bget t q) = true from decide_eq_true (by omega)] at q2; exact absurd q2 (by decide))
                  rw [e3] at gk ge
                  obtain ⟨k2, rfl, e2⟩ := skE_in (k := k) (p := q) (by omega) gk (by unfold lvOut; rw [if_pos hbl])
                  rw [show lvPos t q = q + 1 by unfold lvPos; rw [if_pos hbl]] at e2
                  exact ⟨k2, Or.inl ⟨rfl, by omega, by rw [← e2]; exact ge⟩⟩
              · -- 56 -> 59
                refine zw_aload_n 1 rfl zd_MO_skip_59 ?_
                refine zw_iload_n 3 rfl zd_MO_skip_60 ?_
                refine zw_callV (As := [.int (zI (q))]) (rest := []) (L2 := []) (L' := [zMOd h (t) (ws) (ts) (pd) (op) (y) (r) (ct) (wh) (fd) (fr)]) (stk' := [.int (zI (bget t q))]) (c_MO_byteAt h t ws ts pd op y r ct wh fd fr q (by omega)) [0] [] rfl rfl rfl zcal_MO_byteAt zl_MO_51 zin_MO_byteAt zse_MO_byteAt 0 rfl zRv_MOd rfl (Nat.le_of_ble_eq_true rfl) (Nat.le_of_ble_eq_true rfl) (by omega) (by omega) rfl (Nat.le_of_ble_eq_true rfl) rfl rfl zd_MO_skip_61 ?_
                have rg61 := bget_rg hby q
                refine zw_bipush rfl zd_MO_skip_64 ?_
                refine zw_icmp_ne 71 (by omega) (by omega) zd_MO_skip_66 (by decide) (fun c66 => ?_) (fun c66 => ?_)
                · -- 66 -> 71
                  refine zw_iinc (lv' := [(2, .int (zI (q + 1))), (3, .int (zI (1))), (0, .ref h), (1, .int (zI (z)))]) 3 rfl (Nat.le_of_ble_eq_true rfl) rfl zd_MO_skip_71 ?_
                  refine zw_goto 4 zd_MO_skip_74 (by decide) ?_
                  refine zw_lpick (lv' := [(0, .ref h), (1, .int (zI (z))), (2, .int (zI (q + 1))), (3, .int (zI (1)))]) [2, 3, 0, 1] rfl ?_
                  refine zw_widen (k' := 0) (n' := 0) (by omega) (by omega) ?_
                  refine ih (q + 1) (1) ⟨by omega, ?_⟩ (by omega)
                  rcases g3 with ⟨gc, gk, ge⟩ | ⟨gc, gk, ge⟩
                  · -- begins
                    obtain ⟨k2, rfl, e2⟩ := skE_in (k := k) (p := q) (by omega) gk (by unfold lvOut; rw [if_neg (by rw [show sBlank (bget t q) = false from decide_eq_false (by omega)]; decide), if_pos (by omega)])
                    have e3 : lvPos t q = scanE (fun b => !sLine b) t (q + 1) := by unfold lvPos; rw [if_neg (by rw [show sBlank (bget t q) = false from decide_eq_false (by omega)]; decide), if_pos (by omega)]; exact scanE_step (by omega) (by omega) (by rw [show bget t q = 37 by omega]; decide)
                    have e4 := (scanE_spec (f := (fun b => !sLine b)) (t := t) (p := q + 1) (by omega)).1
                    exact ⟨k2, Or.inr ⟨rfl, by omega, by rw [← e3, ← e2]; exact ge⟩⟩
                  · -- goes on
                    have e3 : scanE (fun b => !sLine b) t q = scanE (fun b => !sLine b) t (q + 1) := scanE_step (by omega) (by omega) (by rw [show bget t q = 37 by omega]; decide)
                    exact ⟨k, Or.inr ⟨rfl, by rw [← e3]; exact gk, by rw [← e3]; exact ge⟩⟩
                · -- 66 -> 69
                  refine zw_iconst zd_MO_skip_69 ?_
                  refine zw_istore_n (lv' := [(3, .int (zI (0))), (0, .ref h), (1, .int (zI (z))), (2, .int (zI (q)))]) (Nat.le_of_ble_eq_true rfl) rfl zd_MO_skip_70 ?_
                  refine zw_iinc (lv' := [(2, .int (zI (q + 1))), (3, .int (zI (0))), (0, .ref h), (1, .int (zI (z)))]) 3 rfl (Nat.le_of_ble_eq_true rfl) rfl zd_MO_skip_71 ?_
                  refine zw_goto 4 zd_MO_skip_74 (by decide) ?_
                  refine zw_lpick (lv' := [(0, .ref h), (1, .int (zI (z))), (2, .int (zI (q + 1))), (3, .int (zI (0)))]) [2, 3, 0, 1] rfl ?_
                  refine zw_widen (k' := 0) (n' := 0) (by omega) (by omega) ?_
                  refine ih (q + 1) (0) ⟨by omega, ?_⟩ (by omega)
                  rcases g3 with ⟨gc, gk, ge⟩ | ⟨gc, gk, ge⟩
                  · -- a line end, outside
                    have hbl : sBlank (bget t q) = true := decide_eq_true (by omega)
                    obtain ⟨k2, rfl, e2⟩ := skE_in (k := k) (p := q) (by omega) gk (by unfold lvOut; rw [if_pos hbl])
                    rw [show lvPos t q = q + 1 by unfold lvPos; rw [if_pos hbl]] at e2
                    exact ⟨k2, Or.inl ⟨rfl, by omega, by rw [← e2]; exact ge⟩⟩
                  · -- a line end of a comment
                    have hbl : sBlank (bget t q) = true := decide_eq_true (by omega)
                    have e3 : scanE (fun b => !sLine b) t q = q := scanE_stop (by omega) (fun q1 => by have q2 : (!sLine (bget t q)) = true := q1.2; rw [show sLine (bget t q) = true from decide_eq_true (by omega)] at q2; exact absurd q2 (by decide))
                    rw [e3] at gk ge
                    obtain ⟨k2, rfl, e2⟩ := skE_in (k := k) (p := q) (by omega) gk (by unfold lvOut; rw [if_pos hbl])
                    rw [show lvPos t q = q + 1 by unfold lvPos; rw [if_pos hbl]] at e2
                    exact ⟨k2, Or.inl ⟨rfl, by omega, by rw [← e2]; exact ge⟩⟩
          · -- 24 -> 27
            refine zw_aload_n 0 rfl zd_MO_skip_27 ?_
            refine zw_iload_n 2 rfl zd_MO_skip_28 ?_
            refine zw_callV (As := [.int (zI (q))]) (rest := []) (L2 := []) (L' := [zMOd h (t) (ws) (ts) (pd) (op) (y) (r) (ct) (wh) (fd) (fr)]) (stk' := [.int (zI (bget t q))]) (c_MO_byteAt h t ws ts pd op y r ct wh fd fr q (by omega)) [0] [] rfl rfl rfl zcal_MO_byteAt zl_MO_51 zin_MO_byteAt zse_MO_byteAt 0 rfl zRv_MOd rfl (Nat.le_of_ble_eq_true rfl) (Nat.le_of_ble_eq_true rfl) (by omega) (by omega) rfl (Nat.le_of_ble_eq_true rfl) rfl rfl zd_MO_skip_29 ?_
            have rg29 := bget_rg hby q
            refine zw_bipush rfl zd_MO_skip_32 ?_
            refine zw_icmp_ne 77 (by omega) (by omega) zd_MO_skip_34 (by decide) (fun c34 => ?_) (fun c34 => ?_)
            · -- 34 -> 77
              refine zw_iload_n 2 rfl zd_MO_skip_77 ?_
              have eR : skE t t.length z = q := by
                rcases g3 with ⟨gc, gk, ge⟩ | ⟨gc, gk, ge⟩
                · rw [← ge]; exact skE_out (fun q1 => by have q3 := q1.2; unfold lvOut at q3; first | omega | (rw [if_neg (by rw [zbI0 (b := sBlank (bget t q)) (by omega)]; decide), if_neg (by omega)] at q3; omega))
                · rw [scanE_stop (by omega) (fun q1 => by omega)] at ge; rw [← ge]; exact skE_out (fun q1 => by omega)
              exact zw_iret hR (by rw [eR]) (rfl) rfl (by omega) (by omega) zd_MO_skip_78
            · -- 34 -> 37
              refine zw_aload_n 0 rfl zd_MO_skip_37 ?_
              refine zw_iload_n 2 rfl zd_MO_skip_38 ?_
              refine zw_callV (As := [.int (zI (q))]) (rest := []) (L2 := []) (L' := [zMOd h (t) (ws) (ts) (pd) (op) (y) (r) (ct) (wh) (fd) (fr)]) (stk' := [.int (zI (bget t q))]) (c_MO_byteAt h t ws ts pd op y r ct wh fd fr q (by omega)) [0] [] rfl rfl rfl zcal_MO_byteAt zl_MO_51 zin_MO_byteAt zse_MO_byteAt 0 rfl zRv_MOd rfl (Nat.le_of_ble_eq_true rfl) (Nat.le_of_ble_eq_true rfl) (by omega) (by omega) rfl (Nat.le_of_ble_eq_true rfl) rfl rfl zd_MO_skip_39 ?_
              have rg39 := bget_rg hby q
              refine zw_bipush rfl zd_MO_skip_42 ?_
              refine zw_icmp_ne 49 (by omega) (by omega) zd_MO_skip_44 (by decide) (fun c44 => ?_) (fun c44 => ?_)
              · -- 44 -> 49
                refine zw_aload_n 0 rfl zd_MO_skip_49 ?_
                refine zw_iload_n 2 rfl zd_MO_skip_50 ?_
                refine zw_callV (As := [.int (zI (q))]) (rest := []) (L2 := []) (L' := [zMOd h (t) (ws) (ts) (pd) (op) (y) (r) (ct) (wh) (fd) (fr)]) (stk' := [.int (zI (bget t q))]) (c_MO_byteAt h t ws ts pd op y r ct wh fd fr q (by omega)) [0] [] rfl rfl rfl zcal_MO_byteAt zl_MO_51 zin_MO_byteAt zse_MO_byteAt 0 rfl zRv_MOd rfl (Nat.le_of_ble_eq_true rfl) (Nat.le_of_ble_eq_true rfl) (by omega) (by omega) rfl (Nat.le_of_ble_eq_true rfl) rfl rfl zd_MO_skip_51 ?_
                have rg51 := bget_rg hby q
                refine zw_bipush rfl zd_MO_skip_54 ?_
                refine zw_icmp_eq 69 (by omega) (by omega) zd_MO_skip_56 (by decide) (fun c56 => ?_) (fun c56 => ?_)
                · -- 56 -> 69
                  refine zw_iconst zd_MO_skip_69 ?_
                  refine zw_istore_n (lv' := [(3, .int (zI (0))), (0, .ref h), (1, .int (zI (z))), (2, .int (zI (q)))]) (Nat.le_of_ble_eq_true rfl) rfl zd_MO_skip_70 ?_
                  refine zw_iinc (lv' := [(2, .int (zI (q + 1))), (3, .int (zI (0))), (0, .ref h), (1, .int (zI (z)))]) 3 rfl (Nat.le_of_ble_eq_true rfl) rfl zd_MO_skip_71 ?_
                  refine zw_goto 4 zd_MO_skip_74 (by decide) ?_
                  refine zw_lpick (lv' := [(0, .ref h), (1, .int (zI (z))), (2, .int (zI (q + 1))), (3, .int (zI (0)))]) [2, 3, 0, 1] rfl ?_
                  refine zw_widen (k' := 0) (n' := 0) (by omega) (by omega) ?_
                  refine ih (q + 1) (0) ⟨by omega, ?_⟩ (by omega)
                  rcases g3 with ⟨gc, gk, ge⟩ | ⟨gc, gk, ge⟩
                  · -- a line end, outside
                    have hbl : sBlank (bget t q) = true := decide_eq_true (by omega)
                    obtain ⟨k2, rfl, e2⟩ := skE_in (k := k) (p := q) (by omega) gk (by unfold lvOut; rw [if_pos hbl])
                    rw [show lvPos t q = q + 1 by unfold lvPos; rw [if_pos hbl]] at e2
                    exact ⟨k2, Or.inl ⟨rfl, by omega, by rw [← e2]; exact ge⟩⟩
                  · -- a line end of a comment
                    have hbl : sBlank (bget t q) = true := decide_eq_true (by omega)
                    have e3 : scanE (fun b => !sLine b) t q = q := scanE_stop (by omega) (fun q1 => by have q2 : (!sLine (bget t q)) = true := q1.2; rw [show sLine (bget t q) = true from decide_eq_true (by omega)] at q2; exact absurd q2 (by decide))
                    rw [e3] at gk ge
                    obtain ⟨k2, rfl, e2⟩ := skE_in (k := k) (p := q) (by omega) gk (by unfold lvOut; rw [if_pos hbl])
                    rw [show lvPos t q = q + 1 by unfold lvPos; rw [if_pos hbl]] at e2
                    exact ⟨k2, Or.inl ⟨rfl, by omega, by rw [← e2]; exact ge⟩⟩
                · -- 56 -> 59
                  refine zw_aload_n 0 rfl zd_MO_skip_59 ?_
                  refine zw_iload_n 2 rfl zd_MO_skip_60 ?_
                  refine zw_callV (As := [.int (zI (q))]) (rest := []) (L2 := []) (L' := [zMOd h (t) (ws) (ts) (pd) (op) (y) (r) (ct) (wh) (fd) (fr)]) (stk' := [.int (zI (bget t q))]) (c_MO_byteAt h t ws ts pd op y r ct wh fd fr q (by omega)) [0] [] rfl rfl rfl zcal_MO_byteAt zl_MO_51 zin_MO_byteAt zse_MO_byteAt 0 rfl zRv_MOd rfl (Nat.le_of_ble_eq_true rfl) (Nat.le_of_ble_eq_true rfl) (by omega) (by omega) rfl (Nat.le_of_ble_eq_true rfl) rfl rfl zd_MO_skip_61 ?_
                  have rg61 := bget_rg hby q
                  refine zw_bipush rfl zd_MO_skip_64 ?_
                  refine zw_icmp_ne 71 (by omega) (by omega) zd_MO_skip_66 (by decide) (fun c66 => ?_) (fun c66 => ?_)
                  · -- 66 -> 71
                    refine zw_iinc (lv' := [(2, .int (zI (q + 1))), (0, .ref h), (1, .int (zI (z))), (3, .int (zI (c)))]) 2 rfl (Nat.le_of_ble_eq_true rfl) rfl zd_MO_skip_71 ?_
                    refine zw_goto 4 zd_MO_skip_74 (by decide) ?_
                    refine zw_lpick (lv' := [(0, .ref h), (1, .int (zI (z))), (2, .int (zI (q + 1))), (3, .int (zI (c)))]) [1, 2, 0, 3] rfl ?_
                    refine zw_widen (k' := 0) (n' := 0) (by omega) (by omega) ?_
                    refine ih (q + 1) (c) ⟨by omega, ?_⟩ (by omega)
                    rcases g3 with ⟨gc, gk, ge⟩ | ⟨gc, gk, ge⟩
                    · -- a blank
                      first
                      | (exfalso; omega)
                      | (have hbl : sBlank (bget t q) = true := zbI1 (b := sBlank (bget t q)) (by omega)
                         obtain ⟨k2, rfl, e2⟩ := skE_in (k := k) (p := q) (by omega) gk (by unfold lvOut; rw [if_pos hbl])
                         rw [show lvPos t q = q + 1 by unfold lvPos; rw [if_pos hbl]] at e2
                         exact ⟨k2, Or.inl ⟨gc, by omega, by rw [← e2]; exact ge⟩⟩)
                    · -- of a comment
                      first
                      | (exfalso; omega)
                      | (have e3 : scanE (fun b => !sLine b) t q = scanE (fun b => !sLine b) t (q + 1) := scanE_step (by omega) (by omega) (by show (!sLine (bget t q)) = true; rw [show sLine (bget t q) = false from decide_eq_false (by omega)]; rfl)
                         exact ⟨k, Or.inr ⟨gc, by rw [← e3]; exact gk, by rw [← e3]; exact ge⟩⟩)
                  · -- 66 -> 69
                    refine zw_iconst zd_MO_skip_69 ?_
                    refine zw_istore_n (lv' := [(3, .int (zI (0))), (0, .ref h), (1, .int (zI (z))), (2, .int (zI (q)))]) (Nat.le_of_ble_eq_true rfl) rfl zd_MO_skip_70 ?_
                    refine zw_iinc (lv' := [(2, .int (zI (q + 1))), (3, .int (zI (0))), (0, .ref h), (1, .int (zI (z)))]) 3 rfl (Nat.le_of_ble_eq_true rfl) rfl zd_MO_skip_71 ?_
                    refine zw_goto 4 zd_MO_skip_74 (by decide) ?_
                    refine zw_lpick (lv' := [(0, .ref h), (1, .int (zI (z))), (2, .int (zI (q + 1))), (3, .int (zI (0)))]) [2, 3, 0, 1] rfl ?_
                    refine zw_widen (k' := 0) (n' := 0) (by omega) (by omega) ?_
                    refine ih (q + 1) (0) ⟨by omega, ?_⟩ (by omega)
                    rcases g3 with ⟨gc, gk, ge⟩ | ⟨gc, gk, ge⟩
                    · -- a line end, outside
                      have hbl : sBlank (bget t q) = true := decide_eq_true (by omega)
                      obtain ⟨k2, rfl, e2⟩ := skE_in (k := k) (p := q) (by omega) gk (by unfold lvOut; rw [if_pos hbl])
                      rw [show lvPos t q = q + 1 by unfold lvPos; rw [if_pos hbl]] at e2
                      exact ⟨k2, Or.inl ⟨rfl, by omega, by rw [← e2]; exact ge⟩⟩
                    · -- a line end of a comment
                      have hbl : sBlank (bget t q) = true := decide_eq_true (by omega)
                      have e3 : scanE (fun b => !sLine b) t q = q := scanE_stop (by omega) (fun q1 => by have q2 : (!sLine (bget t q)) = true := q1.2; rw [show sLine (bget t q) = true from decide_eq_true (by omega)] at q2; exact absurd q2 (by decide))
                      rw [e3] at gk ge
                      obtain ⟨k2, rfl, e2⟩ := skE_in (k := k) (p := q) (by omega) gk (by unfold lvOut; rw [if_pos hbl])
                      rw [show lvPos t q = q + 1 by unfold lvPos; rw [if_pos hbl]] at e2
                      exact ⟨k2, Or.inl ⟨rfl, by omega, by rw [← e2]; exact ge⟩⟩
              · -- 44 -> 47
                refine zw_iconst zd_MO_skip_47 ?_
                refine zw_istore_n (lv' := [(3, .int (zI (1))), (0, .ref h), (1, .int (zI (z))), (2, .int (zI (q)))]) (Nat.le_of_ble_eq_true rfl) rfl zd_MO_skip_48 ?_
                refine zw_aload_n 1 rfl zd_MO_skip_49 ?_
                refine zw_iload_n 3 rfl zd_MO_skip_50 ?_
                refine zw_callV (As := [.int (zI (q))]) (rest := []) (L2 := []) (L' := [zMOd h (t) (ws) (ts) (pd) (op) (y) (r) (ct) (wh) (fd) (fr)]) (stk' := [.int (zI (bget t q))]) (c_MO_byteAt h t ws ts pd op y r ct wh fd fr q (by omega)) [0] [] rfl rfl rfl zcal_MO_byteAt zl_MO_51 zin_MO_byteAt zse_MO_byteAt 0 rfl zRv_MOd rfl (Nat.le_of_ble_eq_true rfl) (Nat.le_of_ble_eq_true rfl) (by omega) (by omega) rfl (Nat.le_of_ble_eq_true rfl) rfl rfl zd_MO_skip_51 ?_
                have rg51 := bget_rg hby q
                refine zw_bipush rfl zd_MO_skip_54 ?_
                refine zw_icmp_eq 69 (by omega) (by omega) zd_MO_skip_56 (by decide) (fun c56 => ?_) (fun c56 => ?_)
                · -- 56 -> 69
                  refine zw_iconst zd_MO_skip_69 ?_
                  refine zw_istore_n (lv' := [(3, .int (zI (0))), (0, .ref h), (1, .int (zI (z))), (2, .int (zI (q)))]) (Nat.le_of_ble_eq_true rfl) rfl zd_MO_skip_70 ?_
                  refine zw_iinc (lv' := [(2, .int (zI (q + 1))), (3, .int (zI (0))), (0, .ref h), (1, .int (zI (z)))]) 3 rfl (Nat.le_of_ble_eq_true rfl) rfl zd_MO_skip_71 ?_
                  refine zw_goto 4 zd_MO_skip_74 (by decide) ?_
                  refine zw_lpick (lv' := [(0, .ref h), (1, .int (zI (z))), (2, .int (zI (q + 1))), (3, .int (zI (0)))]) [2, 3, 0, 1] rfl ?_
                  refine zw_widen (k' := 0) (n' := 0) (by omega) (by omega) ?_
                  refine ih (q + 1) (0) ⟨by omega, ?_⟩ (by omega)
                  rcases g3 with ⟨gc, gk, ge⟩ | ⟨gc, gk, ge⟩
                  · -- a line end, outside
                    have hbl : sBlank (bget t q) = true := decide_eq_true (by omega)
                    obtain ⟨k2, rfl, e2⟩ := skE_in (k := k) (p := q) (by omega) gk (by unfold lvOut; rw [if_pos hbl])
                    rw [show lvPos t q = q + 1 by unfold lvPos; rw [if_pos hbl]] at e2
                    exact ⟨k2, Or.inl ⟨rfl, by omega, by rw [← e2]; exact ge⟩⟩
                  · -- a line end of a comment
                    have hbl : sBlank (bget t q) = true := decide_eq_true (by omega)
                    have e3 : scanE (fun b => !sLine b) t q = q := scanE_stop (by omega) (fun q1 => by have q2 : (!sLine (bget t q)) = true := q1.2; rw [show sLine (bget t q) = true from decide_eq_true (by omega)] at q2; exact absurd q2 (by decide))
                    rw [e3] at gk ge
                    obtain ⟨k2, rfl, e2⟩ := skE_in (k := k) (p := q) (by omega) gk (by unfold lvOut; rw [if_pos hbl])
                    rw [show lvPos t q = q + 1 by unfold lvPos; rw [if_pos hbl]] at e2
                    exact ⟨k2, Or.inl ⟨rfl, by omega, by rw [← e2]; exact ge⟩⟩
                · -- 56 -> 59
                  refine zw_aload_n 1 rfl zd_MO_skip_59 ?_
                  refine zw_iload_n 3 rfl zd_MO_skip_60 ?_
                  refine zw_callV (As := [.int (zI (q))]) (rest := []) (L2 := []) (L' := [zMOd h (t) (ws) (ts) (pd) (op) (y) (r) (ct) (wh) (fd) (fr)]) (stk' := [.int (zI (bget t q))]) (c_MO_byteAt h t ws ts pd op y r ct wh fd fr q (by omega)) [0] [] rfl rfl rfl zcal_MO_byteAt zl_MO_51 zin_MO_byteAt zse_MO_byteAt 0 rfl zRv_MOd rfl (Nat.le_of_ble_eq_true rfl) (Nat.le_of_ble_eq_true rfl) (by omega) (by omega) rfl (Nat.le_of_ble_eq_true rfl) rfl rfl zd_MO_skip_61 ?_
                  have rg61 := bget_rg hby q
                  refine zw_bipush rfl zd_MO_skip_64 ?_
                  refine zw_icmp_ne 71 (by omega) (by omega) zd_MO_skip_66 (by decide) (fun c66 => ?_) (fun c66 => ?_)
                  · -- 66 -> 71
                    refine zw_iinc (lv' := [(2, .int (zI (q + 1))), (3, .int (zI (1))), (0, .ref h), (1, .int (zI (z)))]) 3 rfl (Nat.le_of_ble_eq_true rfl) rfl zd_MO_skip_71 ?_
                    refine zw_goto 4 zd_MO_skip_74 (by decide) ?_
                    refine zw_lpick (lv' := [(0, .ref h), (1, .int (zI (z))), (2, .int (zI (q + 1))), (3, .int (zI (1)))]) [2, 3, 0, 1] rfl ?_
                    refine zw_widen (k' := 0) (n' := 0) (by omega) (by omega) ?_
                    refine ih (q + 1) (1) ⟨by omega, ?_⟩ (by omega)
                    rcases g3 with ⟨gc, gk, ge⟩ | ⟨gc, gk, ge⟩
                    · -- begins
                      obtain ⟨k2, rfl, e2⟩ := skE_in (k := k) (p := q) (by omega) gk (by unfold lvOut; rw [if_neg (by rw [show sBlank (bget t q) = false from decide_eq_false (by omega)]; decide), if_pos (by omega)])
                      have e3 : lvPos t q = scanE (fun b => !sLine b) t (q + 1) := by unfold lvPos; rw [if_neg (by rw [show sBlank (bget t q) = false from decide_eq_false (by omega)]; decide), if_pos (by omega)]; exact scanE_step (by omega) (by omega) (by rw [show bget t q = 37 by omega]; decide)
                      have e4 := (scanE_spec (f := (fun b => !sLine b)) (t := t) (p := q + 1) (by omega)).1
                      exact ⟨k2, Or.inr ⟨rfl, by omega, by rw [← e3, ← e2]; exact ge⟩⟩
                    · -- goes on
                      have e3 : scanE (fun b => !sLine b) t q = scanE (fun b => !sLine b) t (q + 1) := scanE_step (by omega) (by omega) (by rw [show bget t q = 37 by omega]; decide)
                      exact ⟨k, Or.inr ⟨rfl, by rw [← e3]; exact gk, by rw [← e3]; exact ge⟩⟩
                  · -- 66 -> 69
                    refine zw_iconst zd_MO_skip_69 ?_
                    refine zw_istore_n (lv' := [(3, .int (zI (0))), (0, .ref h), (1, .int (zI (z))), (2, .int (zI (q)))]) (Nat.le_of_ble_eq_true rfl) rfl zd_MO_skip_70 ?_
                    refine zw_iinc (lv' := [(2, .int (zI (q + 1))), (3, .int (zI (0))), (0, .ref h), (1, .int (zI (z)))]) 3 rfl (Nat.le_of_ble_eq_true rfl) rfl zd_MO_skip_71 ?_
                    refine zw_goto 4 zd_MO_skip_74 (by decide) ?_
                    refine zw_lpick (lv' := [(0, .ref h), (1, .int (zI (z))), (2, .int (zI (q + 1))), (3, .int (zI (0)))]) [2, 3, 0, 1] rfl ?_
                    refine zw_widen (k' := 0) (n' := 0) (by omega) (by omega) ?_
                    refine ih (q + 1) (0) ⟨by omega, ?_⟩ (by omega)
                    rcases g3 with ⟨gc, gk, ge⟩ | ⟨gc, gk, ge⟩
                    · -- a line end, outside
                      have hbl : sBlank (bget t q) = true := decide_eq_true (by omega)
                      obtain ⟨k2, rfl, e2⟩ := skE_in (k := k) (p := q) (by omega) gk (by unfold lvOut; rw [if_pos hbl])
                      rw [show lvPos t q = q + 1 by unfold lvPos; rw [if_pos hbl]] at e2
                      exact ⟨k2, Or.inl ⟨rfl, by omega, by rw [← e2]; exact ge⟩⟩
                    · -- a line end of a comment
                      have hbl : sBlank (bget t q) = true := decide_eq_true (by omega)
                      have e3 : scanE (fun b => !sLine b) t q = q := scanE_stop (by omega) (fun q1 => by have q2 : (!sLine (bget t q)) = true := q1.2; rw [show sLine (bget t q) = true from decide_eq_true (by omega)] at q2; exact absurd q2 (by decide))
                      rw [e3] at gk ge
                      obtain ⟨k2, rfl, e2⟩ := skE_in (k := k) (p := q) (by omega) gk (by unfold lvOut; rw [if_pos hbl])
                      rw [show lvPos t q = q + 1 by unfold lvPos; rw [if_pos hbl]] at e2
                      exact ⟨k2, Or.inl ⟨rfl, by omega, by rw [← e2]; exact ge⟩⟩
  refine zw_iload_n 1 rfl zd_MO_skip_0 ?_
  refine zw_istore_n (lv' := [(2, .int (zI (z))), (0, .ref h), (1, .int (zI (z)))]) (Nat.le_of_ble_eq_true rfl) rfl zd_MO_skip_1 ?_
  refine zw_iconst zd_MO_skip_2 ?_
  refine zw_istore_n (lv' := [(3, .int (zI (0))), (2, .int (zI (z))), (0, .ref h), (1, .int (zI (z)))]) (Nat.le_of_ble_eq_true rfl) rfl zd_MO_skip_3 ?_
  refine zw_lpick (lv' := [(0, .ref h), (1, .int (zI (z))), (2, .int (zI (z))), (3, .int (zI (0)))]) [2, 3, 1, 0] rfl ?_
  refine zw_widen (k' := 0) (n' := 0) (by omega) (by omega) ?_
  exact lp _ z 0 ⟨by omega, t.length, Or.inl ⟨rfl, by omega, rfl⟩⟩ (Nat.lt_succ_self _)
set_option maxHeartbeats 4000000 in
set_option maxRecDepth 100000 in
theorem c_MO_escape_bad (h : Nat) (t : List Int) (ws : List (Int32 × Int32 × Int32)) (ts : List (List Int)) (pd : List Int) (op : List Int) (y r ct wh : Int) (fd fr : Nat → Int32) (z : Int) (hz : 0 ≤ z ∧ z ≤ t.length) (hb : bget t z = -1) : zCT zy_MO_escape zm_MO_escape (0) (0) [.ref h, .int (zI z)] [zMOd h (t) (ws) (ts) (pd) (op) (y) (r) (ct) (wh) (fd) (fr)] (some (.int (zI (-1)))) [zMOd h (t) (ws) (ts) (pd) (op) (2) (((t.length : Nat) : Int)) (ct) (wh) (fd) (fr)] := by
  refine zCT.of [(0, .ref h), (1, .int (zI (z)))] rfl (by decide) rfl (fun h => by first | rfl | cases h) (Nat.le_of_ble_eq_true rfl) (fun X hR => ?_)
  refine zw_fact 0 rfl (fun G w h => zMOd_fact h) (fun mf => ?_)
  obtain ⟨⟨ht1, hby⟩, hw1, ⟨hs1, hs2, hs3⟩, ho1⟩ := mf
  refine zw_aload_n 0 rfl zd_MO_escape_0 ?_
  refine zw_iload_n 1 rfl zd_MO_escape_1 ?_
  refine zw_callV (As := [.int (zI (z))]) (rest := []) (L2 := []) (L' := [zMOd h (t) (ws) (ts) (pd) (op) (y) (r) (ct) (wh) (fd) (fr)]) (stk' := [.int (zI (bget t z))]) (c_MO_byteAt h t ws ts pd op y r ct wh fd fr z (by omega)) [0] [] rfl rfl rfl zcal_MO_byteAt zl_MO_51 zin_MO_byteAt zse_MO_byteAt 0 rfl zRv_MOd rfl (Nat.le_of_ble_eq_true rfl) (Nat.le_of_ble_eq_true rfl) (by omega) (by omega) rfl (Nat.le_of_ble_eq_true rfl) rfl rfl zd_MO_escape_2 ?_
  have rg2 := bget_rg hby z
  refine zw_istore_n (lv' := [(2, .int (zI (bget t z))), (0, .ref h), (1, .int (zI (z)))]) (Nat.le_of_ble_eq_true rfl) rfl zd_MO_escape_5 ?_
  refine zw_iload_n 0 rfl zd_MO_escape_6 ?_
  refine zw_if_ge 20 (by omega) zd_MO_escape_7 (by decide) (fun c7 => ?_) (fun c7 => ?_)
  · -- 7 -> 20
    exact absurd c7 (by omega)
  · -- 7 -> 10
    refine zw_aload_n 1 rfl zd_MO_escape_10 ?_
    refine zw_iconst zd_MO_escape_11 ?_
    refine zw_aload_n 1 rfl zd_MO_escape_12 ?_
    refine zw_unp (fun G ws h => h) (fun x0 hx0 => ?_)
    obtain ⟨⟨at_, ak, an, ab, aw, ay, af, ad, ar⟩, ft, fk, fn, fb, fo, fy, ff⟩ := x0
    obtain ⟨m1, m2, m3, m4, m5⟩ := hx0
    simp only [List.cons_append, List.nil_append]
    dsimp only at m1 m2 m3 m4 m5
    refine zw_get zc_MO 0 1 rfl (by decide) zf_MO_40 rfl zd_MO_escape_13 ?_
    refine zw_pack (at0 := zMOd h (t) (ws) (ts) (pd) (op) (y) (r) (ct) (wh) (fd) (fr)) (Ls := [zObj h 6 [.ref at_, .int (zI (((t.length : Nat) : Int))), .int (zI (r)), .int (zI (((ws.length : Nat) : Int))), .ref ak, .ref an, .ref ab, .ref aw, .int (zI (((op.length : Nat) : Int))), .int (zI (((ts.length : Nat) : Int))), .int (zI (((((ts.flatten ++ pd)).length : Nat) : Int))), .ref ay, .ref af, .ref ad, .int (zI (ct)), .int (zI (wh)), .int (zI (y)), .ref ar], zArB at_ (65536) (ft), zArB ak (16384) (fk), zArI an (16384) (fn), zArI ab (16384) (fb), zArI aw (64) (fo), zArB ay (131072) (fy), zArI af (16385) (ff), zArB ad (400) (fd), zArB ar (420) (fr)]) (L2 := []) rfl (fun G w h => ⟨((at_, ak, an, ab, aw, ay, af, ad, ar), ft, fk, fn, fb, fo, fy, ff), ⟨m1, m2, m3, m4, m5⟩, h⟩) ?_
    refine zw_callV (As := [.int (zI (2)), .int (zI (((t.length : Nat) : Int)))]) (rest := []) (L2 := []) (L' := [zMOd h (t) (ws) (ts) (pd) (op) (2) (((t.length : Nat) : Int)) (ct) (wh) (fd) (fr)]) (stk' := [.int (zI (-1))]) (c_MO_fail h t ws ts pd op y r ct wh fd fr 2 (((t.length : Nat) : Int))) [0] [] rfl rfl rfl zcal_MO_fail zl_MO_80 zin_MO_fail zse_MO_fail 0 rfl zRv_MOd rfl (Nat.le_of_ble_eq_true rfl) (Nat.le_of_ble_eq_true rfl) (by omega) (by omega) rfl (Nat.le_of_ble_eq_true rfl) rfl rfl zd_MO_escape_16 ?_
    exact zw_iret hR (rfl) (rfl) rfl (by omega) (by omega) zd_MO_escape_19
set_option maxHeartbeats 4000000 in
set_option maxRecDepth 100000 in
theorem c_MO_escape_ok (h : Nat) (t : List Int) (ws : List (Int32 × Int32 × Int32)) (ts : List (List Int)) (pd : List Int) (op : List Int) (y r ct wh : Int) (fd fr : Nat → Int32) (z : Int) (hz : 0 ≤ z) (hb : bget t z ≠ -1) (hd : (ts.flatten ++ pd).length < 131072) : zCT zy_MO_escape zm_MO_escape (0) (0) [.ref h, .int (zI z)] [zMOd h (t) (ws) (ts) (pd) (op) (y) (r) (ct) (wh) (fd) (fr)] (some (.int (zI (escS t z).2))) [zMOd h (t) (ws) (ts) (pd ++ (escS t z).1) (op) (y) (r) (ct) (wh) (fd) (fr)] := by
  refine zCT.of [(0, .ref h), (1, .int (zI (z)))] rfl (by decide) rfl (fun h => by first | rfl | cases h) (Nat.le_of_ble_eq_true rfl) (fun X hR => ?_)
  refine zw_fact 0 rfl (fun G w h => zMOd_fact h) (fun mf => ?_)
  obtain ⟨⟨ht1, hby⟩, hw1, ⟨hs1, hs2, hs3⟩, ho1⟩ := mf
  have hin := bget_in hb
  have lp : sOct (bget t z) = true → ∀ (fuel : Nat) (v : Int) (k : Int), ((z ≤ k ∧ k ≤ z + 3) ∧ octS t (z + 3 - k).toNat k v = octS t 3 z 0) → (z + 3 - k).toNat < fuel → zZ X zm_MO_escape (0) (0) (0) (0) [zMOd h (t) (ws) (ts) (pd) (op) (y) (r) (ct) (wh) (fd) (fr)] 70 [(0, .ref h), (1, .int (zI (z))), (2, .int (zI (bget t z))), (3, .int (zI (v))), (4, .int (zI (k)))] [] := by
    intro hoc fuel
    have hoc2 : 48 ≤ bget t z ∧ bget t z ≤ 55 := of_decide_eq_true hoc
    induction fuel with
    | zero => intro v k g0 hm; exact absurd hm (Nat.not_lt_zero _)
    | succ fuel ih =>
      intro v k g0 hm
      refine zw_iload 4 rfl zd_MO_escape_70 ?_
      refine zw_iload_n 1 rfl zd_MO_escape_72 ?_
      refine zw_iconst zd_MO_escape_73 ?_
      refine zw_iadd zd_MO_escape_74 ?_
      refine zw_icmp_ge 111 (by omega) (by omega) zd_MO_escape_75 (by decide) (fun c75 => ?_) (fun c75 => ?_)
      · -- 75 -> 111
        have e1 : octS t 3 z 0 = (v, k) := by
          rw [← g0.2]
          rcases (show (z + 3 - k).toNat = 0 ∨ ∃ f9, (z + 3 - k).toNat = f9 + 1 from by rcases Nat.eq_zero_or_pos (z + 3 - k).toNat with c | c; exact Or.inl c; exact Or.inr ⟨(z + 3 - k).toNat - 1, by omega⟩) with c | ⟨f9, c⟩
          · rw [c, octS]
          · rw [c, octS]; first | (exfalso; omega) | rw [if_neg (by rw [zbI0 (b := sOct (bget t k)) (by omega)]; decide)]
        have e2 : escS t z = ([v % 256], k) := by unfold escS; rw [if_neg (by rw [show sLine (bget t z) = false from decide_eq_false (by omega)]; decide), if_pos hoc, e1]
        refine zw_aload_n 0 rfl zd_MO_escape_111 ?_
        refine zw_iload_n 3 rfl zd_MO_escape_112 ?_
        refine zw_callV (As := [.int (zI (v))]) (rest := []) (L2 := []) (L' := [zMOd h (t) (ws) (ts) (pd ++ [v % 256]) (op) (y) (r) (ct) (wh) (fd) (fr)]) (stk' := []) (c_MO_drop h t ws ts pd op y r ct wh fd fr v (by omega)) [0] [] rfl rfl rfl zcal_MO_drop zl_MO_72 zin_MO_drop zse_MO_drop 0 rfl zRv_MOd rfl (Nat.le_of_ble_eq_true rfl) (Nat.le_of_ble_eq_true rfl) (by omega) (by omega) rfl (Nat.le_of_ble_eq_true rfl) rfl rfl zd_MO_escape_113 ?_
        refine zw_iload 4 rfl zd_MO_escape_116 ?_
        exact zw_iret hR (by rw [e2]) (by rw [e2]) rfl (by omega) (by omega) zd_MO_escape_118
      · -- 75 -> 78
        refine zw_aload_n 0 rfl zd_MO_escape_78 ?_
        refine zw_iload 4 rfl zd_MO_escape_79 ?_
        refine zw_callV (As := [.int (zI (k))]) (rest := []) (L2 := []) (L' := [zMOd h (t) (ws) (ts) (pd) (op) (y) (r) (ct) (wh) (fd) (fr)]) (stk' := [.int (zI (bget t k))]) (c_MO_byteAt h t ws ts pd op y r ct wh fd fr k (by omega)) [0] [] rfl rfl rfl zcal_MO_byteAt zl_MO_51 zin_MO_byteAt zse_MO_byteAt 0 rfl zRv_MOd rfl (Nat.le_of_ble_eq_true rfl) (Nat.le_of_ble_eq_true rfl) (by omega) (by omega) rfl (Nat.le_of_ble_eq_true rfl) rfl rfl zd_MO_escape_81 ?_
        have rg81 := bget_rg hby k
        refine zw_callS (a := 0) (As := [.int (zI (bget t k))]) (rest := []) (L2 := [zMOd h (t) (ws) (ts) (pd) (op) (y) (r) (ct) (wh) (fd) (fr)]) (L' := [zMOd h (t) (ws) (ts) (pd) (op) (y) (r) (ct) (wh) (fd) (fr)]) (stk' := [.int (zI (bI (sOct (bget t k))))]) (c_MO_isOctal (bget t k) (by omega)) [] [0] rfl rfl rfl zcal_MO_isOctal zl_MO_153 zst_MO_isOctal (Nat.le_of_ble_eq_true rfl) (Nat.le_of_ble_eq_true rfl) (by omega) (by omega) rfl (Nat.le_of_ble_eq_true rfl) rfl rfl zd_MO_escape_84 ?_
        have rb84 := bI_rg (sOct (bget t k))
        refine zw_if_eq 111 (by omega) zd_MO_escape_87 (by decide) (fun c87 => ?_) (fun c87 => ?_)
        · -- 87 -> 111
          have e1 : octS t 3 z 0 = (v, k) := by
            rw [← g0.2]
            rcases (show (z + 3 - k).toNat = 0 ∨ ∃ f9, (z + 3 - k).toNat = f9 + 1 from by rcases Nat.eq_zero_or_pos (z + 3 - k).toNat with c | c; exact Or.inl c; exact Or.inr ⟨(z + 3 - k).toNat - 1, by omega⟩) with c | ⟨f9, c⟩
            · rw [c, octS]
            · rw [c, octS]; first | (exfalso; omega) | rw [if_neg (by rw [zbI0 (b := sOct (bget t k)) (by omega)]; decide)]
          have e2 : escS t z = ([v % 256], k) := by unfold escS; rw [if_neg (by rw [show sLine (bget t z) = false from decide_eq_false (by omega)]; decide), if_pos hoc, e1]
          refine zw_aload_n 0 rfl zd_MO_escape_111 ?_
          refine zw_iload_n 3 rfl zd_MO_escape_112 ?_
          refine zw_callV (As := [.int (zI (v))]) (rest := []) (L2 := []) (L' := [zMOd h (t) (ws) (ts) (pd ++ [v % 256]) (op) (y) (r) (ct) (wh) (fd) (fr)]) (stk' := []) (c_MO_drop h t ws ts pd op y r ct wh fd fr v (by omega)) [0] [] rfl rfl rfl zcal_MO_drop zl_MO_72 zin_MO_drop zse_MO_drop 0 rfl zRv_MOd rfl (Nat.le_of_ble_eq_true rfl) (Nat.le_of_ble_eq_true rfl) (by omega) (by omega) rfl (Nat.le_of_ble_eq_true rfl) rfl rfl zd_MO_escape_113 ?_
          refine zw_iload 4 rfl zd_MO_escape_116 ?_
          exact zw_iret hR (by rw [e2]) (by rw [e2]) rfl (by omega) (by omega) zd_MO_escape_118
        · -- 87 -> 90
          refine zw_bipush rfl zd_MO_escape_90 ?_
          refine zw_iload_n 3 rfl zd_MO_escape_92 ?_
          refine zw_imul zd_MO_escape_93 ?_
          refine zw_aload_n 0 rfl zd_MO_escape_94 ?_
          refine zw_iload 4 rfl zd_MO_escape_95 ?_
          refine zw_callV (As := [.int (zI (k))]) (rest := [.int (zI (8 * v))]) (L2 := []) (L' := [zMOd h (t) (ws) (ts) (pd) (op) (y) (r) (ct) (wh) (fd) (fr)]) (stk' := [.int (zI (bget t k)), .int (zI (8 * v))]) (c_MO_byteAt h t ws ts pd op y r ct wh fd fr k (by omega)) [0] [] rfl rfl rfl zcal_MO_byteAt zl_MO_51 zin_MO_byteAt zse_MO_byteAt 0 rfl zRv_MOd rfl (Nat.le_of_ble_eq_true rfl) (Nat.le_of_ble_eq_true rfl) (by omega) (by omega) rfl (Nat.le_of_ble_eq_true rfl) rfl rfl zd_MO_escape_97 ?_
          have rg97 := bget_rg hby k
          refine zw_iadd zd_MO_escape_100 ?_
          refine zw_bipush rfl zd_MO_escape_101 ?_
          refine zw_isub zd_MO_escape_103 ?_
          refine zw_istore_n (lv' := [(3, .int (zI (((8 * v) + (bget t k)) - 48))), (0, .ref h), (1, .int (zI (z))), (2, .int (zI (bget t z))), (4, .int (zI (k)))]) (Nat.le_of_ble_eq_true rfl) rfl zd_MO_escape_104 ?_
          refine zw_iinc (lv' := [(4, .int (zI (k + 1))), (3, .int (zI (((8 * v) + (bget t k)) - 48))), (0, .ref h), (1, .int (zI (z))), (2, .int (zI (bget t z)))]) 4 rfl (Nat.le_of_ble_eq_true rfl) rfl zd_MO_escape_105 ?_
          refine zw_goto 70 zd_MO_escape_108 (by decide) ?_
          refine zw_lpick (lv' := [(0, .ref h), (1, .int (zI (z))), (2, .int (zI (bget t z))), (3, .int (zI (((8 * v) + (bget t k)) - 48))), (4, .int (zI (k + 1)))]) [2, 3, 4, 1, 0] rfl ?_
          refine zw_widen (k' := 0) (n' := 0) (by omega) (by omega) ?_
          obtain ⟨f9, h9⟩ : ∃ f9, (z + 3 - k).toNat = f9 + 1 := ⟨(z + 3 - k).toNat - 1, by omega⟩
          have g2 := g0.2
          rw [h9, octS, if_pos (zbI1 (b := sOct (bget t k)) (by omega)), show f9 = (z + 3 - (k + 1)).toNat by omega] at g2
          exact ih (8 * v + bget t k - 48) (k + 1) ⟨by omega, g2⟩ (by omega)
  refine zw_aload_n 0 rfl zd_MO_escape_0 ?_
  refine zw_iload_n 1 rfl zd_MO_escape_1 ?_
  refine zw_callV (As := [.int (zI (z))]) (rest := []) (L2 := []) (L' := [zMOd h (t) (ws) (ts) (pd) (op) (y) (r) (ct) (wh) (fd) (fr)]) (stk' := [.int (zI (bget t z))]) (c_MO_byteAt h t ws ts pd op y r ct wh fd fr z (by omega)) [0] [] rfl rfl rfl zcal_MO_byteAt zl_MO_51 zin_MO_byteAt zse_MO_byteAt 0 rfl zRv_MOd rfl (Nat.le_of_ble_eq_true rfl) (Nat.le_of_ble_eq_true rfl) (by omega) (by omega) rfl (Nat.le_of_ble_eq_true rfl) rfl rfl zd_MO_escape_2 ?_
  have rg2 := bget_rg hby z
  refine zw_istore_n (lv' := [(2, .int (zI (bget t z))), (0, .ref h), (1, .int (zI (z)))]) (Nat.le_of_ble_eq_true rfl) rfl zd_MO_escape_5 ?_
  refine zw_iload_n 0 rfl zd_MO_escape_6 ?_
  refine zw_if_ge 20 (by omega) zd_MO_escape_7 (by decide) (fun c7 => ?_) (fun c7 => ?_)
  · -- 7 -> 20
    refine zw_iload_n 0 rfl zd_MO_escape_20 ?_
    refine zw_bipush rfl zd_MO_escape_21 ?_
    refine zw_icmp_ne 30 (by omega) (by omega) zd_MO_escape_23 (by decide) (fun c23 => ?_) (fun c23 => ?_)
    · -- 23 -> 30
      refine zw_iload_n 0 rfl zd_MO_escape_30 ?_
      refine zw_bipush rfl zd_MO_escape_31 ?_
      refine zw_icmp_ne 58 (by omega) (by omega) zd_MO_escape_33 (by decide) (fun c33 => ?_) (fun c33 => ?_)
      · -- 33 -> 58
        refine zw_iload_n 0 rfl zd_MO_escape_58 ?_
        refine zw_callS (a := 0) (As := [.int (zI (bget t z))]) (rest := []) (L2 := [zMOd h (t) (ws) (ts) (pd) (op) (y) (r) (ct) (wh) (fd) (fr)]) (L' := [zMOd h (t) (ws) (ts) (pd) (op) (y) (r) (ct) (wh) (fd) (fr)]) (stk' := [.int (zI (bI (sOct (bget t z))))]) (c_MO_isOctal (bget t z) (by omega)) [] [0] rfl rfl rfl zcal_MO_isOctal zl_MO_153 zst_MO_isOctal (Nat.le_of_ble_eq_true rfl) (Nat.le_of_ble_eq_true rfl) (by omega) (by omega) rfl (Nat.le_of_ble_eq_true rfl) rfl rfl zd_MO_escape_59 ?_
        have rb59 := bI_rg (sOct (bget t z))
        refine zw_if_eq 119 (by omega) zd_MO_escape_62 (by decide) (fun c62 => ?_) (fun c62 => ?_)
        · -- 62 -> 119
          refine zw_aload_n 1 rfl zd_MO_escape_119 ?_
          refine zw_iload_n 0 rfl zd_MO_escape_120 ?_
          refine zw_bipush rfl zd_MO_escape_121 ?_
          refine zw_icmp_ne 131 (by omega) (by omega) zd_MO_escape_123 (by decide) (fun c123 => ?_) (fun c123 => ?_)
          · -- 123 -> 131
            refine zw_iload_n 0 rfl zd_MO_escape_131 ?_
            refine zw_bipush rfl zd_MO_escape_132 ?_
            refine zw_icmp_ne 142 (by omega) (by omega) zd_MO_escape_134 (by decide) (fun c134 => ?_) (fun c134 => ?_)
            · -- 134 -> 142
              refine zw_iload_n 0 rfl zd_MO_escape_142 ?_
              refine zw_bipush rfl zd_MO_escape_143 ?_
              refine zw_icmp_ne 153 (by omega) (by omega) zd_MO_escape_145 (by decide) (fun c145 => ?_) (fun c145 => ?_)
              · -- 145 -> 153
                refine zw_iload_n 0 rfl zd_MO_escape_153 ?_
                refine zw_bipush rfl zd_MO_escape_154 ?_
                refine zw_icmp_ne 164 (by omega) (by omega) zd_MO_escape_156 (by decide) (fun c156 => ?_) (fun c156 => ?_)
                · -- 156 -> 164
                  refine zw_iload_n 0 rfl zd_MO_escape_164 ?_
                  refine zw_bipush rfl zd_MO_escape_165 ?_
                  refine zw_icmp_ne 175 (by omega) (by omega) zd_MO_escape_167 (by decide) (fun c167 => ?_) (fun c167 => ?_)
                  · -- 167 -> 175
                    refine zw_iload_n 0 rfl zd_MO_escape_175 ?_
                    refine zw_callV (As := [.int (zI (bget t z))]) (rest := []) (L2 := []) (L' := [zMOd h (t) (ws) (ts) (pd ++ [(bget t z) % 256]) (op) (y) (r) (ct) (wh) (fd) (fr)]) (stk' := []) (c_MO_drop h t ws ts pd op y r ct wh fd fr (bget t z) (by omega)) [0] [] rfl rfl rfl zcal_MO_drop zl_MO_72 zin_MO_drop zse_MO_drop 0 rfl zRv_MOd rfl (Nat.le_of_ble_eq_true rfl) (Nat.le_of_ble_eq_true rfl) (by omega) (by omega) rfl (Nat.le_of_ble_eq_true rfl) rfl rfl zd_MO_escape_176 ?_
                    refine zw_iload_n 2 rfl zd_MO_escape_179 ?_
                    refine zw_iconst zd_MO_escape_180 ?_
                    refine zw_iadd zd_MO_escape_181 ?_
                    have e2 : escS t z = ([(bget t z) % 256], z + 1) := by unfold escS; rw [if_neg (by rw [show sLine (bget t z) = false from decide_eq_false (by omega)]; decide), if_neg (by rw [zbI0 (b := sOct (bget t z)) (by omega)]; decide), if_neg hb]; unfold meantV; repeat' (first | rfl | omega | split)
                    exact zw_iret hR (by rw [e2]) (by rw [e2]) rfl (by omega) (by omega) zd_MO_escape_182
                  · -- 167 -> 170
                    refine zw_bipush rfl zd_MO_escape_170 ?_
                    refine zw_goto 176 zd_MO_escape_172 (by decide) ?_
                    refine zw_callV (As := [.int (zI (12))]) (rest := []) (L2 := []) (L' := [zMOd h (t) (ws) (ts) (pd ++ [12 % 256]) (op) (y) (r) (ct) (wh) (fd) (fr)]) (stk' := []) (c_MO_drop h t ws ts pd op y r ct wh fd fr 12 (by omega)) [0] [] rfl rfl rfl zcal_MO_drop zl_MO_72 zin_MO_drop zse_MO_drop 0 rfl zRv_MOd rfl (Nat.le_of_ble_eq_true rfl) (Nat.le_of_ble_eq_true rfl) (by omega) (by omega) rfl (Nat.le_of_ble_eq_true rfl) rfl rfl zd_MO_escape_176 ?_
                    refine zw_iload_n 2 rfl zd_MO_escape_179 ?_
                    refine zw_iconst zd_MO_escape_180 ?_
                    refine zw_iadd zd_MO_escape_181 ?_
                    have e2 : escS t z = ([12 % 256], z + 1) := by unfold escS; rw [if_neg (by rw [show sLine (bget t z) = false from decide_eq_false (by omega)]; decide), if_neg (by rw [zbI0 (b := sOct (bget t z)) (by omega)]; decide), if_neg hb]; unfold meantV; repeat' (first | rfl | omega | split)
                    exact zw_iret hR (by rw [e2]) (by rw [e2]) rfl (by omega) (by omega) zd_MO_escape_182
                · -- 156 -> 159
                  refine zw_bipush rfl zd_MO_escape_159 ?_
                  refine zw_goto 176 zd_MO_escape_161 (by decide) ?_
                  refine zw_callV (As := [.int (zI (8))]) (rest := []) (L2 := []) (L' := [zMOd h (t) (ws) (ts) (pd ++ [8 % 256]) (op) (y) (r) (ct) (wh) (fd) (fr)]) (stk' := []) (c_MO_drop h t ws ts pd op y r ct wh fd fr 8 (by omega)) [0] [] rfl rfl rfl zcal_MO_drop zl_MO_72 zin_MO_drop zse_MO_drop 0 rfl zRv_MOd rfl (Nat.le_of_ble_eq_true rfl) (Nat.le_of_ble_eq_true rfl) (by omega) (by omega) rfl (Nat.le_of_ble_eq_true rfl) rfl rfl zd_MO_escape_176 ?_
                  refine zw_iload_n 2 rfl zd_MO_escape_179 ?_
                  refine zw_iconst zd_MO_escape_180 ?_
                  refine zw_iadd zd_MO_escape_181 ?_
                  have e2 : escS t z = ([8 % 256], z + 1) := by unfold escS; rw [if_neg (by rw [show sLine (bget t z) = false from decide_eq_false (by omega)]; decide), if_neg (by rw [zbI0 (b := sOct (bget t z)) (by omega)]; decide), if_neg hb]; unfold meantV; repeat' (first | rfl | omega | split)
                  exact zw_iret hR (by rw [e2]) (by rw [e2]) rfl (by omega) (by omega) zd_MO_escape_182
              · -- 145 -> 148
                refine zw_bipush rfl zd_MO_escape_148 ?_
                refine zw_goto 176 zd_MO_escape_150 (by decide) ?_
                refine zw_callV (As := [.int (zI (9))]) (rest := []) (L2 := []) (L' := [zMOd h (t) (ws) (ts) (pd ++ [9 % 256]) (op) (y) (r) (ct) (wh) (fd) (fr)]) (stk' := []) (c_MO_drop h t ws ts pd op y r ct wh fd fr 9 (by omega)) [0] [] rfl rfl rfl zcal_MO_drop zl_MO_72 zin_MO_drop zse_MO_drop 0 rfl zRv_MOd rfl (Nat.le_of_ble_eq_true rfl) (Nat.le_of_ble_eq_true rfl) (by omega) (by omega) rfl (Nat.le_of_ble_eq_true rfl) rfl rfl zd_MO_escape_176 ?_
                refine zw_iload_n 2 rfl zd_MO_escape_179 ?_
                refine zw_iconst zd_MO_escape_180 ?_
                refine zw_iadd zd_MO_escape_181 ?_
                have e2 : escS t z = ([9 % 256], z + 1) := by unfold escS; rw [if_neg (by rw [show sLine (bget t z) = false from decide_eq_false (by omega)]; decide), if_neg (by rw [zbI0 (b := sOct (bget t z)) (by omega)]; decide), if_neg hb]; unfold meantV; repeat' (first | rfl | omega | split)
                exact zw_iret hR (by rw [e2]) (by rw [e2]) rfl (by omega) (by omega) zd_MO_escape_182
            · -- 134 -> 137
              refine zw_bipush rfl zd_MO_escape_137 ?_
              refine zw_goto 176 zd_MO_escape_139 (by decide) ?_
              refine zw_callV (As := [.int (zI (13))]) (rest := []) (L2 := []) (L' := [zMOd h (t) (ws) (ts) (pd ++ [13 % 256]) (op) (y) (r) (ct) (wh) (fd) (fr)]) (stk' := []) (c_MO_drop h t ws ts pd op y r ct wh fd fr 13 (by omega)) [0] [] rfl rfl rfl zcal_MO_drop zl_MO_72 zin_MO_drop zse_MO_drop 0 rfl zRv_MOd rfl (Nat.le_of_ble_eq_true rfl) (Nat.le_of_ble_eq_true rfl) (by omega) (by omega) rfl (Nat.le_of_ble_eq_true rfl) rfl rfl zd_MO_escape_176 ?_
              refine zw_iload_n 2 rfl zd_MO_escape_179 ?_
              refine zw_iconst zd_MO_escape_180 ?_
              refine zw_iadd zd_MO_escape_181 ?_
              have e2 : escS t z = ([13 % 256], z + 1) := by unfold escS; rw [if_neg (by rw [show sLine (bget t z) = false from decide_eq_false (by omega)]; decide), if_neg (by rw [zbI0 (b := sOct (bget t z)) (by omega)]; decide), if_neg hb]; unfold meantV; repeat' (first | rfl | omega | split)
              exact zw_iret hR (by rw [e2]) (by rw [e2]) rfl (by omega) (by omega) zd_MO_escape_182
          · -- 123 -> 126
            refine zw_bipush rfl zd_MO_escape_126 ?_
            refine zw_goto 176 zd_MO_escape_128 (by decide) ?_
            refine zw_callV (As := [.int (zI (10))]) (rest := []) (L2 := []) (L' := [zMOd h (t) (ws) (ts) (pd ++ [10 % 256]) (op) (y) (r) (ct) (wh) (fd) (fr)]) (stk' := []) (c_MO_drop h t ws ts pd op y r ct wh fd fr 10 (by omega)) [0] [] rfl rfl rfl zcal_MO_drop zl_MO_72 zin_MO_drop zse_MO_drop 0 rfl zRv_MOd rfl (Nat.le_of_ble_eq_true rfl) (Nat.le_of_ble_eq_true rfl) (by omega) (by omega) rfl (Nat.le_of_ble_eq_true rfl) rfl rfl zd_MO_escape_176 ?_
            refine zw_iload_n 2 rfl zd_MO_escape_179 ?_
            refine zw_iconst zd_MO_escape_180 ?_
            refine zw_iadd zd_MO_escape_181 ?_
            have e2 : escS t z = ([10 % 256], z + 1) := by unfold escS; rw [if_neg (by rw [show sLine (bget t z) = false from decide_eq_false (by omega)]; decide), if_neg (by rw [zbI0 (b := sOct (bget t z)) (by omega)]; decide), if_neg hb]; unfold meantV; repeat' (first | rfl | omega | split)
            exact zw_iret hR (by rw [e2]) (by rw [e2]) rfl (by omega) (by omega) zd_MO_escape_182
        · -- 62 -> 65
          refine zw_iconst zd_MO_escape_65 ?_
          refine zw_istore_n (lv' := [(3, .int (zI (0))), (2, .int (zI (bget t z))), (0, .ref h), (1, .int (zI (z)))]) (Nat.le_of_ble_eq_true rfl) rfl zd_MO_escape_66 ?_
          refine zw_iload_n 3 rfl zd_MO_escape_67 ?_
          refine zw_istore (lv' := [(4, .int (zI (z))), (3, .int (zI (0))), (2, .int (zI (bget t z))), (0, .ref h), (1, .int (zI (z)))]) (Nat.le_of_ble_eq_true rfl) rfl zd_MO_escape_68 ?_
          refine zw_lpick (lv' := [(0, .ref h), (1, .int (zI (z))), (2, .int (zI (bget t z))), (3, .int (zI (0))), (4, .int (zI (z)))]) [3, 4, 2, 1, 0] rfl ?_
          refine zw_widen (k' := 0) (n' := 0) (by omega) (by omega) ?_
          exact lp (zbI1 (by omega)) _ 0 z ⟨by omega, by rw [show (z + 3 - z).toNat = 3 by omega]⟩ (Nat.lt_succ_self _)
      · -- 33 -> 36
        refine zw_aload_n 1 rfl zd_MO_escape_36 ?_
        refine zw_iload_n 2 rfl zd_MO_escape_37 ?_
        refine zw_iconst zd_MO_escape_38 ?_
        refine zw_iadd zd_MO_escape_39 ?_
        refine zw_callV (As := [.int (zI (z + 1))]) (rest := []) (L2 := []) (L' := [zMOd h (t) (ws) (ts) (pd) (op) (y) (r) (ct) (wh) (fd) (fr)]) (stk' := [.int (zI (bget t (z + 1)))]) (c_MO_byteAt h t ws ts pd op y r ct wh fd fr (z + 1) (by omega)) [0] [] rfl rfl rfl zcal_MO_byteAt zl_MO_51 zin_MO_byteAt zse_MO_byteAt 0 rfl zRv_MOd rfl (Nat.le_of_ble_eq_true rfl) (Nat.le_of_ble_eq_true rfl) (by omega) (by omega) rfl (Nat.le_of_ble_eq_true rfl) rfl rfl zd_MO_escape_40 ?_
        have rg40 := bget_rg hby (z + 1)
        refine zw_bipush rfl zd_MO_escape_43 ?_
        refine zw_icmp_ne 54 (by omega) (by omega) zd_MO_escape_45 (by decide) (fun c45 => ?_) (fun c45 => ?_)
        · -- 45 -> 54
          refine zw_iload_n 2 rfl zd_MO_escape_54 ?_
          refine zw_iconst zd_MO_escape_55 ?_
          refine zw_iadd zd_MO_escape_56 ?_
          refine zw_eqL (L' := [zMOd h (t) (ws) (ts) (pd ++ []) (op) (y) (r) (ct) (wh) (fd) (fr)]) (by rw [List.append_nil]) ?_
          have e2 : escS t z = ([], z + 1) := by unfold escS; rw [if_pos (show sLine (bget t z) = true from decide_eq_true (by omega))]; unfold lnPos; rw [if_neg (by omega)]
          exact zw_iret hR (by rw [e2]) (by rw [e2]) rfl (by omega) (by omega) zd_MO_escape_57
        · -- 45 -> 48
          refine zw_iload_n 2 rfl zd_MO_escape_48 ?_
          refine zw_iconst zd_MO_escape_49 ?_
          refine zw_iadd zd_MO_escape_50 ?_
          refine zw_goto 57 zd_MO_escape_51 (by decide) ?_
          refine zw_eqL (L' := [zMOd h (t) (ws) (ts) (pd ++ []) (op) (y) (r) (ct) (wh) (fd) (fr)]) (by rw [List.append_nil]) ?_
          have e2 : escS t z = ([], z + 2) := by unfold escS; rw [if_pos (show sLine (bget t z) = true from decide_eq_true (by omega))]; unfold lnPos; rw [if_pos (by omega)]
          exact zw_iret hR (by rw [e2]) (by rw [e2]) rfl (by omega) (by omega) zd_MO_escape_57
    · -- 23 -> 26
      refine zw_iload_n 2 rfl zd_MO_escape_26 ?_
      refine zw_iconst zd_MO_escape_27 ?_
      refine zw_iadd zd_MO_escape_28 ?_
      refine zw_eqL (L' := [zMOd h (t) (ws) (ts) (pd ++ []) (op) (y) (r) (ct) (wh) (fd) (fr)]) (by rw [List.append_nil]) ?_
      have e2 : escS t z = ([], z + 1) := by unfold escS; rw [if_pos (show sLine (bget t z) = true from decide_eq_true (by omega))]; unfold lnPos; rw [if_neg (by omega)]
      exact zw_iret hR (by rw [e2]) (by rw [e2]) rfl (by omega) (by omega) zd_MO_escape_29
  · -- 7 -> 10
    exact absurd c7 (by omega)
set_option maxHeartbeats 4000000 in
set_option maxRecDepth 100000 in
theorem c_MO_brackets_ok (h : Nat) (t : List Int) (ws : List (Int32 × Int32 × Int32)) (ts : List (List Int)) (op : List Int) (y r ct wh : Int) (fd fr : Nat → Int32) (z : Int) (hz : 0 ≤ z ∧ z < t.length) (hF : ts.flatten.length + t.length < 60000) (hl : ts.length < 16384) (hw : ws.length < 16384) (xs : List Int) (E : Int) (hbr : brS t t.length (z + 1) 1 [] = (xs, E)) (hE : 0 ≤ E) : zCT zy_MO_brackets zm_MO_brackets (0) (0) [.ref h, .int (zI z)] [zMOd h (t) (ws) (ts) ([]) (op) (y) (r) (ct) (wh) (fd) (fr)] (some (.int (zI (E + 1)))) [zMOd h (t) (ws ++ [(zI 5, zI ((ixOf ts xs : Nat) : Int), zI z)]) (addT ts xs) ([]) (op) (y) (r) (ct) (wh) (fd) (fr)] := by
  refine zCT.of [(0, .ref h), (1, .int (zI (z)))] rfl (by decide) rfl (fun h => by first | rfl | cases h) (Nat.le_of_ble_eq_true rfl) (fun X hR => ?_)
  refine zw_fact 0 rfl (fun G w h => zMOd_fact h) (fun mf => ?_)
  obtain ⟨⟨ht1, hby⟩, hw1, ⟨hs1, hs2, hs3⟩, ho1⟩ := mf
  have lp : ∀ (fuel : Nat) (k : Nat) (q : Int) (d : Int) (acc : List Int), ((((0 < q ∧ q ≤ t.length) ∧ (0 ≤ d ∧ d ≤ q)) ∧ (acc.length : Int) ≤ q) ∧ ((0 < d ∧ brS t k q d acc = (xs, E) ∧ (t.length : Int) - q ≤ k) ∨ (d = 0 ∧ acc = xs ∧ q = E + 1 ∧ 0 ≤ E))) → ((t.length : Int) + 1 - q).toNat < fuel → zZ X zm_MO_brackets (0) (0) (0) (0) [zMOd h (t) (ws) (ts) (acc) (op) (y) (r) (ct) (wh) (fd) (fr)] 6 [(0, .ref h), (1, .int (zI (z))), (2, .int (zI (d))), (3, .int (zI (q)))] [] := by
    intro fuel
    induction fuel with
    | zero => intro k q d acc g0 hm; exact absurd hm (Nat.not_lt_zero _)
    | succ fuel ih =>
      intro k q d acc g0 hm
      obtain ⟨⟨⟨q1, q2⟩, q3⟩, g5⟩ := g0
      have al : (ts.flatten ++ acc).length = ts.flatten.length + acc.length := List.length_append
      have rgq := bget_rg hby q
      refine zw_iload_n 2 rfl zd_MO_brackets_6 ?_
      refine zw_if_le 131 (by omega) zd_MO_brackets_7 (by decide) (fun c7 => ?_) (fun c7 => ?_)
      · -- 7 -> 131
        have g6 : acc = xs ∧ q = E + 1 ∧ 0 ≤ E := by
          rcases g5 with c | c
          · omega
          · exact c.2
        obtain ⟨rfl, rfl, -⟩ := g6
        refine zw_aload_n 0 rfl zd_MO_brackets_131 ?_
        refine zw_iconst zd_MO_brackets_132 ?_
        refine zw_aload_n 0 rfl zd_MO_brackets_133 ?_
        refine zw_callV (As := []) (rest := [.int (zI (5)), .ref h]) (L2 := []) (L' := [zMOd h (t) (ws) (addT ts acc) ([]) (op) (y) (r) (ct) (wh) (fd) (fr)]) (stk' := [.int (zI (((ixOf ts acc : Nat) : Int))), .int (zI (5)), .ref h]) (c_MO_text h t ws ts acc op y r ct wh fd fr (by omega)) [0] [] rfl rfl rfl zcal_MO_text zl_MO_76 zin_MO_text zse_MO_text 0 rfl zRv_MOd rfl (Nat.le_of_ble_eq_true rfl) (Nat.le_of_ble_eq_true rfl) (by omega) (by omega) rfl (Nat.le_of_ble_eq_true rfl) rfl rfl zd_MO_brackets_134 ?_
        refine zw_iload_n 1 rfl zd_MO_brackets_137 ?_
        refine zw_callV (As := [.int (zI (5)), .int (zI (((ixOf ts acc : Nat) : Int))), .int (zI (z))]) (rest := []) (L2 := []) (L' := [zMOd h (t) (ws ++ [(zI 5, (zI (((ixOf ts acc : Nat) : Int))), (zI (z)))]) (addT ts acc) ([]) (op) (y) (r) (ct) (wh) (fd) (fr)]) (stk' := []) (c_MO_word h t ws (addT ts acc) ([]) op y r ct wh fd fr 5 (zI (((ixOf ts acc : Nat) : Int))) (zI (z)) (by omega) (by omega)) [0] [] rfl rfl rfl zcal_MO_word zl_MO_110 zin_MO_word zse_MO_word 0 rfl zRv_MOd rfl (Nat.le_of_ble_eq_true rfl) (Nat.le_of_ble_eq_true rfl) (by omega) (by omega) rfl (Nat.le_of_ble_eq_true rfl) rfl rfl zd_MO_brackets_138 ?_
        refine zw_iload_n 3 rfl zd_MO_brackets_141 ?_
        exact zw_iret hR (rfl) (rfl) rfl (by omega) (by omega) zd_MO_brackets_142
      · -- 7 -> 10
        have g6 : brS t k q d acc = (xs, E) ∧ (t.length : Int) - q ≤ k := by
          rcases g5 with c | c
          · exact c.2
          · omega
        obtain ⟨g6, g7⟩ := g6
        refine zw_aload_n 0 rfl zd_MO_brackets_10 ?_
        refine zw_iload_n 3 rfl zd_MO_brackets_11 ?_
        refine zw_callV (As := [.int (zI (q))]) (rest := []) (L2 := []) (L' := [zMOd h (t) (ws) (ts) (acc) (op) (y) (r) (ct) (wh) (fd) (fr)]) (stk' := [.int (zI (bget t q))]) (c_MO_byteAt h t ws ts acc op y r ct wh fd fr q (by omega)) [0] [] rfl rfl rfl zcal_MO_byteAt zl_MO_51 zin_MO_byteAt zse_MO_byteAt 0 rfl zRv_MOd rfl (Nat.le_of_ble_eq_true rfl) (Nat.le_of_ble_eq_true rfl) (by omega) (by omega) rfl (Nat.le_of_ble_eq_true rfl) rfl rfl zd_MO_brackets_12 ?_
        have rg12 := bget_rg hby q
        refine zw_istore (lv' := [(4, .int (zI (bget t q))), (0, .ref h), (1, .int (zI (z))), (2, .int (zI (d))), (3, .int (zI (q)))]) (Nat.le_of_ble_eq_true rfl) rfl zd_MO_brackets_15 ?_
        refine zw_iload 0 rfl zd_MO_brackets_17 ?_
        refine zw_if_ge 32 (by omega) zd_MO_brackets_19 (by decide) (fun c19 => ?_) (fun c19 => ?_)
        · -- 19 -> 32
          have hqi := bget_in (l := t) (z := q) (by omega)
          refine zw_iload 0 rfl zd_MO_brackets_32 ?_
          refine zw_bipush rfl zd_MO_brackets_34 ?_
          refine zw_icmp_ne 53 (by omega) (by omega) zd_MO_brackets_36 (by decide) (fun c36 => ?_) (fun c36 => ?_)
          · -- 36 -> 53
            have h92 : bget t q ≠ 92 := by omega
            refine zw_iload_n 3 rfl zd_MO_brackets_53 ?_
            refine zw_iload 0 rfl zd_MO_brackets_54 ?_
            refine zw_bipush rfl zd_MO_brackets_56 ?_
            refine zw_icmp_ne 65 (by omega) (by omega) zd_MO_brackets_58 (by decide) (fun c58 => ?_) (fun c58 => ?_)
            · -- 58 -> 65
              refine zw_iload 0 rfl zd_MO_brackets_65 ?_
              refine zw_bipush rfl zd_MO_brackets_67 ?_
              refine zw_icmp_ne 76 (by omega) (by omega) zd_MO_brackets_69 (by decide) (fun c69 => ?_) (fun c69 => ?_)
              · -- 69 -> 76
                refine zw_iconst zd_MO_brackets_76 ?_
                refine zw_iadd zd_MO_brackets_77 ?_
                refine zw_istore_n (lv' := [(2, .int (zI (d + 0))), (4, .int (zI (bget t q))), (0, .ref h), (1, .int (zI (z))), (3, .int (zI (q)))]) (Nat.le_of_ble_eq_true rfl) rfl zd_MO_brackets_78 ?_
                have edl : d + 0 = d + dlt (bget t q) := by unfold dlt; first | (rw [if_pos (by omega)]) | (rw [if_neg (by omega), if_pos (by omega)]) | (rw [if_neg (by omega), if_neg (by omega)])
                have dl1 : -1 ≤ dlt (bget t q) ∧ dlt (bget t q) ≤ 1 := by
                  unfold dlt
                  repeat' split
                  all_goals omega
                refine zw_eqv (lv' := [(2, .int (zI (d + dlt (bget t q)))), (4, .int (zI (bget t q))), (0, .ref h), (1, .int (zI (z))), (3, .int (zI (q)))]) (by rw [edl]) ?_
                refine zw_iload_n 0 rfl zd_MO_brackets_79 ?_
                refine zw_if_le 101 (by omega) zd_MO_brackets_80 (by decide) (fun c80 => ?_) (fun c80 => ?_)
                · -- 80 -> 101
                  obtain ⟨e7, e8⟩ := brS_end (by omega) g7 h92 (by omega) g6
                  refine zw_iload_n 4 rfl zd_MO_brackets_101 ?_
                  refine zw_iload 1 rfl zd_MO_brackets_102 ?_
                  refine zw_bipush rfl zd_MO_brackets_104 ?_
                  refine zw_icmp_ne 125 (by omega) (by omega) zd_MO_brackets_106 (by decide) (fun c106 => ?_) (fun c106 => ?_)
                  · -- 106 -> 125
                    refine zw_iconst zd_MO_brackets_125 ?_
                    refine zw_iadd zd_MO_brackets_126 ?_
                    refine zw_istore_n (lv' := [(3, .int (zI (q + 1))), (2, .int (zI (d + dlt (bget t q)))), (4, .int (zI (bget t q))), (0, .ref h), (1, .int (zI (z)))]) (Nat.le_of_ble_eq_true rfl) rfl zd_MO_brackets_127 ?_
                    refine zw_goto 6 zd_MO_brackets_128 (by decide) ?_
                    refine zw_lpick (lv' := [(0, .ref h), (1, .int (zI (z))), (2, .int (zI (d + dlt (bget t q)))), (3, .int (zI (q + 1)))]) [3, 4, 1, 0] rfl ?_
                    refine zw_widen (k' := 0) (n' := 0) (by omega) (by omega) ?_
                    first
                    | (exfalso; omega)
                    | exact ih 0 (q + 1) (d + dlt (bget t q)) acc ⟨by omega, Or.inr ⟨by omega, e7.symm, by omega, by omega⟩⟩ (by omega)
                  · -- 106 -> 109
                    refine zw_aload_n 2 rfl zd_MO_brackets_109 ?_
                    refine zw_iload_n 4 rfl zd_MO_brackets_110 ?_
                    refine zw_iconst zd_MO_brackets_111 ?_
                    refine zw_iadd zd_MO_brackets_112 ?_
                    refine zw_callV (As := [.int (zI (q + 1))]) (rest := [.int (zI (q))]) (L2 := []) (L' := [zMOd h (t) (ws) (ts) (acc) (op) (y) (r) (ct) (wh) (fd) (fr)]) (stk' := [.int (zI (bget t (q + 1))), .int (zI (q))]) (c_MO_byteAt h t ws ts acc op y r ct wh fd fr (q + 1) (by omega)) [0] [] rfl rfl rfl zcal_MO_byteAt zl_MO_51 zin_MO_byteAt zse_MO_byteAt 0 rfl zRv_MOd rfl (Nat.le_of_ble_eq_true rfl) (Nat.le_of_ble_eq_true rfl) (by omega) (by omega) rfl (Nat.le_of_ble_eq_true rfl) rfl rfl zd_MO_brackets_113 ?_
                    have rg113 := bget_rg hby (q + 1)
                    refine zw_bipush rfl zd_MO_brackets_116 ?_
                    refine zw_icmp_ne 125 (by omega) (by omega) zd_MO_brackets_118 (by decide) (fun c118 => ?_) (fun c118 => ?_)
                    · -- 118 -> 125
                      refine zw_iconst zd_MO_brackets_125 ?_
                      refine zw_iadd zd_MO_brackets_126 ?_
                      refine zw_istore_n (lv' := [(3, .int (zI (q + 1))), (2, .int (zI (d + dlt (bget t q)))), (4, .int (zI (bget t q))), (0, .ref h), (1, .int (zI (z)))]) (Nat.le_of_ble_eq_true rfl) rfl zd_MO_brackets_127 ?_
                      refine zw_goto 6 zd_MO_brackets_128 (by decide) ?_
                      refine zw_lpick (lv' := [(0, .ref h), (1, .int (zI (z))), (2, .int (zI (d + dlt (bget t q)))), (3, .int (zI (q + 1)))]) [3, 4, 1, 0] rfl ?_
                      refine zw_widen (k' := 0) (n' := 0) (by omega) (by omega) ?_
                      first
                      | (exfalso; omega)
                      | exact ih 0 (q + 1) (d + dlt (bget t q)) acc ⟨by omega, Or.inr ⟨by omega, e7.symm, by omega, by omega⟩⟩ (by omega)
                    · -- 118 -> 121
                      refine zw_iconst zd_MO_brackets_121 ?_
                      refine zw_goto 126 zd_MO_brackets_122 (by decide) ?_
                      refine zw_iadd zd_MO_brackets_126 ?_
                      refine zw_istore_n (lv' := [(3, .int (zI (q + 2))), (2, .int (zI (d + dlt (bget t q)))), (4, .int (zI (bget t q))), (0, .ref h), (1, .int (zI (z)))]) (Nat.le_of_ble_eq_true rfl) rfl zd_MO_brackets_127 ?_
                      refine zw_goto 6 zd_MO_brackets_128 (by decide) ?_
                      refine zw_lpick (lv' := [(0, .ref h), (1, .int (zI (z))), (2, .int (zI (d + dlt (bget t q)))), (3, .int (zI (q + 2)))]) [3, 4, 1, 0] rfl ?_
                      refine zw_widen (k' := 0) (n' := 0) (by omega) (by omega) ?_
                      first
                      | (exfalso; omega)
                      | exact ih 0 (q + 2) (d + dlt (bget t q)) acc ⟨by omega, Or.inr ⟨by omega, e7.symm, by omega, by omega⟩⟩ (by omega)
                · -- 80 -> 83
                  obtain ⟨k2, rfl, g8⟩ := brS_go (by omega) g7 h92 (by omega) g6
                  refine zw_aload_n 2 rfl zd_MO_brackets_83 ?_
                  refine zw_iload 1 rfl zd_MO_brackets_84 ?_
                  refine zw_bipush rfl zd_MO_brackets_86 ?_
                  refine zw_icmp_ne 96 (by omega) (by omega) zd_MO_brackets_88 (by decide) (fun c88 => ?_) (fun c88 => ?_)
                  · -- 88 -> 96
                    refine zw_iload 1 rfl zd_MO_brackets_96 ?_
                    refine zw_callV (As := [.int (zI (bget t q))]) (rest := []) (L2 := []) (L' := [zMOd h (t) (ws) (ts) (acc ++ [(bget t q) % 256]) (op) (y) (r) (ct) (wh) (fd) (fr)]) (stk' := []) (c_MO_drop h t ws ts acc op y r ct wh fd fr (bget t q) (by omega)) [0] [] rfl rfl rfl zcal_MO_drop zl_MO_72 zin_MO_drop zse_MO_drop 0 rfl zRv_MOd rfl (Nat.le_of_ble_eq_true rfl) (Nat.le_of_ble_eq_true rfl) (by omega) (by omega) rfl (Nat.le_of_ble_eq_true rfl) rfl rfl zd_MO_brackets_98 ?_
                    refine zw_iload_n 4 rfl zd_MO_brackets_101 ?_
                    refine zw_iload 1 rfl zd_MO_brackets_102 ?_
                    refine zw_bipush rfl zd_MO_brackets_104 ?_
                    refine zw_icmp_ne 125 (by omega) (by omega) zd_MO_brackets_106 (by decide) (fun c106 => ?_) (fun c106 => ?_)
                    · -- 106 -> 125
                      refine zw_iconst zd_MO_brackets_125 ?_
                      refine zw_iadd zd_MO_brackets_126 ?_
                      refine zw_istore_n (lv' := [(3, .int (zI (q + 1))), (2, .int (zI (d + dlt (bget t q)))), (4, .int (zI (bget t q))), (0, .ref h), (1, .int (zI (z)))]) (Nat.le_of_ble_eq_true rfl) rfl zd_MO_brackets_127 ?_
                      refine zw_goto 6 zd_MO_brackets_128 (by decide) ?_
                      refine zw_lpick (lv' := [(0, .ref h), (1, .int (zI (z))), (2, .int (zI (d + dlt (bget t q)))), (3, .int (zI (q + 1)))]) [3, 4, 1, 0] rfl ?_
                      refine zw_widen (k' := 0) (n' := 0) (by omega) (by omega) ?_
                      first
                      | (exfalso; omega)
                      | (have ex : (if bget t q = 13 ∧ bget t (q + 1) = 10 then q + 2 else q + 1) = q + 1 := by first | rw [if_pos (by omega)] | rw [if_neg (by omega)]
                         have ey : [if bget t q = 13 then 10 else bget t q] = [(bget t q) % 256] := by first | (rw [if_pos (by omega)]; rfl) | (rw [if_neg (by omega)]; congr 1; omega)
                         rw [ex, ey] at g8
                         have hq2 : q + 1 ≤ t.length := by rw [← ex]; split; (have := bget_in (l := t) (z := q + 1) (by omega); omega); omega
                         have al2 : (acc ++ [(bget t q) % 256]).length = acc.length + 1 := List.length_append
                         exact ih k2 (q + 1) (d + dlt (bget t q)) (acc ++ [(bget t q) % 256]) ⟨by omega, Or.inl ⟨by omega, g8, by omega⟩⟩ (by omega))
                    · -- 106 -> 109
                      refine zw_aload_n 2 rfl zd_MO_brackets_109 ?_
                      refine zw_iload_n 4 rfl zd_MO_brackets_110 ?_
                      refine zw_iconst zd_MO_brackets_111 ?_
                      refine zw_iadd zd_MO_brackets_112 ?_
                      refine zw_callV (As := [.int (zI (q + 1))]) (rest := [.int (zI (q))]) (L2 := []) (L' := [zMOd h (t) (ws) (ts) (acc ++ [(bget t q) % 256]) (op) (y) (r) (ct) (wh) (fd) (fr)]) (stk' := [.int (zI (bget t (q + 1))), .int (zI (q))]) (c_MO_byteAt h t ws ts (acc ++ [(bget t q) % 256]) op y r ct wh fd fr (q + 1) (by omega)) [0] [] rfl rfl rfl zcal_MO_byteAt zl_MO_51 zin_MO_byteAt zse_MO_byteAt 0 rfl zRv_MOd rfl (Nat.le_of_ble_eq_true rfl) (Nat.le_of_ble_eq_true rfl) (by omega) (by omega) rfl (Nat.le_of_ble_eq_true rfl) rfl rfl zd_MO_brackets_113 ?_
                      have rg113 := bget_rg hby (q + 1)
                      refine zw_bipush rfl zd_MO_brackets_116 ?_
                      refine zw_icmp_ne 125 (by omega) (by omega) zd_MO_brackets_118 (by decide) (fun c118 => ?_) (fun c118 => ?_)
                      · -- 118 -> 125
                        refine zw_iconst zd_MO_brackets_125 ?_
                        refine zw_iadd zd_MO_brackets_126 ?_
                        refine zw_istore_n (lv' := [(3, .int (zI (q + 1))), (2, .int (zI (d + dlt (bget t q)))), (4, .int (zI (bget t q))), (0, .ref h), (1, .int (zI (z)))]) (Nat.le_of_ble_eq_true rfl) rfl zd_MO_brackets_127 ?_
                        refine zw_goto 6 zd_MO_brackets_128 (by decide) ?_
                        refine zw_lpick (lv' := [(0, .ref h), (1, .int (zI (z))), (2, .int (zI (d + dlt (bget t q)))), (3, .int (zI (q + 1)))]) [3, 4, 1, 0] rfl ?_
                        refine zw_widen (k' := 0) (n' := 0) (by omega) (by omega) ?_
                        first
                        | (exfalso; omega)
                        | (have ex : (if bget t q = 13 ∧ bget t (q + 1) = 10 then q + 2 else q + 1) = q + 1 := by first | rw [if_pos (by omega)] | rw [if_neg (by omega)]
                           have ey : [if bget t q = 13 then 10 else bget t q] = [(bget t q) % 256] := by first | (rw [if_pos (by omega)]; rfl) | (rw [if_neg (by omega)]; congr 1; omega)
                           rw [ex, ey] at g8
                           have hq2 : q + 1 ≤ t.length := by rw [← ex]; split; (have := bget_in (l := t) (z := q + 1) (by omega); omega); omega
                           have al2 : (acc ++ [(bget t q) % 256]).length = acc.length + 1 := List.length_append
                           exact ih k2 (q + 1) (d + dlt (bget t q)) (acc ++ [(bget t q) % 256]) ⟨by omega, Or.inl ⟨by omega, g8, by omega⟩⟩ (by omega))
                      · -- 118 -> 121
                        refine zw_iconst zd_MO_brackets_121 ?_
                        refine zw_goto 126 zd_MO_brackets_122 (by decide) ?_
                        refine zw_iadd zd_MO_brackets_126 ?_
                        refine zw_istore_n (lv' := [(3, .int (zI (q + 2))), (2, .int (zI (d + dlt (bget t q)))), (4, .int (zI (bget t q))), (0, .ref h), (1, .int (zI (z)))]) (Nat.le_of_ble_eq_true rfl) rfl zd_MO_brackets_127 ?_
                        refine zw_goto 6 zd_MO_brackets_128 (by decide) ?_
                        refine zw_lpick (lv' := [(0, .ref h), (1, .int (zI (z))), (2, .int (zI (d + dlt (bget t q)))), (3, .int (zI (q + 2)))]) [3, 4, 1, 0] rfl ?_
                        refine zw_widen (k' := 0) (n' := 0) (by omega) (by omega) ?_
                        first
                        | (exfalso; omega)
                        | (have ex : (if bget t q = 13 ∧ bget t (q + 1) = 10 then q + 2 else q + 1) = q + 2 := by first | rw [if_pos (by omega)] | rw [if_neg (by omega)]
                           have ey : [if bget t q = 13 then 10 else bget t q] = [(bget t q) % 256] := by first | (rw [if_pos (by omega)]; rfl) | (rw [if_neg (by omega)]; congr 1; omega)
                           rw [ex, ey] at g8
                           have hq2 : q + 2 ≤ t.length := by rw [← ex]; split; (have := bget_in (l := t) (z := q + 1) (by omega); omega); omega
                           have al2 : (acc ++ [(bget t q) % 256]).length = acc.length + 1 := List.length_append
                           exact ih k2 (q + 2) (d + dlt (bget t q)) (acc ++ [(bget t q) % 256]) ⟨by omega, Or.inl ⟨by omega, g8, by omega⟩⟩ (by omega))
                  · -- 88 -> 91
                    refine zw_bipush rfl zd_MO_brackets_91 ?_
                    refine zw_goto 98 zd_MO_brackets_93 (by decide) ?_
                    refine zw_callV (As := [.int (zI (10))]) (rest := []) (L2 := []) (L' := [zMOd h (t) (ws) (ts) (acc ++ [10 % 256]) (op) (y) (r) (ct) (wh) (fd) (fr)]) (stk' := []) (c_MO_drop h t ws ts acc op y r ct wh fd fr 10 (by omega)) [0] [] rfl rfl rfl zcal_MO_drop zl_MO_72 zin_MO_drop zse_MO_drop 0 rfl zRv_MOd rfl (Nat.le_of_ble_eq_true rfl) (Nat.le_of_ble_eq_true rfl) (by omega) (by omega) rfl (Nat.le_of_ble_eq_true rfl) rfl rfl zd_MO_brackets_98 ?_
                    refine zw_iload_n 4 rfl zd_MO_brackets_101 ?_
                    refine zw_iload 1 rfl zd_MO_brackets_102 ?_
                    refine zw_bipush rfl zd_MO_brackets_104 ?_
                    refine zw_icmp_ne 125 (by omega) (by omega) zd_MO_brackets_106 (by decide) (fun c106 => ?_) (fun c106 => ?_)
                    · -- 106 -> 125
                      refine zw_iconst zd_MO_brackets_125 ?_
                      refine zw_iadd zd_MO_brackets_126 ?_
                      refine zw_istore_n (lv' := [(3, .int (zI (q + 1))), (2, .int (zI (d + dlt (bget t q)))), (4, .int (zI (bget t q))), (0, .ref h), (1, .int (zI (z)))]) (Nat.le_of_ble_eq_true rfl) rfl zd_MO_brackets_127 ?_
                      refine zw_goto 6 zd_MO_brackets_128 (by decide) ?_
                      refine zw_lpick (lv' := [(0, .ref h), (1, .int (zI (z))), (2, .int (zI (d + dlt (bget t q)))), (3, .int (zI (q + 1)))]) [3, 4, 1, 0] rfl ?_
                      refine zw_widen (k' := 0) (n' := 0) (by omega) (by omega) ?_
                      first
                      | (exfalso; omega)
                      | (have ex : (if bget t q = 13 ∧ bget t (q + 1) = 10 then q + 2 else q + 1) = q + 1 := by first | rw [if_pos (by omega)] | rw [if_neg (by omega)]
                         have ey : [if bget t q = 13 then 10 else bget t q] = [10 % 256] := by first | (rw [if_pos (by omega)]; rfl) | (rw [if_neg (by omega)]; congr 1; omega)
                         rw [ex, ey] at g8
                         have hq2 : q + 1 ≤ t.length := by rw [← ex]; split; (have := bget_in (l := t) (z := q + 1) (by omega); omega); omega
                         have al2 : (acc ++ [10 % 256]).length = acc.length + 1 := List.length_append
                         exact ih k2 (q + 1) (d + dlt (bget t q)) (acc ++ [10 % 256]) ⟨by omega, Or.inl ⟨by omega, g8, by omega⟩⟩ (by omega))
                    · -- 106 -> 109
                      refine zw_aload_n 2 rfl zd_MO_brackets_109 ?_
                      refine zw_iload_n 4 rfl zd_MO_brackets_110 ?_
                      refine zw_iconst zd_MO_brackets_111 ?_
                      refine zw_iadd zd_MO_brackets_112 ?_
                      refine zw_callV (As := [.int (zI (q + 1))]) (rest := [.int (zI (q))]) (L2 := []) (L' := [zMOd h (t) (ws) (ts) (acc ++ [10 % 256]) (op) (y) (r) (ct) (wh) (fd) (fr)]) (stk' := [.int (zI (bget t (q + 1))), .int (zI (q))]) (c_MO_byteAt h t ws ts (acc ++ [10 % 256]) op y r ct wh fd fr (q + 1) (by omega)) [0] [] rfl rfl rfl zcal_MO_byteAt zl_MO_51 zin_MO_byteAt zse_MO_byteAt 0 rfl zRv_MOd rfl (Nat.le_of_ble_eq_true rfl) (Nat.le_of_ble_eq_true rfl) (by omega) (by omega) rfl (Nat.le_of_ble_eq_true rfl) rfl rfl zd_MO_brackets_113 ?_
                      have rg113 := bget_rg hby (q + 1)
                      refine zw_bipush rfl zd_MO_brackets_116 ?_
                      refine zw_icmp_ne 125 (by omega) (by omega) zd_MO_brackets_118 (by decide) (fun c118 => ?_) (fun c118 => ?_)
                      · -- 118 -> 125
                        refine zw_iconst zd_MO_brackets_125 ?_
                        refine zw_iadd zd_MO_brackets_126 ?_
                        refine zw_istore_n (lv' := [(3, .int (zI (q + 1))), (2, .int (zI (d + dlt (bget t q)))), (4, .int (zI (bget t q))), (0, .ref h), (1, .int (zI (z)))]) (Nat.le_of_ble_eq_true rfl) rfl zd_MO_brackets_127 ?_
                        refine zw_goto 6 zd_MO_brackets_128 (by decide) ?_
                        refine zw_lpick (lv' := [(0, .ref h), (1, .int (zI (z))), (2, .int (zI (d + dlt (bget t q)))), (3, .int (zI (q + 1)))]) [3, 4, 1, 0] rfl ?_
                        refine zw_widen (k' := 0) (n' := 0) (by omega) (by omega) ?_
                        first
                        | (exfalso; omega)
                        | (have ex : (if bget t q = 13 ∧ bget t (q + 1) = 10 then q + 2 else q + 1) = q + 1 := by first | rw [if_pos (by omega)] | rw [if_neg (by omega)]
                           have ey : [if bget t q = 13 then 10 else bget t q] = [10 % 256] := by first | (rw [if_pos (by omega)]; rfl) | (rw [if_neg (by omega)]; congr 1; omega)
                           rw [ex, ey] at g8
                           have hq2 : q + 1 ≤ t.length := by rw [← ex]; split; (have := bget_in (l := t) (z := q + 1) (by omega); omega); omega
                           have al2 : (acc ++ [10 % 256]).length = acc.length + 1 := List.length_append
                           exact ih k2 (q + 1) (d + dlt (bget t q)) (acc ++ [10 % 256]) ⟨by omega, Or.inl ⟨by omega, g8, by omega⟩⟩ (by omega))
                      · -- 118 -> 121
                        refine zw_iconst zd_MO_brackets_121 ?_
                        refine zw_goto 126 zd_MO_brackets_122 (by decide) ?_
                        refine zw_iadd zd_MO_brackets_126 ?_
                        refine zw_istore_n (lv' := [(3, .int (zI (q + 2))), (2, .int (zI (d + dlt (bget t q)))), (4, .int (zI (bget t q))), (0, .ref h), (1, .int (zI (z)))]) (Nat.le_of_ble_eq_true rfl) rfl zd_MO_brackets_127 ?_
                        refine zw_goto 6 zd_MO_brackets_128 (by decide) ?_
                        refine zw_lpick (lv' := [(0, .ref h), (1, .int (zI (z))), (2, .int (zI (d + dlt (bget t q)))), (3, .int (zI (q + 2)))]) [3, 4, 1, 0] rfl ?_
                        refine zw_widen (k' := 0) (n' := 0) (by omega) (by omega) ?_
                        first
                        | (exfalso; omega)
                        | (have ex : (if bget t q = 13 ∧ bget t (q + 1) = 10 then q + 2 else q + 1) = q + 2 := by first | rw [if_pos (by omega)] | rw [if_neg (by omega)]
                           have ey : [if bget t q = 13 then 10 else bget t q] = [10 % 256] := by first | (rw [if_pos (by omega)]; rfl) | (rw [if_neg (by omega)]; congr 1; omega)
                           rw [ex, ey] at g8
                           have hq2 : q + 2 ≤ t.length := by rw [← ex]; split; (have := bget_in (l := t) (z := q + 1) (by omega); omega); omega
                           have al2 : (acc ++ [10 % 256]).length = acc.length + 1 := List.length_append
                           exact ih k2 (q + 2) (d + dlt (bget t q)) (acc ++ [10 % 256]) ⟨by omega, Or.inl ⟨by omega, g8, by omega⟩⟩ (by omega))
              · -- 69 -> 72
                refine zw_iconst zd_MO_brackets_72 ?_
                refine zw_goto 77 zd_MO_brackets_73 (by decide) ?_
                refine zw_iadd zd_MO_brackets_77 ?_
                refine zw_istore_n (lv' := [(2, .int (zI (d + (-1)))), (4, .int (zI (bget t q))), (0, .ref h), (1, .int (zI (z))), (3, .int (zI (q)))]) (Nat.le_of_ble_eq_true rfl) rfl zd_MO_brackets_78 ?_
                have edl : d + (-1) = d + dlt (bget t q) := by unfold dlt; first | (rw [if_pos (by omega)]) | (rw [if_neg (by omega), if_pos (by omega)]) | (rw [if_neg (by omega), if_neg (by omega)])
                have dl1 : -1 ≤ dlt (bget t q) ∧ dlt (bget t q) ≤ 1 := by
                  unfold dlt
                  repeat' split
                  all_goals omega
                refine zw_eqv (lv' := [(2, .int (zI (d + dlt (bget t q)))), (4, .int (zI (bget t q))), (0, .ref h), (1, .int (zI (z))), (3, .int (zI (q)))]) (by rw [edl]) ?_
                refine zw_iload_n 0 rfl zd_MO_brackets_79 ?_
                refine zw_if_le 101 (by omega) zd_MO_brackets_80 (by decide) (fun c80 => ?_) (fun c80 => ?_)
                · -- 80 -> 101
                  obtain ⟨e7, e8⟩ := brS_end (by omega) g7 h92 (by omega) g6
                  refine zw_iload_n 4 rfl zd_MO_brackets_101 ?_
                  refine zw_iload 1 rfl zd_MO_brackets_102 ?_
                  refine zw_bipush rfl zd_MO_brackets_104 ?_
                  refine zw_icmp_ne 125 (by omega) (by omega) zd_MO_brackets_106 (by decide) (fun c106 => ?_) (fun c106 => ?_)
                  · -- 106 -> 125
                    refine zw_iconst zd_MO_brackets_125 ?_
                    refine zw_iadd zd_MO_brackets_126 ?_
                    refine zw_istore_n (lv' := [(3, .int (zI (q + 1))), (2, .int (zI (d + dlt (bget t q)))), (4, .int (zI (bget t q))), (0, .ref h), (1, .int (zI (z)))]) (Nat.le_of_ble_eq_true rfl) rfl zd_MO_brackets_127 ?_
                    refine zw_goto 6 zd_MO_brackets_128 (by decide) ?_
                    refine zw_lpick (lv' := [(0, .ref h), (1, .int (zI (z))), (2, .int (zI (d + dlt (bget t q)))), (3, .int (zI (q + 1)))]) [3, 4, 1, 0] rfl ?_
                    refine zw_widen (k' := 0) (n' := 0) (by omega) (by omega) ?_
                    first
                    | (exfalso; omega)
                    | exact ih 0 (q + 1) (d + dlt (bget t q)) acc ⟨by omega, Or.inr ⟨by omega, e7.symm, by omega, by omega⟩⟩ (by omega)
                  · -- 106 -> 109
                    refine zw_aload_n 2 rfl zd_MO_brackets_109 ?_
                    refine zw_iload_n 4 rfl zd_MO_brackets_110 ?_
                    refine zw_iconst zd_MO_brackets_111 ?_
                    refine zw_iadd zd_MO_brackets_112 ?_
                    refine zw_callV (As := [.int (zI (q + 1))]) (rest := [.int (zI (q))]) (L2 := []) (L' := [zMOd h (t) (ws) (ts) (acc) (op) (y) (r) (ct) (wh) (fd) (fr)]) (stk' := [.int (zI (bget t (q + 1))), .int (zI (q))]) (c_MO_byteAt h t ws ts acc op y r ct wh fd fr (q + 1) (by omega)) [0] [] rfl rfl rfl zcal_MO_byteAt zl_MO_51 zin_MO_byteAt zse_MO_byteAt 0 rfl zRv_MOd rfl (Nat.le_of_ble_eq_true rfl) (Nat.le_of_ble_eq_true rfl) (by omega) (by omega) rfl (Nat.le_of_ble_eq_true rfl) rfl rfl zd_MO_brackets_113 ?_
                    have rg113 := bget_rg hby (q + 1)
                    refine zw_bipush rfl zd_MO_brackets_116 ?_
                    refine zw_icmp_ne 125 (by omega) (by omega) zd_MO_brackets_118 (by decide) (fun c118 => ?_) (fun c118 => ?_)
                    · -- 118 -> 125
                      refine zw_iconst zd_MO_brackets_125 ?_
                      refine zw_iadd zd_MO_brackets_126 ?_
                      refine zw_istore_n (lv' := [(3, .int (zI (q + 1))), (2, .int (zI (d + dlt (bget t q)))), (4, .int (zI (bget t q))), (0, .ref h), (1, .int (zI (z)))]) (Nat.le_of_ble_eq_true rfl) rfl zd_MO_brackets_127 ?_
                      refine zw_goto 6 zd_MO_brackets_128 (by decide) ?_
                      refine zw_lpick (lv' := [(0, .ref h), (1, .int (zI (z))), (2, .int (zI (d + dlt (bget t q)))), (3, .int (zI (q + 1)))]) [3, 4, 1, 0] rfl ?_
                      refine zw_widen (k' := 0) (n' := 0) (by omega) (by omega) ?_
                      first
                      | (exfalso; omega)
                      | exact ih 0 (q + 1) (d + dlt (bget t q)) acc ⟨by omega, Or.inr ⟨by omega, e7.symm, by omega, by omega⟩⟩ (by omega)
                    · -- 118 -> 121
                      refine zw_iconst zd_MO_brackets_121 ?_
                      refine zw_goto 126 zd_MO_brackets_122 (by decide) ?_
                      refine zw_iadd zd_MO_brackets_126 ?_
                      refine zw_istore_n (lv' := [(3, .int (zI (q + 2))), (2, .int (zI (d + dlt (bget t q)))), (4, .int (zI (bget t q))), (0, .ref h), (1, .int (zI (z)))]) (Nat.le_of_ble_eq_true rfl) rfl zd_MO_brackets_127 ?_
                      refine zw_goto 6 zd_MO_brackets_128 (by decide) ?_
                      refine zw_lpick (lv' := [(0, .ref h), (1, .int (zI (z))), (2, .int (zI (d + dlt (bget t q)))), (3, .int (zI (q + 2)))]) [3, 4, 1, 0] rfl ?_
                      refine zw_widen (k' := 0) (n' := 0) (by omega) (by omega) ?_
                      first
                      | (exfalso; omega)
                      | exact ih 0 (q + 2) (d + dlt (bget t q)) acc ⟨by omega, Or.inr ⟨by omega, e7.symm, by omega, by omega⟩⟩ (by omega)
                · -- 80 -> 83
                  obtain ⟨k2, rfl, g8⟩ := brS_go (by omega) g7 h92 (by omega) g6
                  refine zw_aload_n 2 rfl zd_MO_brackets_83 ?_
                  refine zw_iload 1 rfl zd_MO_brackets_84 ?_
                  refine zw_bipush rfl zd_MO_brackets_86 ?_
                  refine zw_icmp_ne 96 (by omega) (by omega) zd_MO_brackets_88 (by decide) (fun c88 => ?_) (fun c88 => ?_)
                  · -- 88 -> 96
                    refine zw_iload 1 rfl zd_MO_brackets_96 ?_
                    refine zw_callV (As := [.int (zI (bget t q))]) (rest := []) (L2 := []) (L' := [zMOd h (t) (ws) (ts) (acc ++ [(bget t q) % 256]) (op) (y) (r) (ct) (wh) (fd) (fr)]) (stk' := []) (c_MO_drop h t ws ts acc op y r ct wh fd fr (bget t q) (by omega)) [0] [] rfl rfl rfl zcal_MO_drop zl_MO_72 zin_MO_drop zse_MO_drop 0 rfl zRv_MOd rfl (Nat.le_of_ble_eq_true rfl) (Nat.le_of_ble_eq_true rfl) (by omega) (by omega) rfl (Nat.le_of_ble_eq_true rfl) rfl rfl zd_MO_brackets_98 ?_
                    refine zw_iload_n 4 rfl zd_MO_brackets_101 ?_
                    refine zw_iload 1 rfl zd_MO_brackets_102 ?_
                    refine zw_bipush rfl zd_MO_brackets_104 ?_
                    refine zw_icmp_ne 125 (by omega) (by omega) zd_MO_brackets_106 (by decide) (fun c106 => ?_) (fun c106 => ?_)
                    · -- 106 -> 125
                      refine zw_iconst zd_MO_brackets_125 ?_
                      refine zw_iadd zd_MO_brackets_126 ?_
                      refine zw_istore_n (lv' := [(3, .int (zI (q + 1))), (2, .int (zI (d + dlt (bget t q)))), (4, .int (zI (bget t q))), (0, .ref h), (1, .int (zI (z)))]) (Nat.le_of_ble_eq_true rfl) rfl zd_MO_brackets_127 ?_
                      refine zw_goto 6 zd_MO_brackets_128 (by decide) ?_
                      refine zw_lpick (lv' := [(0, .ref h), (1, .int (zI (z))), (2, .int (zI (d + dlt (bget t q)))), (3, .int (zI (q + 1)))]) [3, 4, 1, 0] rfl ?_
                      refine zw_widen (k' := 0) (n' := 0) (by omega) (by omega) ?_
                      first
                      | (exfalso; omega)
                      | (have ex : (if bget t q = 13 ∧ bget t (q + 1) = 10 then q + 2 else q + 1) = q + 1 := by first | rw [if_pos (by omega)] | rw [if_neg (by omega)]
                         have ey : [if bget t q = 13 then 10 else bget t q] = [(bget t q) % 256] := by first | (rw [if_pos (by omega)]; rfl) | (rw [if_neg (by omega)]; congr 1; omega)
                         rw [ex, ey] at g8
                         have hq2 : q + 1 ≤ t.length := by rw [← ex]; split; (have := bget_in (l := t) (z := q + 1) (by omega); omega); omega
                         have al2 : (acc ++ [(bget t q) % 256]).length = acc.length + 1 := List.length_append
                         exact ih k2 (q + 1) (d + dlt (bget t q)) (acc ++ [(bget t q) % 256]) ⟨by omega, Or.inl ⟨by omega, g8, by omega⟩⟩ (by omega))
                    · -- 106 -> 109
                      refine zw_aload_n 2 rfl zd_MO_brackets_109 ?_
                      refine zw_iload_n 4 rfl zd_MO_brackets_110 ?_
                      refine zw_iconst zd_MO_brackets_111 ?_
                      refine zw_iadd zd_MO_brackets_112 ?_
                      refine zw_callV (As := [.int (zI (q + 1))]) (rest := [.int (zI (q))]) (L2 := []) (L' := [zMOd h (t) (ws) (ts) (acc ++ [(bget t q) % 256]) (op) (y) (r) (ct) (wh) (fd) (fr)]) (stk' := [.int (zI (bget t (q + 1))), .int (zI (q))]) (c_MO_byteAt h t ws ts (acc ++ [(bget t q) % 256]) op y r ct wh fd fr (q + 1) (by omega)) [0] [] rfl rfl rfl zcal_MO_byteAt zl_MO_51 zin_MO_byteAt zse_MO_byteAt 0 rfl zRv_MOd rfl (Nat.le_of_ble_eq_true rfl) (Nat.le_of_ble_eq_true rfl) (by omega) (by omega) rfl (Nat.le_of_ble_eq_true rfl) rfl rfl zd_MO_brackets_113 ?_
                      have rg113 := bget_rg hby (q + 1)
                      refine zw_bipush rfl zd_MO_brackets_116 ?_
                      refine zw_icmp_ne 125 (by omega) (by omega) zd_MO_brackets_118 (by decide) (fun c118 => ?_) (fun c118 => ?_)
                      · -- 118 -> 125
                        refine zw_iconst zd_MO_brackets_125 ?_
                        refine zw_iadd zd_MO_brackets_126 ?_
                        refine zw_istore_n (lv' := [(3, .int (zI (q + 1))), (2, .int (zI (d + dlt (bget t q)))), (4, .int (zI (bget t q))), (0, .ref h), (1, .int (zI (z)))]) (Nat.le_of_ble_eq_true rfl) rfl zd_MO_brackets_127 ?_
                        refine zw_goto 6 zd_MO_brackets_128 (by decide) ?_
                        refine zw_lpick (lv' := [(0, .ref h), (1, .int (zI (z))), (2, .int (zI (d + dlt (bget t q)))), (3, .int (zI (q + 1)))]) [3, 4, 1, 0] rfl ?_
                        refine zw_widen (k' := 0) (n' := 0) (by omega) (by omega) ?_
                        first
                        | (exfalso; omega)
                        | (have ex : (if bget t q = 13 ∧ bget t (q + 1) = 10 then q + 2 else q + 1) = q + 1 := by first | rw [if_pos (by omega)] | rw [if_neg (by omega)]
                           have ey : [if bget t q = 13 then 10 else bget t q] = [(bget t q) % 256] := by first | (rw [if_pos (by omega)]; rfl) | (rw [if_neg (by omega)]; congr 1; omega)
                           rw [ex, ey] at g8
                           have hq2 : q + 1 ≤ t.length := by rw [← ex]; split; (have := bget_in (l := t) (z := q + 1) (by omega); omega); omega
                           have al2 : (acc ++ [(bget t q) % 256]).length = acc.length + 1 := List.length_append
                           exact ih k2 (q + 1) (d + dlt (bget t q)) (acc ++ [(bget t q) % 256]) ⟨by omega, Or.inl ⟨by omega, g8, by omega⟩⟩ (by omega))
                      · -- 118 -> 121
                        refine zw_iconst zd_MO_brackets_121 ?_
                        refine zw_goto 126 zd_MO_brackets_122 (by decide) ?_
                        refine zw_iadd zd_MO_brackets_126 ?_
                        refine zw_istore_n (lv' := [(3, .int (zI (q + 2))), (2, .int (zI (d + dlt (bget t q)))), (4, .int (zI (bget t q))), (0, .ref h), (1, .int (zI (z)))]) (Nat.le_of_ble_eq_true rfl) rfl zd_MO_brackets_127 ?_
                        refine zw_goto 6 zd_MO_brackets_128 (by decide) ?_
                        refine zw_lpick (lv' := [(0, .ref h), (1, .int (zI (z))), (2, .int (zI (d + dlt (bget t q)))), (3, .int (zI (q + 2)))]) [3, 4, 1, 0] rfl ?_
                        refine zw_widen (k' := 0) (n' := 0) (by omega) (by omega) ?_
                        first
                        | (exfalso; omega)
                        | (have ex : (if bget t q = 13 ∧ bget t (q + 1) = 10 then q + 2 else q + 1) = q + 2 := by first | rw [if_pos (by omega)] | rw [if_neg (by omega)]
                           have ey : [if bget t q = 13 then 10 else bget t q] = [(bget t q) % 256] := by first | (rw [if_pos (by omega)]; rfl) | (rw [if_neg (by omega)]; congr 1; omega)
                           rw [ex, ey] at g8
                           have hq2 : q + 2 ≤ t.length := by rw [← ex]; split; (have := bget_in (l := t) (z := q + 1) (by omega); omega); omega
                           have al2 : (acc ++ [(bget t q) % 256]).length = acc.length + 1 := List.length_append
                           exact ih k2 (q + 2) (d + dlt (bget t q)) (acc ++ [(bget t q) % 256]) ⟨by omega, Or.inl ⟨by omega, g8, by omega⟩⟩ (by omega))
                  · -- 88 -> 91
                    refine zw_bipush rfl zd_MO_brackets_91 ?_
                    refine zw_goto 98 zd_MO_brackets_93 (by decide) ?_
                    refine zw_callV (As := [.int (zI (10))]) (rest := []) (L2 := []) (L' := [zMOd h (t) (ws) (ts) (acc ++ [10 % 256]) (op) (y) (r) (ct) (wh) (fd) (fr)]) (stk' := []) (c_MO_drop h t ws ts acc op y r ct wh fd fr 10 (by omega)) [0] [] rfl rfl rfl zcal_MO_drop zl_MO_72 zin_MO_drop zse_MO_drop 0 rfl zRv_MOd rfl (Nat.le_of_ble_eq_true rfl) (Nat.le_of_ble_eq_true rfl) (by omega) (by omega) rfl (Nat.le_of_ble_eq_true rfl) rfl rfl zd_MO_brackets_98 ?_
                    refine zw_iload_n 4 rfl zd_MO_brackets_101 ?_
                    refine zw_iload 1 rfl zd_MO_brackets_102 ?_
                    refine zw_bipush rfl zd_MO_brackets_104 ?_
                    refine zw_icmp_ne 125 (by omega) (by omega) zd_MO_brackets_106 (by decide) (fun c106 => ?_) (fun c106 => ?_)
                    · -- 106 -> 125
                      refine zw_iconst zd_MO_brackets_125 ?_
                      refine zw_iadd zd_MO_brackets_126 ?_
                      refine zw_istore_n (lv' := [(3, .int (zI (q + 1))), (2, .int (zI (d + dlt (bget t q)))), (4, .int (zI (bget t q))), (0, .ref h), (1, .int (zI (z)))]) (Nat.le_of_ble_eq_true rfl) rfl zd_MO_brackets_127 ?_
                      refine zw_goto 6 zd_MO_brackets_128 (by decide) ?_
                      refine zw_lpick (lv' := [(0, .ref h), (1, .int (zI (z))), (2, .int (zI (d + dlt (bget t q)))), (3, .int (zI (q + 1)))]) [3, 4, 1, 0] rfl ?_
                      refine zw_widen (k' := 0) (n' := 0) (by omega) (by omega) ?_
                      first
                      | (exfalso; omega)
                      | (have ex : (if bget t q = 13 ∧ bget t (q + 1) = 10 then q + 2 else q + 1) = q + 1 := by first | rw [if_pos (by omega)] | rw [if_neg (by omega)]
                         have ey : [if bget t q = 13 then 10 else bget t q] = [10 % 256] := by first | (rw [if_pos (by omega)]; rfl) | (rw [if_neg (by omega)]; congr 1; omega)
                         rw [ex, ey] at g8
                         have hq2 : q + 1 ≤ t.length := by rw [← ex]; split; (have := bget_in (l := t) (z := q + 1) (by omega); omega); omega
                         have al2 : (acc ++ [10 % 256]).length = acc.length + 1 := List.length_append
                         exact ih k2 (q + 1) (d + dlt (bget t q)) (acc ++ [10 % 256]) ⟨by omega, Or.inl ⟨by omega, g8, by omega⟩⟩ (by omega))
                    · -- 106 -> 109
                      refine zw_aload_n 2 rfl zd_MO_brackets_109 ?_
                      refine zw_iload_n 4 rfl zd_MO_brackets_110 ?_
                      refine zw_iconst zd_MO_brackets_111 ?_
                      refine zw_iadd zd_MO_brackets_112 ?_
                      refine zw_callV (As := [.int (zI (q + 1))]) (rest := [.int (zI (q))]) (L2 := []) (L' := [zMOd h (t) (ws) (ts) (acc ++ [10 % 256]) (op) (y) (r) (ct) (wh) (fd) (fr)]) (stk' := [.int (zI (bget t (q + 1))), .int (zI (q))]) (c_MO_byteAt h t ws ts (acc ++ [10 % 256]) op y r ct wh fd fr (q + 1) (by omega)) [0] [] rfl rfl rfl zcal_MO_byteAt zl_MO_51 zin_MO_byteAt zse_MO_byteAt 0 rfl zRv_MOd rfl (Nat.le_of_ble_eq_true rfl) (Nat.le_of_ble_eq_true rfl) (by omega) (by omega) rfl (Nat.le_of_ble_eq_true rfl) rfl rfl zd_MO_brackets_113 ?_
                      have rg113 := bget_rg hby (q + 1)
                      refine zw_bipush rfl zd_MO_brackets_116 ?_
                      refine zw_icmp_ne 125 (by omega) (by omega) zd_MO_brackets_118 (by decide) (fun c118 => ?_) (fun c118 => ?_)
                      · -- 118 -> 125
                        refine zw_iconst zd_MO_brackets_125 ?_
                        refine zw_iadd zd_MO_brackets_126 ?_
                        refine zw_istore_n (lv' := [(3, .int (zI (q + 1))), (2, .int (zI (d + dlt (bget t q)))), (4, .int (zI (bget t q))), (0, .ref h), (1, .int (zI (z)))]) (Nat.le_of_ble_eq_true rfl) rfl zd_MO_brackets_127 ?_
                        refine zw_goto 6 zd_MO_brackets_128 (by decide) ?_
                        refine zw_lpick (lv' := [(0, .ref h), (1, .int (zI (z))), (2, .int (zI (d + dlt (bget t q)))), (3, .int (zI (q + 1)))]) [3, 4, 1, 0] rfl ?_
                        refine zw_widen (k' := 0) (n' := 0) (by omega) (by omega) ?_
                        first
                        | (exfalso; omega)
                        | (have ex : (if bget t q = 13 ∧ bget t (q + 1) = 10 then q + 2 else q + 1) = q + 1 := by first | rw [if_pos (by omega)] | rw [if_neg (by omega)]
                           have ey : [if bget t q = 13 then 10 else bget t q] = [10 % 256] := by first | (rw [if_pos (by omega)]; rfl) | (rw [if_neg (by omega)]; congr 1; omega)
                           rw [ex, ey] at g8
                           have hq2 : q + 1 ≤ t.length := by rw [← ex]; split; (have := bget_in (l := t) (z := q + 1) (by omega); omega); omega
                           have al2 : (acc ++ [10 % 256]).length = acc.length + 1 := List.length_append
                           exact ih k2 (q + 1) (d + dlt (bget t q)) (acc ++ [10 % 256]) ⟨by omega, Or.inl ⟨by omega, g8, by omega⟩⟩ (by omega))
                      · -- 118 -> 121
                        refine zw_iconst zd_MO_brackets_121 ?_
                        refine zw_goto 126 zd_MO_brackets_122 (by decide) ?_
                        refine zw_iadd zd_MO_brackets_126 ?_
                        refine zw_istore_n (lv' := [(3, .int (zI (q + 2))), (2, .int (zI (d + dlt (bget t q)))), (4, .int (zI (bget t q))), (0, .ref h), (1, .int (zI (z)))]) (Nat.le_of_ble_eq_true rfl) rfl zd_MO_brackets_127 ?_
                        refine zw_goto 6 zd_MO_brackets_128 (by decide) ?_
                        refine zw_lpick (lv' := [(0, .ref h), (1, .int (zI (z))), (2, .int (zI (d + dlt (bget t q)))), (3, .int (zI (q + 2)))]) [3, 4, 1, 0] rfl ?_
                        refine zw_widen (k' := 0) (n' := 0) (by omega) (by omega) ?_
                        first
                        | (exfalso; omega)
                        | (have ex : (if bget t q = 13 ∧ bget t (q + 1) = 10 then q + 2 else q + 1) = q + 2 := by first | rw [if_pos (by omega)] | rw [if_neg (by omega)]
                           have ey : [if bget t q = 13 then 10 else bget t q] = [10 % 256] := by first | (rw [if_pos (by omega)]; rfl) | (rw [if_neg (by omega)]; congr 1; omega)
                           rw [ex, ey] at g8
                           have hq2 : q + 2 ≤ t.length := by rw [← ex]; split; (have := bget_in (l := t) (z := q + 1) (by omega); omega); omega
                           have al2 : (acc ++ [10 % 256]).length = acc.length + 1 := List.length_append
                           exact ih k2 (q + 2) (d + dlt (bget t q)) (acc ++ [10 % 256]) ⟨by omega, Or.inl ⟨by omega, g8, by omega⟩⟩ (by omega))
            · -- 58 -> 61
              refine zw_iconst zd_MO_brackets_61 ?_
              refine zw_goto 77 zd_MO_brackets_62 (by decide) ?_
              refine zw_iadd zd_MO_brackets_77 ?_
              refine zw_istore_n (lv' := [(2, .int (zI (d + 1))), (4, .int (zI (bget t q))), (0, .ref h), (1, .int (zI (z))), (3, .int (zI (q)))]) (Nat.le_of_ble_eq_true rfl) rfl zd_MO_brackets_78 ?_
              have edl : d + 1 = d + dlt (bget t q) := by unfold dlt; first | (rw [if_pos (by omega)]) | (rw [if_neg (by omega), if_pos (by omega)]) | (rw [if_neg (by omega), if_neg (by omega)])
              have dl1 : -1 ≤ dlt (bget t q) ∧ dlt (bget t q) ≤ 1 := by
                unfold dlt
                repeat' split
                all_goals omega
              refine zw_eqv (lv' := [(2, .int (zI (d + dlt (bget t q)))), (4, .int (zI (bget t q))), (0, .ref h), (1, .int (zI (z))), (3, .int (zI (q)))]) (by rw [edl]) ?_
              refine zw_iload_n 0 rfl zd_MO_brackets_79 ?_
              refine zw_if_le 101 (by omega) zd_MO_brackets_80 (by decide) (fun c80 => ?_) (fun c80 => ?_)
              · -- 80 -> 101
                obtain ⟨e7, e8⟩ := brS_end (by omega) g7 h92 (by omega) g6
                refine zw_iload_n 4 rfl zd_MO_brackets_101 ?_
                refine zw_iload 1 rfl zd_MO_brackets_102 ?_
                refine zw_bipush rfl zd_MO_brackets_104 ?_
                refine zw_icmp_ne 125 (by omega) (by omega) zd_MO_brackets_106 (by decide) (fun c106 => ?_) (fun c106 => ?_)
                · -- 106 -> 125
                  refine zw_iconst zd_MO_brackets_125 ?_
                  refine zw_iadd zd_MO_brackets_126 ?_
                  refine zw_istore_n (lv' := [(3, .int (zI (q + 1))), (2, .int (zI (d + dlt (bget t q)))), (4, .int (zI (bget t q))), (0, .ref h), (1, .int (zI (z)))]) (Nat.le_of_ble_eq_true rfl) rfl zd_MO_brackets_127 ?_
                  refine zw_goto 6 zd_MO_brackets_128 (by decide) ?_
                  refine zw_lpick (lv' := [(0, .ref h), (1, .int (zI (z))), (2, .int (zI (d + dlt (bget t q)))), (3, .int (zI (q + 1)))]) [3, 4, 1, 0] rfl ?_
                  refine zw_widen (k' := 0) (n' := 0) (by omega) (by omega) ?_
                  first
                  | (exfalso; omega)
                  | exact ih 0 (q + 1) (d + dlt (bget t q)) acc ⟨by omega, Or.inr ⟨by omega, e7.symm, by omega, by omega⟩⟩ (by omega)
                · -- 106 -> 109
                  refine zw_aload_n 2 rfl zd_MO_brackets_109 ?_
                  refine zw_iload_n 4 rfl zd_MO_brackets_110 ?_
                  refine zw_iconst zd_MO_brackets_111 ?_
                  refine zw_iadd zd_MO_brackets_112 ?_
                  refine zw_callV (As := [.int (zI (q + 1))]) (rest := [.int (zI (q))]) (L2 := []) (L' := [zMOd h (t) (ws) (ts) (acc) (op) (y) (r) (ct) (wh) (fd) (fr)]) (stk' := [.int (zI (bget t (q + 1))), .int (zI (q))]) (c_MO_byteAt h t ws ts acc op y r ct wh fd fr (q + 1) (by omega)) [0] [] rfl rfl rfl zcal_MO_byteAt zl_MO_51 zin_MO_byteAt zse_MO_byteAt 0 rfl zRv_MOd rfl (Nat.le_of_ble_eq_true rfl) (Nat.le_of_ble_eq_true rfl) (by omega) (by omega) rfl (Nat.le_of_ble_eq_true rfl) rfl rfl zd_MO_brackets_113 ?_
                  have rg113 := bget_rg hby (q + 1)
                  refine zw_bipush rfl zd_MO_brackets_116 ?_
                  refine zw_icmp_ne 125 (by omega) (by omega) zd_MO_brackets_118 (by decide) (fun c118 => ?_) (fun c118 => ?_)
                  · -- 118 -> 125
                    refine zw_iconst zd_MO_brackets_125 ?_
                    refine zw_iadd zd_MO_brackets_126 ?_
                    refine zw_istore_n (lv' := [(3, .int (zI (q + 1))), (2, .int (zI (d + dlt (bget t q)))), (4, .int (zI (bget t q))), (0, .ref h), (1, .int (zI (z)))]) (Nat.le_of_ble_eq_true rfl) rfl zd_MO_brackets_127 ?_
                    refine zw_goto 6 zd_MO_brackets_128 (by decide) ?_
                    refine zw_lpick (lv' := [(0, .ref h), (1, .int (zI (z))), (2, .int (zI (d + dlt (bget t q)))), (3, .int (zI (q + 1)))]) [3, 4, 1, 0] rfl ?_
                    refine zw_widen (k' := 0) (n' := 0) (by omega) (by omega) ?_
                    first
                    | (exfalso; omega)
                    | exact ih 0 (q + 1) (d + dlt (bget t q)) acc ⟨by omega, Or.inr ⟨by omega, e7.symm, by omega, by omega⟩⟩ (by omega)
                  · -- 118 -> 121
                    refine zw_iconst zd_MO_brackets_121 ?_
                    refine zw_goto 126 zd_MO_brackets_122 (by decide) ?_
                    refine zw_iadd zd_MO_brackets_126 ?_
                    refine zw_istore_n (lv' := [(3, .int (zI (q + 2))), (2, .int (zI (d + dlt (bget t q)))), (4, .int (zI (bget t q))), (0, .ref h), (1, .int (zI (z)))]) (Nat.le_of_ble_eq_true rfl) rfl zd_MO_brackets_127 ?_
                    refine zw_goto 6 zd_MO_brackets_128 (by decide) ?_
                    refine zw_lpick (lv' := [(0, .ref h), (1, .int (zI (z))), (2, .int (zI (d + dlt (bget t q)))), (3, .int (zI (q + 2)))]) [3, 4, 1, 0] rfl ?_
                    refine zw_widen (k' := 0) (n' := 0) (by omega) (by omega) ?_
                    first
                    | (exfalso; omega)
                    | exact ih 0 (q + 2) (d + dlt (bget t q)) acc ⟨by omega, Or.inr ⟨by omega, e7.symm, by omega, by omega⟩⟩ (by omega)
              · -- 80 -> 83
                obtain ⟨k2, rfl, g8⟩ := brS_go (by omega) g7 h92 (by omega) g6
                refine zw_aload_n 2 rfl zd_MO_brackets_83 ?_
                refine zw_iload 1 rfl zd_MO_brackets_84 ?_
                refine zw_bipush rfl zd_MO_brackets_86 ?_
                refine zw_icmp_ne 96 (by omega) (by omega) zd_MO_brackets_88 (by decide) (fun c88 => ?_) (fun c88 => ?_)
                · -- 88 -> 96
                  refine zw_iload 1 rfl zd_MO_brackets_96 ?_
                  refine zw_callV (As := [.int (zI (bget t q))]) (rest := []) (L2 := []) (L' := [zMOd h (t) (ws) (ts) (acc ++ [(bget t q) % 256]) (op) (y) (r) (ct) (wh) (fd) (fr)]) (stk' := []) (c_MO_drop h t ws ts acc op y r ct wh fd fr (bget t q) (by omega)) [0] [] rfl rfl rfl zcal_MO_drop zl_MO_72 zin_MO_drop zse_MO_drop 0 rfl zRv_MOd rfl (Nat.le_of_ble_eq_true rfl) (Nat.le_of_ble_eq_true rfl) (by omega) (by omega) rfl (Nat.le_of_ble_eq_true rfl) rfl rfl zd_MO_brackets_98 ?_
                  refine zw_iload_n 4 rfl zd_MO_brackets_101 ?_
                  refine zw_iload 1 rfl zd_MO_brackets_102 ?_
                  refine zw_bipush rfl zd_MO_brackets_104 ?_
                  refine zw_icmp_ne 125 (by omega) (by omega) zd_MO_brackets_106 (by decide) (fun c106 => ?_) (fun c106 => ?_)
                  · -- 106 -> 125
                    refine zw_iconst zd_MO_brackets_125 ?_
                    refine zw_iadd zd_MO_brackets_126 ?_
                    refine zw_istore_n (lv' := [(3, .int (zI (q + 1))), (2, .int (zI (d + dlt (bget t q)))), (4, .int (zI (bget t q))), (0, .ref h), (1, .int (zI (z)))]) (Nat.le_of_ble_eq_true rfl) rfl zd_MO_brackets_127 ?_
                    refine zw_goto 6 zd_MO_brackets_128 (by decide) ?_
                    refine zw_lpick (lv' := [(0, .ref h), (1, .int (zI (z))), (2, .int (zI (d + dlt (bget t q)))), (3, .int (zI (q + 1)))]) [3, 4, 1, 0] rfl ?_
                    refine zw_widen (k' := 0) (n' := 0) (by omega) (by omega) ?_
                    first
                    | (exfalso; omega)
                    | (have ex : (if bget t q = 13 ∧ bget t (q + 1) = 10 then q + 2 else q + 1) = q + 1 := by first | rw [if_pos (by omega)] | rw [if_neg (by omega)]
                       have ey : [if bget t q = 13 then 10 else bget t q] = [(bget t q) % 256] := by first | (rw [if_pos (by omega)]; rfl) | (rw [if_neg (by omega)]; congr 1; omega)
                       rw [ex, ey] at g8
                       have hq2 : q + 1 ≤ t.length := by rw [← ex]; split; (have := bget_in (l := t) (z := q + 1) (by omega); omega); omega
                       have al2 : (acc ++ [(bget t q) % 256]).length = acc.length + 1 := List.length_append
                       exact ih k2 (q + 1) (d + dlt (bget t q)) (acc ++ [(bget t q) % 256]) ⟨by omega, Or.inl ⟨by omega, g8, by omega⟩⟩ (by omega))
                  · -- 106 -> 109
                    refine zw_aload_n 2 rfl zd_MO_brackets_109 ?_
                    refine zw_iload_n 4 rfl zd_MO_brackets_110 ?_
                    refine zw_iconst zd_MO_brackets_111 ?_
                    refine zw_iadd zd_MO_brackets_112 ?_
                    refine zw_callV (As := [.int (zI (q + 1))]) (rest := [.int (zI (q))]) (L2 := []) (L' := [zMOd h (t) (ws) (ts) (acc ++ [(bget t q) % 256]) (op) (y) (r) (ct) (wh) (fd) (fr)]) (stk' := [.int (zI (bget t (q + 1))), .int (zI (q))]) (c_MO_byteAt h t ws ts (acc ++ [(bget t q) % 256]) op y r ct wh fd fr (q + 1) (by omega)) [0] [] rfl rfl rfl zcal_MO_byteAt zl_MO_51 zin_MO_byteAt zse_MO_byteAt 0 rfl zRv_MOd rfl (Nat.le_of_ble_eq_true rfl) (Nat.le_of_ble_eq_true rfl) (by omega) (by omega) rfl (Nat.le_of_ble_eq_true rfl) rfl rfl zd_MO_brackets_113 ?_
                    have rg113 := bget_rg hby (q + 1)
                    refine zw_bipush rfl zd_MO_brackets_116 ?_
                    refine zw_icmp_ne 125 (by omega) (by omega) zd_MO_brackets_118 (by decide) (fun c118 => ?_) (fun c118 => ?_)
                    · -- 118 -> 125
                      refine zw_iconst zd_MO_brackets_125 ?_
                      refine zw_iadd zd_MO_brackets_126 ?_
                      refine zw_istore_n (lv' := [(3, .int (zI (q + 1))), (2, .int (zI (d + dlt (bget t q)))), (4, .int (zI (bget t q))), (0, .ref h), (1, .int (zI (z)))]) (Nat.le_of_ble_eq_true rfl) rfl zd_MO_brackets_127 ?_
                      refine zw_goto 6 zd_MO_brackets_128 (by decide) ?_
                      refine zw_lpick (lv' := [(0, .ref h), (1, .int (zI (z))), (2, .int (zI (d + dlt (bget t q)))), (3, .int (zI (q + 1)))]) [3, 4, 1, 0] rfl ?_
                      refine zw_widen (k' := 0) (n' := 0) (by omega) (by omega) ?_
                      first
                      | (exfalso; omega)
                      | (have ex : (if bget t q = 13 ∧ bget t (q + 1) = 10 then q + 2 else q + 1) = q + 1 := by first | rw [if_pos (by omega)] | rw [if_neg (by omega)]
                         have ey : [if bget t q = 13 then 10 else bget t q] = [(bget t q) % 256] := by first | (rw [if_pos (by omega)]; rfl) | (rw [if_neg (by omega)]; congr 1; omega)
                         rw [ex, ey] at g8
                         have hq2 : q + 1 ≤ t.length := by rw [← ex]; split; (have := bget_in (l := t) (z := q + 1) (by omega); omega); omega
                         have al2 : (acc ++ [(bget t q) % 256]).length = acc.length + 1 := List.length_append
                         exact ih k2 (q + 1) (d + dlt (bget t q)) (acc ++ [(bget t q) % 256]) ⟨by omega, Or.inl ⟨by omega, g8, by omega⟩⟩ (by omega))
                    · -- 118 -> 121
                      refine zw_iconst zd_MO_brackets_121 ?_
                      refine zw_goto 126 zd_MO_brackets_122 (by decide) ?_
                      refine zw_iadd zd_MO_brackets_126 ?_
                      refine zw_istore_n (lv' := [(3, .int (zI (q + 2))), (2, .int (zI (d + dlt (bget t q)))), (4, .int (zI (bget t q))), (0, .ref h), (1, .int (zI (z)))]) (Nat.le_of_ble_eq_true rfl) rfl zd_MO_brackets_127 ?_
                      refine zw_goto 6 zd_MO_brackets_128 (by decide) ?_
                      refine zw_lpick (lv' := [(0, .ref h), (1, .int (zI (z))), (2, .int (zI (d + dlt (bget t q)))), (3, .int (zI (q + 2)))]) [3, 4, 1, 0] rfl ?_
                      refine zw_widen (k' := 0) (n' := 0) (by omega) (by omega) ?_
                      first
                      | (exfalso; omega)
                      | (have ex : (if bget t q = 13 ∧ bget t (q + 1) = 10 then q + 2 else q + 1) = q + 2 := by first | rw [if_pos (by omega)] | rw [if_neg (by omega)]
                         have ey : [if bget t q = 13 then 10 else bget t q] = [(bget t q) % 256] := by first | (rw [if_pos (by omega)]; rfl) | (rw [if_neg (by omega)]; congr 1; omega)
                         rw [ex, ey] at g8
                         have hq2 : q + 2 ≤ t.length := by rw [← ex]; split; (have := bget_in (l := t) (z := q + 1) (by omega); omega); omega
                         have al2 : (acc ++ [(bget t q) % 256]).length = acc.length + 1 := List.length_append
                         exact ih k2 (q + 2) (d + dlt (bget t q)) (acc ++ [(bget t q) % 256]) ⟨by omega, Or.inl ⟨by omega, g8, by omega⟩⟩ (by omega))
                · -- 88 -> 91
                  refine zw_bipush rfl zd_MO_brackets_91 ?_
                  refine zw_goto 98 zd_MO_brackets_93 (by decide) ?_
                  refine zw_callV (As := [.int (zI (10))]) (rest := []) (L2 := []) (L' := [zMOd h (t) (ws) (ts) (acc ++ [10 % 256]) (op) (y) (r) (ct) (wh) (fd) (fr)]) (stk' := []) (c_MO_drop h t ws ts acc op y r ct wh fd fr 10 (by omega)) [0] [] rfl rfl rfl zcal_MO_drop zl_MO_72 zin_MO_drop zse_MO_drop 0 rfl zRv_MOd rfl (Nat.le_of_ble_eq_true rfl) (Nat.le_of_ble_eq_true rfl) (by omega) (by omega) rfl (Nat.le_of_ble_eq_true rfl) rfl rfl zd_MO_brackets_98 ?_
                  refine zw_iload_n 4 rfl zd_MO_brackets_101 ?_
                  refine zw_iload 1 rfl zd_MO_brackets_102 ?_
                  refine zw_bipush rfl zd_MO_brackets_104 ?_
                  refine zw_icmp_ne 125 (by omega) (by omega) zd_MO_brackets_106 (by decide) (fun c106 => ?_) (fun c106 => ?_)
                  · -- 106 -> 125
                    refine zw_iconst zd_MO_brackets_125 ?_
                    refine zw_iadd zd_MO_brackets_126 ?_
                    refine zw_istore_n (lv' := [(3, .int (zI (q + 1))), (2, .int (zI (d + dlt (bget t q)))), (4, .int (zI (bget t q))), (0, .ref h), (1, .int (zI (z)))]) (Nat.le_of_ble_eq_true rfl) rfl zd_MO_brackets_127 ?_
                    refine zw_goto 6 zd_MO_brackets_128 (by decide) ?_
                    refine zw_lpick (lv' := [(0, .ref h), (1, .int (zI (z))), (2, .int (zI (d + dlt (bget t q)))), (3, .int (zI (q + 1)))]) [3, 4, 1, 0] rfl ?_
                    refine zw_widen (k' := 0) (n' := 0) (by omega) (by omega) ?_
                    first
                    | (exfalso; omega)
                    | (have ex : (if bget t q = 13 ∧ bget t (q + 1) = 10 then q + 2 else q + 1) = q + 1 := by first | rw [if_pos (by omega)] | rw [if_neg (by omega)]
                       have ey : [if bget t q = 13 then 10 else bget t q] = [10 % 256] := by first | (rw [if_pos (by omega)]; rfl) | (rw [if_neg (by omega)]; congr 1; omega)
                       rw [ex, ey] at g8
                       have hq2 : q + 1 ≤ t.length := by rw [← ex]; split; (have := bget_in (l := t) (z := q + 1) (by omega); omega); omega
                       have al2 : (acc ++ [10 % 256]).length = acc.length + 1 := List.length_append
                       exact ih k2 (q + 1) (d + dlt (bget t q)) (acc ++ [10 % 256]) ⟨by omega, Or.inl ⟨by omega, g8, by omega⟩⟩ (by omega))
                  · -- 106 -> 109
                    refine zw_aload_n 2 rfl zd_MO_brackets_109 ?_
                    refine zw_iload_n 4 rfl zd_MO_brackets_110 ?_
                    refine zw_iconst zd_MO_brackets_111 ?_
                    refine zw_iadd zd_MO_brackets_112 ?_
                    refine zw_callV (As := [.int (zI (q + 1))]) (rest := [.int (zI (q))]) (L2 := []) (L' := [zMOd h (t) (ws) (ts) (acc ++ [10 % 256]) (op) (y) (r) (ct) (wh) (fd) (fr)]) (stk' := [.int (zI (bget t (q + 1))), .int (zI (q))]) (c_MO_byteAt h t ws ts (acc ++ [10 % 256]) op y r ct wh fd fr (q + 1) (by omega)) [0] [] rfl rfl rfl zcal_MO_byteAt zl_MO_51 zin_MO_byteAt zse_MO_byteAt 0 rfl zRv_MOd rfl (Nat.le_of_ble_eq_true rfl) (Nat.le_of_ble_eq_true rfl) (by omega) (by omega) rfl (Nat.le_of_ble_eq_true rfl) rfl rfl zd_MO_brackets_113 ?_
                    have rg113 := bget_rg hby (q + 1)
                    refine zw_bipush rfl zd_MO_brackets_116 ?_
                    refine zw_icmp_ne 125 (by omega) (by omega) zd_MO_brackets_118 (by decide) (fun c118 => ?_) (fun c118 => ?_)
                    · -- 118 -> 125
                      refine zw_iconst zd_MO_brackets_125 ?_
                      refine zw_iadd zd_MO_brackets_126 ?_
                      refine zw_istore_n (lv' := [(3, .int (zI (q + 1))), (2, .int (zI (d + dlt (bget t q)))), (4, .int (zI (bget t q))), (0, .ref h), (1, .int (zI (z)))]) (Nat.le_of_ble_eq_true rfl) rfl zd_MO_brackets_127 ?_
                      refine zw_goto 6 zd_MO_brackets_128 (by decide) ?_
                      refine zw_lpick (lv' := [(0, .ref h), (1, .int (zI (z))), (2, .int (zI (d + dlt (bget t q)))), (3, .int (zI (q + 1)))]) [3, 4, 1, 0] rfl ?_
                      refine zw_widen (k' := 0) (n' := 0) (by omega) (by omega) ?_
                      first
                      | (exfalso; omega)
                      | (have ex : (if bget t q = 13 ∧ bget t (q + 1) = 10 then q + 2 else q + 1) = q + 1 := by first | rw [if_pos (by omega)] | rw [if_neg (by omega)]
                         have ey : [if bget t q = 13 then 10 else bget t q] = [10 % 256] := by first | (rw [if_pos (by omega)]; rfl) | (rw [if_neg (by omega)]; congr 1; omega)
                         rw [ex, ey] at g8
                         have hq2 : q + 1 ≤ t.length := by rw [← ex]; split; (have := bget_in (l := t) (z := q + 1) (by omega); omega); omega
                         have al2 : (acc ++ [10 % 256]).length = acc.length + 1 := List.length_append
                         exact ih k2 (q + 1) (d + dlt (bget t q)) (acc ++ [10 % 256]) ⟨by omega, Or.inl ⟨by omega, g8, by omega⟩⟩ (by omega))
                    · -- 118 -> 121
                      refine zw_iconst zd_MO_brackets_121 ?_
                      refine zw_goto 126 zd_MO_brackets_122 (by decide) ?_
                      refine zw_iadd zd_MO_brackets_126 ?_
                      refine zw_istore_n (lv' := [(3, .int (zI (q + 2))), (2, .int (zI (d + dlt (bget t q)))), (4, .int (zI (bget t q))), (0, .ref h), (1, .int (zI (z)))]) (Nat.le_of_ble_eq_true rfl) rfl zd_MO_brackets_127 ?_
                      refine zw_goto 6 zd_MO_brackets_128 (by decide) ?_
                      refine zw_lpick (lv' := [(0, .ref h), (1, .int (zI (z))), (2, .int (zI (d + dlt (bget t q)))), (3, .int (zI (q + 2)))]) [3, 4, 1, 0] rfl ?_
                      refine zw_widen (k' := 0) (n' := 0) (by omega) (by omega) ?_
                      first
                      | (exfalso; omega)
                      | (have ex : (if bget t q = 13 ∧ bget t (q + 1) = 10 then q + 2 else q + 1) = q + 2 := by first | rw [if_pos (by omega)] | rw [if_neg (by omega)]
                         have ey : [if bget t q = 13 then 10 else bget t q] = [10 % 256] := by first | (rw [if_pos (by omega)]; rfl) | (rw [if_neg (by omega)]; congr 1; omega)
                         rw [ex, ey] at g8
                         have hq2 : q + 2 ≤ t.length := by rw [← ex]; split; (have := bget_in (l := t) (z := q + 1) (by omega); omega); omega
                         have al2 : (acc ++ [10 % 256]).length = acc.length + 1 := List.length_append
                         exact ih k2 (q + 2) (d + dlt (bget t q)) (acc ++ [10 % 256]) ⟨by omega, Or.inl ⟨by omega, g8, by omega⟩⟩ (by omega))
          · -- 36 -> 39
            obtain ⟨k2, rfl, g8⟩ := brS_esc (by omega) g7 (by omega) g6
            by_cases h1 : bget t (q + 1) = -1
            · -- the end
              have hq8 : ¬ q + 1 < t.length := fun c => by have := bget_rg0 hby (z := q + 1) (by omega); omega
              have e8 : escS t (q + 1) = ([], q + 1) := by unfold escS; rw [h1]; rfl
              rw [e8] at g8
              obtain ⟨e7, e9⟩ := brS_out (by omega) g8
              rw [List.append_nil] at e7
              subst e7
              omega
            · -- goes on
              have hqj := bget_in h1
              have er := escS_rg (t := t) (q := q + 1) (by omega)
              refine zw_aload_n 1 rfl zd_MO_brackets_39 ?_
              refine zw_iload_n 4 rfl zd_MO_brackets_40 ?_
              refine zw_iconst zd_MO_brackets_41 ?_
              refine zw_iadd zd_MO_brackets_42 ?_
              refine zw_callV (As := [.int (zI (q + 1))]) (rest := []) (L2 := []) (L' := [zMOd h (t) (ws) (ts) (acc ++ (escS t (q + 1)).1) (op) (y) (r) (ct) (wh) (fd) (fr)]) (stk' := [.int (zI ((escS t (q + 1)).2))]) (c_MO_escape_ok h t ws ts acc op y r ct wh fd fr (q + 1) (by omega) h1 (by omega)) [0] [] rfl rfl rfl zcal_MO_escape zl_MO_150 zin_MO_escape zse_MO_escape 0 rfl zRv_MOd rfl (Nat.le_of_ble_eq_true rfl) (Nat.le_of_ble_eq_true rfl) (by omega) (by omega) rfl (Nat.le_of_ble_eq_true rfl) rfl rfl zd_MO_brackets_43 ?_
              refine zw_istore_n (lv' := [(3, .int (zI ((escS t (q + 1)).2))), (4, .int (zI (bget t q))), (0, .ref h), (1, .int (zI (z))), (2, .int (zI (d)))]) (Nat.le_of_ble_eq_true rfl) rfl zd_MO_brackets_46 ?_
              refine zw_iload_n 0 rfl zd_MO_brackets_47 ?_
              refine zw_if_ge 6 (by omega) zd_MO_brackets_48 (by decide) (fun c48 => ?_) (fun c48 => ?_)
              · -- 48 -> 6
                refine zw_lpick (lv' := [(0, .ref h), (1, .int (zI (z))), (2, .int (zI (d))), (3, .int (zI ((escS t (q + 1)).2)))]) [2, 3, 4, 0] rfl ?_
                refine zw_widen (k' := 0) (n' := 0) (by omega) (by omega) ?_
                have al2 : (acc ++ (escS t (q + 1)).1).length = acc.length + (escS t (q + 1)).1.length := List.length_append
                exact ih k2 (escS t (q + 1)).2 d (acc ++ (escS t (q + 1)).1) ⟨by omega, Or.inl ⟨by omega, g8, by omega⟩⟩ (by omega)
              · -- 48 -> 51
                omega
        · -- 19 -> 22
          have hq9 : ¬ q < t.length := fun c => by have := bget_rg0 hby (z := q) (by omega); omega
          obtain ⟨rfl, e9⟩ := brS_out hq9 g6
          omega
  refine zw_iconst zd_MO_brackets_0 ?_
  refine zw_istore_n (lv' := [(2, .int (zI (1))), (0, .ref h), (1, .int (zI (z)))]) (Nat.le_of_ble_eq_true rfl) rfl zd_MO_brackets_1 ?_
  refine zw_iload_n 2 rfl zd_MO_brackets_2 ?_
  refine zw_iconst zd_MO_brackets_3 ?_
  refine zw_iadd zd_MO_brackets_4 ?_
  refine zw_istore_n (lv' := [(3, .int (zI (z + 1))), (2, .int (zI (1))), (0, .ref h), (1, .int (zI (z)))]) (Nat.le_of_ble_eq_true rfl) rfl zd_MO_brackets_5 ?_
  refine zw_lpick (lv' := [(0, .ref h), (1, .int (zI (z))), (2, .int (zI (1))), (3, .int (zI (z + 1)))]) [2, 3, 1, 0] rfl ?_
  refine zw_widen (k' := 0) (n' := 0) (by omega) (by omega) ?_
  exact lp _ t.length (z + 1) 1 [] ⟨by simp only [List.length_nil]; omega, Or.inl ⟨by omega, hbr, by omega⟩⟩ (Nat.lt_succ_self _)
set_option maxHeartbeats 4000000 in
set_option maxRecDepth 100000 in
theorem c_MO_brackets_bad (h : Nat) (t : List Int) (ws : List (Int32 × Int32 × Int32)) (ts : List (List Int)) (op : List Int) (y r ct wh : Int) (fd fr : Nat → Int32) (z : Int) (hz : 0 ≤ z ∧ z < t.length) (hF : ts.flatten.length + t.length < 60000) (hl : ts.length < 16384) (hw : ws.length < 16384) (xs : List Int) (E : Int) (hbr : brS t t.length (z + 1) 1 [] = (xs, E)) (hE : E = -1) : zCT zy_MO_brackets zm_MO_brackets (0) (0) [.ref h, .int (zI z)] [zMOd h (t) (ws) (ts) ([]) (op) (y) (r) (ct) (wh) (fd) (fr)] (some (.int (zI (-1)))) [zMOd h (t) (ws) (ts) (xs) (op) (2) (((t.length : Nat) : Int)) (ct) (wh) (fd) (fr)] := by
  refine zCT.of [(0, .ref h), (1, .int (zI (z)))] rfl (by decide) rfl (fun h => by first | rfl | cases h) (Nat.le_of_ble_eq_true rfl) (fun X hR => ?_)
  refine zw_fact 0 rfl (fun G w h => zMOd_fact h) (fun mf => ?_)
  obtain ⟨⟨ht1, hby⟩, hw1, ⟨hs1, hs2, hs3⟩, ho1⟩ := mf
  have lp : ∀ (fuel : Nat) (k : Nat) (q : Int) (d : Int) (acc : List Int), ((((0 < q ∧ q ≤ t.length) ∧ (0 ≤ d ∧ d ≤ q)) ∧ (acc.length : Int) ≤ q) ∧ ((0 < d ∧ brS t k q d acc = (xs, E) ∧ (t.length : Int) - q ≤ k) ∨ (d = 0 ∧ acc = xs ∧ q = E + 1 ∧ 0 ≤ E))) → ((t.length : Int) + 1 - q).toNat < fuel → zZ X zm_MO_brackets (0) (0) (0) (0) [zMOd h (t) (ws) (ts) (acc) (op) (y) (r) (ct) (wh) (fd) (fr)] 6 [(0, .ref h), (1, .int (zI (z))), (2, .int (zI (d))), (3, .int (zI (q)))] [] := by
    intro fuel
    induction fuel with
    | zero => intro k q d acc g0 hm; exact absurd hm (Nat.not_lt_zero _)
    | succ fuel ih =>
      intro k q d acc g0 hm
      obtain ⟨⟨⟨q1, q2⟩, q3⟩, g5⟩ := g0
      have al : (ts.flatten ++ acc).length = ts.flatten.length + acc.length := List.length_append
      have rgq := bget_rg hby q
      refine zw_iload_n 2 rfl zd_MO_brackets_6 ?_
      refine zw_if_le 131 (by omega) zd_MO_brackets_7 (by decide) (fun c7 => ?_) (fun c7 => ?_)
      · -- 7 -> 131
        have g6 : acc = xs ∧ q = E + 1 ∧ 0 ≤ E := by
          rcases g5 with c | c
          · omega
          · exact c.2
        omega
      · -- 7 -> 10
        have g6 : brS t k q d acc = (xs, E) ∧ (t.length : Int) - q ≤ k := by
          rcases g5 with c | c
          · exact c.2
          · omega
        obtain ⟨g6, g7⟩ := g6
        refine zw_aload_n 0 rfl zd_MO_brackets_10 ?_
        refine zw_iload_n 3 rfl zd_MO_brackets_11 ?_
        refine zw_callV (As := [.int (zI (q))]) (rest := []) (L2 := []) (L' := [zMOd h (t) (ws) (ts) (acc) (op) (y) (r) (ct) (wh) (fd) (fr)]) (stk' := [.int (zI (bget t q))]) (c_MO_byteAt h t ws ts acc op y r ct wh fd fr q (by omega)) [0] [] rfl rfl rfl zcal_MO_byteAt zl_MO_51 zin_MO_byteAt zse_MO_byteAt 0 rfl zRv_MOd rfl (Nat.le_of_ble_eq_true rfl) (Nat.le_of_ble_eq_true rfl) (by omega) (by omega) rfl (Nat.le_of_ble_eq_true rfl) rfl rfl zd_MO_brackets_12 ?_
        have rg12 := bget_rg hby q
        refine zw_istore (lv' := [(4, .int (zI (bget t q))), (0, .ref h), (1, .int (zI (z))), (2, .int (zI (d))), (3, .int (zI (q)))]) (Nat.le_of_ble_eq_true rfl) rfl zd_MO_brackets_15 ?_
        refine zw_iload 0 rfl zd_MO_brackets_17 ?_
        refine zw_if_ge 32 (by omega) zd_MO_brackets_19 (by decide) (fun c19 => ?_) (fun c19 => ?_)
        · -- 19 -> 32
          have hqi := bget_in (l := t) (z := q) (by omega)
          refine zw_iload 0 rfl zd_MO_brackets_32 ?_
          refine zw_bipush rfl zd_MO_brackets_34 ?_
          refine zw_icmp_ne 53 (by omega) (by omega) zd_MO_brackets_36 (by decide) (fun c36 => ?_) (fun c36 => ?_)
          · -- 36 -> 53
            have h92 : bget t q ≠ 92 := by omega
            refine zw_iload_n 3 rfl zd_MO_brackets_53 ?_
            refine zw_iload 0 rfl zd_MO_brackets_54 ?_
            refine zw_bipush rfl zd_MO_brackets_56 ?_
            refine zw_icmp_ne 65 (by omega) (by omega) zd_MO_brackets_58 (by decide) (fun c58 => ?_) (fun c58 => ?_)
            · -- 58 -> 65
              refine zw_iload 0 rfl zd_MO_brackets_65 ?_
              refine zw_bipush rfl zd_MO_brackets_67 ?_
              refine zw_icmp_ne 76 (by omega) (by omega) zd_MO_brackets_69 (by decide) (fun c69 => ?_) (fun c69 => ?_)
              · -- 69 -> 76
                refine zw_iconst zd_MO_brackets_76 ?_
                refine zw_iadd zd_MO_brackets_77 ?_
                refine zw_istore_n (lv' := [(2, .int (zI (d + 0))), (4, .int (zI (bget t q))), (0, .ref h), (1, .int (zI (z))), (3, .int (zI (q)))]) (Nat.le_of_ble_eq_true rfl) rfl zd_MO_brackets_78 ?_
                have edl : d + 0 = d + dlt (bget t q) := by unfold dlt; first | (rw [if_pos (by omega)]) | (rw [if_neg (by omega), if_pos (by omega)]) | (rw [if_neg (by omega), if_neg (by omega)])
                have dl1 : -1 ≤ dlt (bget t q) ∧ dlt (bget t q) ≤ 1 := by
                  unfold dlt
                  repeat' split
                  all_goals omega
                refine zw_eqv (lv' := [(2, .int (zI (d + dlt (bget t q)))), (4, .int (zI (bget t q))), (0, .ref h), (1, .int (zI (z))), (3, .int (zI (q)))]) (by rw [edl]) ?_
                refine zw_iload_n 0 rfl zd_MO_brackets_79 ?_
                refine zw_if_le 101 (by omega) zd_MO_brackets_80 (by decide) (fun c80 => ?_) (fun c80 => ?_)
                · -- 80 -> 101
                  obtain ⟨e7, e8⟩ := brS_end (by omega) g7 h92 (by omega) g6
                  refine zw_iload_n 4 rfl zd_MO_brackets_101 ?_
                  refine zw_iload 1 rfl zd_MO_brackets_102 ?_
                  refine zw_bipush rfl zd_MO_brackets_104 ?_
                  refine zw_icmp_ne 125 (by omega) (by omega) zd_MO_brackets_106 (by decide) (fun c106 => ?_) (fun c106 => ?_)
                  · -- 106 -> 125
                    refine zw_iconst zd_MO_brackets_125 ?_
                    refine zw_iadd zd_MO_brackets_126 ?_
                    refine zw_istore_n (lv' := [(3, .int (zI (q + 1))), (2, .int (zI (d + dlt (bget t q)))), (4, .int (zI (bget t q))), (0, .ref h), (1, .int (zI (z)))]) (Nat.le_of_ble_eq_true rfl) rfl zd_MO_brackets_127 ?_
                    refine zw_goto 6 zd_MO_brackets_128 (by decide) ?_
                    refine zw_lpick (lv' := [(0, .ref h), (1, .int (zI (z))), (2, .int (zI (d + dlt (bget t q)))), (3, .int (zI (q + 1)))]) [3, 4, 1, 0] rfl ?_
                    refine zw_widen (k' := 0) (n' := 0) (by omega) (by omega) ?_
                    first
                    | (exfalso; omega)
                    | exact ih 0 (q + 1) (d + dlt (bget t q)) acc ⟨by omega, Or.inr ⟨by omega, e7.symm, by omega, by omega⟩⟩ (by omega)
                  · -- 106 -> 109
                    refine zw_aload_n 2 rfl zd_MO_brackets_109 ?_
                    refine zw_iload_n 4 rfl zd_MO_brackets_110 ?_
                    refine zw_iconst zd_MO_brackets_111 ?_
                    refine zw_iadd zd_MO_brackets_112 ?_
                    refine zw_callV (As := [.int (zI (q + 1))]) (rest := [.int (zI (q))]) (L2 := []) (L' := [zMOd h (t) (ws) (ts) (acc) (op) (y) (r) (ct) (wh) (fd) (fr)]) (stk' := [.int (zI (bget t (q + 1))), .int (zI (q))]) (c_MO_byteAt h t ws ts acc op y r ct wh fd fr (q + 1) (by omega)) [0] [] rfl rfl rfl zcal_MO_byteAt zl_MO_51 zin_MO_byteAt zse_MO_byteAt 0 rfl zRv_MOd rfl (Nat.le_of_ble_eq_true rfl) (Nat.le_of_ble_eq_true rfl) (by omega) (by omega) rfl (Nat.le_of_ble_eq_true rfl) rfl rfl zd_MO_brackets_113 ?_
                    have rg113 := bget_rg hby (q + 1)
                    refine zw_bipush rfl zd_MO_brackets_116 ?_
                    refine zw_icmp_ne 125 (by omega) (by omega) zd_MO_brackets_118 (by decide) (fun c118 => ?_) (fun c118 => ?_)
                    · -- 118 -> 125
                      refine zw_iconst zd_MO_brackets_125 ?_
                      refine zw_iadd zd_MO_brackets_126 ?_
                      refine zw_istore_n (lv' := [(3, .int (zI (q + 1))), (2, .int (zI (d + dlt (bget t q)))), (4, .int (zI (bget t q))), (0, .ref h), (1, .int (zI (z)))]) (Nat.le_of_ble_eq_true rfl) rfl zd_MO_brackets_127 ?_
                      refine zw_goto 6 zd_MO_brackets_128 (by decide) ?_
                      refine zw_lpick (lv' := [(0, .ref h), (1, .int (zI (z))), (2, .int (zI (d + dlt (bget t q)))), (3, .int (zI (q + 1)))]) [3, 4, 1, 0] rfl ?_
                      refine zw_widen (k' := 0) (n' := 0) (by omega) (by omega) ?_
                      first
                      | (exfalso; omega)
                      | exact ih 0 (q + 1) (d + dlt (bget t q)) acc ⟨by omega, Or.inr ⟨by omega, e7.symm, by omega, by omega⟩⟩ (by omega)
                    · -- 118 -> 121
                      refine zw_iconst zd_MO_brackets_121 ?_
                      refine zw_goto 126 zd_MO_brackets_122 (by decide) ?_
                      refine zw_iadd zd_MO_brackets_126 ?_
                      refine zw_istore_n (lv' := [(3, .int (zI (q + 2))), (2, .int (zI (d + dlt (bget t q)))), (4, .int (zI (bget t q))), (0, .ref h), (1, .int (zI (z)))]) (Nat.le_of_ble_eq_true rfl) rfl zd_MO_brackets_127 ?_
                      refine zw_goto 6 zd_MO_brackets_128 (by decide) ?_
                      refine zw_lpick (lv' := [(0, .ref h), (1, .int (zI (z))), (2, .int (zI (d + dlt (bget t q)))), (3, .int (zI (q + 2)))]) [3, 4, 1, 0] rfl ?_
                      refine zw_widen (k' := 0) (n' := 0) (by omega) (by omega) ?_
                      first
                      | (exfalso; omega)
                      | exact ih 0 (q + 2) (d + dlt (bget t q)) acc ⟨by omega, Or.inr ⟨by omega, e7.symm, by omega, by omega⟩⟩ (by omega)
                · -- 80 -> 83
                  obtain ⟨k2, rfl, g8⟩ := brS_go (by omega) g7 h92 (by omega) g6
                  refine zw_aload_n 2 rfl zd_MO_brackets_83 ?_
                  refine zw_iload 1 rfl zd_MO_brackets_84 ?_
                  refine zw_bipush rfl zd_MO_brackets_86 ?_
                  refine zw_icmp_ne 96 (by omega) (by omega) zd_MO_brackets_88 (by decide) (fun c88 => ?_) (fun c88 => ?_)
                  · -- 88 -> 96
                    refine zw_iload 1 rfl zd_MO_brackets_96 ?_
                    refine zw_callV (As := [.int (zI (bget t q))]) (rest := []) (L2 := []) (L' := [zMOd h (t) (ws) (ts) (acc ++ [(bget t q) % 256]) (op) (y) (r) (ct) (wh) (fd) (fr)]) (stk' := []) (c_MO_drop h t ws ts acc op y r ct wh fd fr (bget t q) (by omega)) [0] [] rfl rfl rfl zcal_MO_drop zl_MO_72 zin_MO_drop zse_MO_drop 0 rfl zRv_MOd rfl (Nat.le_of_ble_eq_true rfl) (Nat.le_of_ble_eq_true rfl) (by omega) (by omega) rfl (Nat.le_of_ble_eq_true rfl) rfl rfl zd_MO_brackets_98 ?_
                    refine zw_iload_n 4 rfl zd_MO_brackets_101 ?_
                    refine zw_iload 1 rfl zd_MO_brackets_102 ?_
                    refine zw_bipush rfl zd_MO_brackets_104 ?_
                    refine zw_icmp_ne 125 (by omega) (by omega) zd_MO_brackets_106 (by decide) (fun c106 => ?_) (fun c106 => ?_)
                    · -- 106 -> 125
                      refine zw_iconst zd_MO_brackets_125 ?_
                      refine zw_iadd zd_MO_brackets_126 ?_
                      refine zw_istore_n (lv' := [(3, .int (zI (q + 1))), (2, .int (zI (d + dlt (bget t q)))), (4, .int (zI (bget t q))), (0, .ref h), (1, .int (zI (z)))]) (Nat.le_of_ble_eq_true rfl) rfl zd_MO_brackets_127 ?_
                      refine zw_goto 6 zd_MO_brackets_128 (by decide) ?_
                      refine zw_lpick (lv' := [(0, .ref h), (1, .int (zI (z))), (2, .int (zI (d + dlt (bget t q)))), (3, .int (zI (q + 1)))]) [3, 4, 1, 0] rfl ?_
                      refine zw_widen (k' := 0) (n' := 0) (by omega) (by omega) ?_
                      first
                      | (exfalso; omega)
                      | (have ex : (if bget t q = 13 ∧ bget t (q + 1) = 10 then q + 2 else q + 1) = q + 1 := by first | rw [if_pos (by omega)] | rw [if_neg (by omega)]
                         have ey : [if bget t q = 13 then 10 else bget t q] = [(bget t q) % 256] := by first | (rw [if_pos (by omega)]; rfl) | (rw [if_neg (by omega)]; congr 1; omega)
                         rw [ex, ey] at g8
                         have hq2 : q + 1 ≤ t.length := by rw [← ex]; split; (have := bget_in (l := t) (z := q + 1) (by omega); omega); omega
                         have al2 : (acc ++ [(bget t q) % 256]).length = acc.length + 1 := List.length_append
                         exact ih k2 (q + 1) (d + dlt (bget t q)) (acc ++ [(bget t q) % 256]) ⟨by omega, Or.inl ⟨by omega, g8, by omega⟩⟩ (by omega))
                    · -- 106 -> 109
                      refine zw_aload_n 2 rfl zd_MO_brackets_109 ?_
                      refine zw_iload_n 4 rfl zd_MO_brackets_110 ?_
                      refine zw_iconst zd_MO_brackets_111 ?_
                      refine zw_iadd zd_MO_brackets_112 ?_
                      refine zw_callV (As := [.int (zI (q + 1))]) (rest := [.int (zI (q))]) (L2 := []) (L' := [zMOd h (t) (ws) (ts) (acc ++ [(bget t q) % 256]) (op) (y) (r) (ct) (wh) (fd) (fr)]) (stk' := [.int (zI (bget t (q + 1))), .int (zI (q))]) (c_MO_byteAt h t ws ts (acc ++ [(bget t q) % 256]) op y r ct wh fd fr (q + 1) (by omega)) [0] [] rfl rfl rfl zcal_MO_byteAt zl_MO_51 zin_MO_byteAt zse_MO_byteAt 0 rfl zRv_MOd rfl (Nat.le_of_ble_eq_true rfl) (Nat.le_of_ble_eq_true rfl) (by omega) (by omega) rfl (Nat.le_of_ble_eq_true rfl) rfl rfl zd_MO_brackets_113 ?_
                      have rg113 := bget_rg hby (q + 1)
                      refine zw_bipush rfl zd_MO_brackets_116 ?_
                      refine zw_icmp_ne 125 (by omega) (by omega) zd_MO_brackets_118 (by decide) (fun c118 => ?_) (fun c118 => ?_)
                      · -- 118 -> 125
                        refine zw_iconst zd_MO_brackets_125 ?_
                        refine zw_iadd zd_MO_brackets_126 ?_
                        refine zw_istore_n (lv' := [(3, .int (zI (q + 1))), (2, .int (zI (d + dlt (bget t q)))), (4, .int (zI (bget t q))), (0, .ref h), (1, .int (zI (z)))]) (Nat.le_of_ble_eq_true rfl) rfl zd_MO_brackets_127 ?_
                        refine zw_goto 6 zd_MO_brackets_128 (by decide) ?_
                        refine zw_lpick (lv' := [(0, .ref h), (1, .int (zI (z))), (2, .int (zI (d + dlt (bget t q)))), (3, .int (zI (q + 1)))]) [3, 4, 1, 0] rfl ?_
                        refine zw_widen (k' := 0) (n' := 0) (by omega) (by omega) ?_
                        first
                        | (exfalso; omega)
                        | (have ex : (if bget t q = 13 ∧ bget t (q + 1) = 10 then q + 2 else q + 1) = q + 1 := by first | rw [if_pos (by omega)] | rw [if_neg (by omega)]
                           have ey : [if bget t q = 13 then 10 else bget t q] = [(bget t q) % 256] := by first | (rw [if_pos (by omega)]; rfl) | (rw [if_neg (by omega)]; congr 1; omega)
                           rw [ex, ey] at g8
                           have hq2 : q + 1 ≤ t.length := by rw [← ex]; split; (have := bget_in (l := t) (z := q + 1) (by omega); omega); omega
                           have al2 : (acc ++ [(bget t q) % 256]).length = acc.length + 1 := List.length_append
                           exact ih k2 (q + 1) (d + dlt (bget t q)) (acc ++ [(bget t q) % 256]) ⟨by omega, Or.inl ⟨by omega, g8, by omega⟩⟩ (by omega))
                      · -- 118 -> 121
                        refine zw_iconst zd_MO_brackets_121 ?_
                        refine zw_goto 126 zd_MO_brackets_122 (by decide) ?_
                        refine zw_iadd zd_MO_brackets_126 ?_
                        refine zw_istore_n (lv' := [(3, .int (zI (q + 2))), (2, .int (zI (d + dlt (bget t q)))), (4, .int (zI (bget t q))), (0, .ref h), (1, .int (zI (z)))]) (Nat.le_of_ble_eq_true rfl) rfl zd_MO_brackets_127 ?_
                        refine zw_goto 6 zd_MO_brackets_128 (by decide) ?_
                        refine zw_lpick (lv' := [(0, .ref h), (1, .int (zI (z))), (2, .int (zI (d + dlt (bget t q)))), (3, .int (zI (q + 2)))]) [3, 4, 1, 0] rfl ?_
                        refine zw_widen (k' := 0) (n' := 0) (by omega) (by omega) ?_
                        first
                        | (exfalso; omega)
                        | (have ex : (if bget t q = 13 ∧ bget t (q + 1) = 10 then q + 2 else q + 1) = q + 2 := by first | rw [if_pos (by omega)] | rw [if_neg (by omega)]
                           have ey : [if bget t q = 13 then 10 else bget t q] = [(bget t q) % 256] := by first | (rw [if_pos (by omega)]; rfl) | (rw [if_neg (by omega)]; congr 1; omega)
                           rw [ex, ey] at g8
                           have hq2 : q + 2 ≤ t.length := by rw [← ex]; split; (have := bget_in (l := t) (z := q + 1) (by omega); omega); omega
                           have al2 : (acc ++ [(bget t q) % 256]).length = acc.length + 1 := List.length_append
                           exact ih k2 (q + 2) (d + dlt (bget t q)) (acc ++ [(bget t q) % 256]) ⟨by omega, Or.inl ⟨by omega, g8, by omega⟩⟩ (by omega))
                  · -- 88 -> 91
                    refine zw_bipush rfl zd_MO_brackets_91 ?_
                    refine zw_goto 98 zd_MO_brackets_93 (by decide) ?_
                    refine zw_callV (As := [.int (zI (10))]) (rest := []) (L2 := []) (L' := [zMOd h (t) (ws) (ts) (acc ++ [10 % 256]) (op) (y) (r) (ct) (wh) (fd) (fr)]) (stk' := []) (c_MO_drop h t ws ts acc op y r ct wh fd fr 10 (by omega)) [0] [] rfl rfl rfl zcal_MO_drop zl_MO_72 zin_MO_drop zse_MO_drop 0 rfl zRv_MOd rfl (Nat.le_of_ble_eq_true rfl) (Nat.le_of_ble_eq_true rfl) (by omega) (by omega) rfl (Nat.le_of_ble_eq_true rfl) rfl rfl zd_MO_brackets_98 ?_
                    refine zw_iload_n 4 rfl zd_MO_brackets_101 ?_
                    refine zw_iload 1 rfl zd_MO_brackets_102 ?_
                    refine zw_bipush rfl zd_MO_brackets_104 ?_
                    refine zw_icmp_ne 125 (by omega) (by omega) zd_MO_brackets_106 (by decide) (fun c106 => ?_) (fun c106 => ?_)
                    · -- 106 -> 125
                      refine zw_iconst zd_MO_brackets_125 ?_
                      refine zw_iadd zd_MO_brackets_126 ?_
                      refine zw_istore_n (lv' := [(3, .int (zI (q + 1))), (2, .int (zI (d + dlt (bget t q)))), (4, .int (zI (bget t q))), (0, .ref h), (1, .int (zI (z)))]) (Nat.le_of_ble_eq_true rfl) rfl zd_MO_brackets_127 ?_
                      refine zw_goto 6 zd_MO_brackets_128 (by decide) ?_
                      refine zw_lpick (lv' := [(0, .ref h), (1, .int (zI (z))), (2, .int (zI (d + dlt (bget t q)))), (3, .int (zI (q + 1)))]) [3, 4, 1, 0] rfl ?_
                      refine zw_widen (k' := 0) (n' := 0) (by omega) (by omega) ?_
                      first
                      | (exfalso; omega)
                      | (have ex : (if bget t q = 13 ∧ bget t (q + 1) = 10 then q + 2 else q + 1) = q + 1 := by first | rw [if_pos (by omega)] | rw [if_neg (by omega)]
                         have ey : [if bget t q = 13 then 10 else bget t q] = [10 % 256] := by first | (rw [if_pos (by omega)]; rfl) | (rw [if_neg (by omega)]; congr 1; omega)
                         rw [ex, ey] at g8
                         have hq2 : q + 1 ≤ t.length := by rw [← ex]; split; (have := bget_in (l := t) (z := q + 1) (by omega); omega); omega
                         have al2 : (acc ++ [10 % 256]).length = acc.length + 1 := List.length_append
                         exact ih k2 (q + 1) (d + dlt (bget t q)) (acc ++ [10 % 256]) ⟨by omega, Or.inl ⟨by omega, g8, by omega⟩⟩ (by omega))
                    · -- 106 -> 109
                      refine zw_aload_n 2 rfl zd_MO_brackets_109 ?_
                      refine zw_iload_n 4 rfl zd_MO_brackets_110 ?_
                      refine zw_iconst zd_MO_brackets_111 ?_
                      refine zw_iadd zd_MO_brackets_112 ?_
                      refine zw_callV (As := [.int (zI (q + 1))]) (rest := [.int (zI (q))]) (L2 := []) (L' := [zMOd h (t) (ws) (ts) (acc ++ [10 % 256]) (op) (y) (r) (ct) (wh) (fd) (fr)]) (stk' := [.int (zI (bget t (q + 1))), .int (zI (q))]) (c_MO_byteAt h t ws ts (acc ++ [10 % 256]) op y r ct wh fd fr (q + 1) (by omega)) [0] [] rfl rfl rfl zcal_MO_byteAt zl_MO_51 zin_MO_byteAt zse_MO_byteAt 0 rfl zRv_MOd rfl (Nat.le_of_ble_eq_true rfl) (Nat.le_of_ble_eq_true rfl) (by omega) (by omega) rfl (Nat.le_of_ble_eq_true rfl) rfl rfl zd_MO_brackets_113 ?_
                      have rg113 := bget_rg hby (q + 1)
                      refine zw_bipush rfl zd_MO_brackets_116 ?_
                      refine zw_icmp_ne 125 (by omega) (by omega) zd_MO_brackets_118 (by decide) (fun c118 => ?_) (fun c118 => ?_)
                      · -- 118 -> 125
                        refine zw_iconst zd_MO_brackets_125 ?_
                        refine zw_iadd zd_MO_brackets_126 ?_
                        refine zw_istore_n (lv' := [(3, .int (zI (q + 1))), (2, .int (zI (d + dlt (bget t q)))), (4, .int (zI (bget t q))), (0, .ref h), (1, .int (zI (z)))]) (Nat.le_of_ble_eq_true rfl) rfl zd_MO_brackets_127 ?_
                        refine zw_goto 6 zd_MO_brackets_128 (by decide) ?_
                        refine zw_lpick (lv' := [(0, .ref h), (1, .int (zI (z))), (2, .int (zI (d + dlt (bget t q)))), (3, .int (zI (q + 1)))]) [3, 4, 1, 0] rfl ?_
                        refine zw_widen (k' := 0) (n' := 0) (by omega) (by omega) ?_
                        first
                        | (exfalso; omega)
                        | (have ex : (if bget t q = 13 ∧ bget t (q + 1) = 10 then q + 2 else q + 1) = q + 1 := by first | rw [if_pos (by omega)] | rw [if_neg (by omega)]
                           have ey : [if bget t q = 13 then 10 else bget t q] = [10 % 256] := by first | (rw [if_pos (by omega)]; rfl) | (rw [if_neg (by omega)]; congr 1; omega)
                           rw [ex, ey] at g8
                           have hq2 : q + 1 ≤ t.length := by rw [← ex]; split; (have := bget_in (l := t) (z := q + 1) (by omega); omega); omega
                           have al2 : (acc ++ [10 % 256]).length = acc.length + 1 := List.length_append
                           exact ih k2 (q + 1) (d + dlt (bget t q)) (acc ++ [10 % 256]) ⟨by omega, Or.inl ⟨by omega, g8, by omega⟩⟩ (by omega))
                      · -- 118 -> 121
                        refine zw_iconst zd_MO_brackets_121 ?_
                        refine zw_goto 126 zd_MO_brackets_122 (by decide) ?_
                        refine zw_iadd zd_MO_brackets_126 ?_
                        refine zw_istore_n (lv' := [(3, .int (zI (q + 2))), (2, .int (zI (d + dlt (bget t q)))), (4, .int (zI (bget t q))), (0, .ref h), (1, .int (zI (z)))]) (Nat.le_of_ble_eq_true rfl) rfl zd_MO_brackets_127 ?_
                        refine zw_goto 6 zd_MO_brackets_128 (by decide) ?_
                        refine zw_lpick (lv' := [(0, .ref h), (1, .int (zI (z))), (2, .int (zI (d + dlt (bget t q)))), (3, .int (zI (q + 2)))]) [3, 4, 1, 0] rfl ?_
                        refine zw_widen (k' := 0) (n' := 0) (by omega) (by omega) ?_
                        first
                        | (exfalso; omega)
                        | (have ex : (if bget t q = 13 ∧ bget t (q + 1) = 10 then q + 2 else q + 1) = q + 2 := by first | rw [if_pos (by omega)] | rw [if_neg (by omega)]
                           have ey : [if bget t q = 13 then 10 else bget t q] = [10 % 256] := by first | (rw [if_pos (by omega)]; rfl) | (rw [if_neg (by omega)]; congr 1; omega)
                           rw [ex, ey] at g8
                           have hq2 : q + 2 ≤ t.length := by rw [← ex]; split; (have := bget_in (l := t) (z := q + 1) (by omega); omega); omega
                           have al2 : (acc ++ [10 % 256]).length = acc.length + 1 := List.length_append
                           exact ih k2 (q + 2) (d + dlt (bget t q)) (acc ++ [10 % 256]) ⟨by omega, Or.inl ⟨by omega, g8, by omega⟩⟩ (by omega))
              · -- 69 -> 72
                refine zw_iconst zd_MO_brackets_72 ?_
                refine zw_goto 77 zd_MO_brackets_73 (by decide) ?_
                refine zw_iadd zd_MO_brackets_77 ?_
                refine zw_istore_n (lv' := [(2, .int (zI (d + (-1)))), (4, .int (zI (bget t q))), (0, .ref h), (1, .int (zI (z))), (3, .int (zI (q)))]) (Nat.le_of_ble_eq_true rfl) rfl zd_MO_brackets_78 ?_
                have edl : d + (-1) = d + dlt (bget t q) := by unfold dlt; first | (rw [if_pos (by omega)]) | (rw [if_neg (by omega), if_pos (by omega)]) | (rw [if_neg (by omega), if_neg (by omega)])
                have dl1 : -1 ≤ dlt (bget t q) ∧ dlt (bget t q) ≤ 1 := by
                  unfold dlt
                  repeat' split
                  all_goals omega
                refine zw_eqv (lv' := [(2, .int (zI (d + dlt (bget t q)))), (4, .int (zI (bget t q))), (0, .ref h), (1, .int (zI (z))), (3, .int (zI (q)))]) (by rw [edl]) ?_
                refine zw_iload_n 0 rfl zd_MO_brackets_79 ?_
                refine zw_if_le 101 (by omega) zd_MO_brackets_80 (by decide) (fun c80 => ?_) (fun c80 => ?_)
                · -- 80 -> 101
                  obtain ⟨e7, e8⟩ := brS_end (by omega) g7 h92 (by omega) g6
                  refine zw_iload_n 4 rfl zd_MO_brackets_101 ?_
                  refine zw_iload 1 rfl zd_MO_brackets_102 ?_
                  refine zw_bipush rfl zd_MO_brackets_104 ?_
                  refine zw_icmp_ne 125 (by omega) (by omega) zd_MO_brackets_106 (by decide) (fun c106 => ?_) (fun c106 => ?_)
                  · -- 106 -> 125
                    refine zw_iconst zd_MO_brackets_125 ?_
                    refine zw_iadd zd_MO_brackets_126 ?_
                    refine zw_istore_n (lv' := [(3, .int (zI (q + 1))), (2, .int (zI (d + dlt (bget t q)))), (4, .int (zI (bget t q))), (0, .ref h), (1, .int (zI (z)))]) (Nat.le_of_ble_eq_true rfl) rfl zd_MO_brackets_127 ?_
                    refine zw_goto 6 zd_MO_brackets_128 (by decide) ?_
                    refine zw_lpick (lv' := [(0, .ref h), (1, .int (zI (z))), (2, .int (zI (d + dlt (bget t q)))), (3, .int (zI (q + 1)))]) [3, 4, 1, 0] rfl ?_
                    refine zw_widen (k' := 0) (n' := 0) (by omega) (by omega) ?_
                    first
                    | (exfalso; omega)
                    | exact ih 0 (q + 1) (d + dlt (bget t q)) acc ⟨by omega, Or.inr ⟨by omega, e7.symm, by omega, by omega⟩⟩ (by omega)
                  · -- 106 -> 109
                    refine zw_aload_n 2 rfl zd_MO_brackets_109 ?_
                    refine zw_iload_n 4 rfl zd_MO_brackets_110 ?_
                    refine zw_iconst zd_MO_brackets_111 ?_
                    refine zw_iadd zd_MO_brackets_112 ?_
                    refine zw_callV (As := [.int (zI (q + 1))]) (rest := [.int (zI (q))]) (L2 := []) (L' := [zMOd h (t) (ws) (ts) (acc) (op) (y) (r) (ct) (wh) (fd) (fr)]) (stk' := [.int (zI (bget t (q + 1))), .int (zI (q))]) (c_MO_byteAt h t ws ts acc op y r ct wh fd fr (q + 1) (by omega)) [0] [] rfl rfl rfl zcal_MO_byteAt zl_MO_51 zin_MO_byteAt zse_MO_byteAt 0 rfl zRv_MOd rfl (Nat.le_of_ble_eq_true rfl) (Nat.le_of_ble_eq_true rfl) (by omega) (by omega) rfl (Nat.le_of_ble_eq_true rfl) rfl rfl zd_MO_brackets_113 ?_
                    have rg113 := bget_rg hby (q + 1)
                    refine zw_bipush rfl zd_MO_brackets_116 ?_
                    refine zw_icmp_ne 125 (by omega) (by omega) zd_MO_brackets_118 (by decide) (fun c118 => ?_) (fun c118 => ?_)
                    · -- 118 -> 125
                      refine zw_iconst zd_MO_brackets_125 ?_
                      refine zw_iadd zd_MO_brackets_126 ?_
                      refine zw_istore_n (lv' := [(3, .int (zI (q + 1))), (2, .int (zI (d + dlt (bget t q)))), (4, .int (zI (bget t q))), (0, .ref h), (1, .int (zI (z)))]) (Nat.le_of_ble_eq_true rfl) rfl zd_MO_brackets_127 ?_
                      refine zw_goto 6 zd_MO_brackets_128 (by decide) ?_
                      refine zw_lpick (lv' := [(0, .ref h), (1, .int (zI (z))), (2, .int (zI (d + dlt (bget t q)))), (3, .int (zI (q + 1)))]) [3, 4, 1, 0] rfl ?_
                      refine zw_widen (k' := 0) (n' := 0) (by omega) (by omega) ?_
                      first
                      | (exfalso; omega)
                      | exact ih 0 (q + 1) (d + dlt (bget t q)) acc ⟨by omega, Or.inr ⟨by omega, e7.symm, by omega, by omega⟩⟩ (by omega)
                    · -- 118 -> 121
                      refine zw_iconst zd_MO_brackets_121 ?_
                      refine zw_goto 126 zd_MO_brackets_122 (by decide) ?_
                      refine zw_iadd zd_MO_brackets_126 ?_
                      refine zw_istore_n (lv' := [(3, .int (zI (q + 2))), (2, .int (zI (d + dlt (bget t q)))), (4, .int (zI (bget t q))), (0, .ref h), (1, .int (zI (z)))]) (Nat.le_of_ble_eq_true rfl) rfl zd_MO_brackets_127 ?_
                      refine zw_goto 6 zd_MO_brackets_128 (by decide) ?_
                      refine zw_lpick (lv' := [(0, .ref h), (1, .int (zI (z))), (2, .int (zI (d + dlt (bget t q)))), (3, .int (zI (q + 2)))]) [3, 4, 1, 0] rfl ?_
                      refine zw_widen (k' := 0) (n' := 0) (by omega) (by omega) ?_
                      first
                      | (exfalso; omega)
                      | exact ih 0 (q + 2) (d + dlt (bget t q)) acc ⟨by omega, Or.inr ⟨by omega, e7.symm, by omega, by omega⟩⟩ (by omega)
                · -- 80 -> 83
                  obtain ⟨k2, rfl, g8⟩ := brS_go (by omega) g7 h92 (by omega) g6
                  refine zw_aload_n 2 rfl zd_MO_brackets_83 ?_
                  refine zw_iload 1 rfl zd_MO_brackets_84 ?_
                  refine zw_bipush rfl zd_MO_brackets_86 ?_
                  refine zw_icmp_ne 96 (by omega) (by omega) zd_MO_brackets_88 (by decide) (fun c88 => ?_) (fun c88 => ?_)
                  · -- 88 -> 96
                    refine zw_iload 1 rfl zd_MO_brackets_96 ?_
                    refine zw_callV (As := [.int (zI (bget t q))]) (rest := []) (L2 := []) (L' := [zMOd h (t) (ws) (ts) (acc ++ [(bget t q) % 256]) (op) (y) (r) (ct) (wh) (fd) (fr)]) (stk' := []) (c_MO_drop h t ws ts acc op y r ct wh fd fr (bget t q) (by omega)) [0] [] rfl rfl rfl zcal_MO_drop zl_MO_72 zin_MO_drop zse_MO_drop 0 rfl zRv_MOd rfl (Nat.le_of_ble_eq_true rfl) (Nat.le_of_ble_eq_true rfl) (by omega) (by omega) rfl (Nat.le_of_ble_eq_true rfl) rfl rfl zd_MO_brackets_98 ?_
                    refine zw_iload_n 4 rfl zd_MO_brackets_101 ?_
                    refine zw_iload 1 rfl zd_MO_brackets_102 ?_
                    refine zw_bipush rfl zd_MO_brackets_104 ?_
                    refine zw_icmp_ne 125 (by omega) (by omega) zd_MO_brackets_106 (by decide) (fun c106 => ?_) (fun c106 => ?_)
                    · -- 106 -> 125
                      refine zw_iconst zd_MO_brackets_125 ?_
                      refine zw_iadd zd_MO_brackets_126 ?_
                      refine zw_istore_n (lv' := [(3, .int (zI (q + 1))), (2, .int (zI (d + dlt (bget t q)))), (4, .int (zI (bget t q))), (0, .ref h), (1, .int (zI (z)))]) (Nat.le_of_ble_eq_true rfl) rfl zd_MO_brackets_127 ?_
                      refine zw_goto 6 zd_MO_brackets_128 (by decide) ?_
                      refine zw_lpick (lv' := [(0, .ref h), (1, .int (zI (z))), (2, .int (zI (d + dlt (bget t q)))), (3, .int (zI (q + 1)))]) [3, 4, 1, 0] rfl ?_
                      refine zw_widen (k' := 0) (n' := 0) (by omega) (by omega) ?_
                      first
                      | (exfalso; omega)
                      | (have ex : (if bget t q = 13 ∧ bget t (q + 1) = 10 then q + 2 else q + 1) = q + 1 := by first | rw [if_pos (by omega)] | rw [if_neg (by omega)]
                         have ey : [if bget t q = 13 then 10 else bget t q] = [(bget t q) % 256] := by first | (rw [if_pos (by omega)]; rfl) | (rw [if_neg (by omega)]; congr 1; omega)
                         rw [ex, ey] at g8
                         have hq2 : q + 1 ≤ t.length := by rw [← ex]; split; (have := bget_in (l := t) (z := q + 1) (by omega); omega); omega
                         have al2 : (acc ++ [(bget t q) % 256]).length = acc.length + 1 := List.length_append
                         exact ih k2 (q + 1) (d + dlt (bget t q)) (acc ++ [(bget t q) % 256]) ⟨by omega, Or.inl ⟨by omega, g8, by omega⟩⟩ (by omega))
                    · -- 106 -> 109
                      refine zw_aload_n 2 rfl zd_MO_brackets_109 ?_
                      refine zw_iload_n 4 rfl zd_MO_brackets_110 ?_
                      refine zw_iconst zd_MO_brackets_111 ?_
                      refine zw_iadd zd_MO_brackets_112 ?_
                      refine zw_callV (As := [.int (zI (q + 1))]) (rest := [.int (zI (q))]) (L2 := []) (L' := [zMOd h (t) (ws) (ts) (acc ++ [(bget t q) % 256]) (op) (y) (r) (ct) (wh) (fd) (fr)]) (stk' := [.int (zI (bget t (q + 1))), .int (zI (q))]) (c_MO_byteAt h t ws ts (acc ++ [(bget t q) % 256]) op y r ct wh fd fr (q + 1) (by omega)) [0] [] rfl rfl rfl zcal_MO_byteAt zl_MO_51 zin_MO_byteAt zse_MO_byteAt 0 rfl zRv_MOd rfl (Nat.le_of_ble_eq_true rfl) (Nat.le_of_ble_eq_true rfl) (by omega) (by omega) rfl (Nat.le_of_ble_eq_true rfl) rfl rfl zd_MO_brackets_113 ?_
                      have rg113 := bget_rg hby (q + 1)
                      refine zw_bipush rfl zd_MO_brackets_116 ?_
                      refine zw_icmp_ne 125 (by omega) (by omega) zd_MO_brackets_118 (by decide) (fun c118 => ?_) (fun c118 => ?_)
                      · -- 118 -> 125
                        refine zw_iconst zd_MO_brackets_125 ?_
                        refine zw_iadd zd_MO_brackets_126 ?_
                        refine zw_istore_n (lv' := [(3, .int (zI (q + 1))), (2, .int (zI (d + dlt (bget t q)))), (4, .int (zI (bget t q))), (0, .ref h), (1, .int (zI (z)))]) (Nat.le_of_ble_eq_true rfl) rfl zd_MO_brackets_127 ?_
                        refine zw_goto 6 zd_MO_brackets_128 (by decide) ?_
                        refine zw_lpick (lv' := [(0, .ref h), (1, .int (zI (z))), (2, .int (zI (d + dlt (bget t q)))), (3, .int (zI (q + 1)))]) [3, 4, 1, 0] rfl ?_
                        refine zw_widen (k' := 0) (n' := 0) (by omega) (by omega) ?_
                        first
                        | (exfalso; omega)
                        | (have ex : (if bget t q = 13 ∧ bget t (q + 1) = 10 then q + 2 else q + 1) = q + 1 := by first | rw [if_pos (by omega)] | rw [if_neg (by omega)]
                           have ey : [if bget t q = 13 then 10 else bget t q] = [(bget t q) % 256] := by first | (rw [if_pos (by omega)]; rfl) | (rw [if_neg (by omega)]; congr 1; omega)
                           rw [ex, ey] at g8
                           have hq2 : q + 1 ≤ t.length := by rw [← ex]; split; (have := bget_in (l := t) (z := q + 1) (by omega); omega); omega
                           have al2 : (acc ++ [(bget t q) % 256]).length = acc.length + 1 := List.length_append
                           exact ih k2 (q + 1) (d + dlt (bget t q)) (acc ++ [(bget t q) % 256]) ⟨by omega, Or.inl ⟨by omega, g8, by omega⟩⟩ (by omega))
                      · -- 118 -> 121
                        refine zw_iconst zd_MO_brackets_121 ?_
                        refine zw_goto 126 zd_MO_brackets_122 (by decide) ?_
                        refine zw_iadd zd_MO_brackets_126 ?_
                        refine zw_istore_n (lv' := [(3, .int (zI (q + 2))), (2, .int (zI (d + dlt (bget t q)))), (4, .int (zI (bget t q))), (0, .ref h), (1, .int (zI (z)))]) (Nat.le_of_ble_eq_true rfl) rfl zd_MO_brackets_127 ?_
                        refine zw_goto 6 zd_MO_brackets_128 (by decide) ?_
                        refine zw_lpick (lv' := [(0, .ref h), (1, .int (zI (z))), (2, .int (zI (d + dlt (bget t q)))), (3, .int (zI (q + 2)))]) [3, 4, 1, 0] rfl ?_
                        refine zw_widen (k' := 0) (n' := 0) (by omega) (by omega) ?_
                        first
                        | (exfalso; omega)
                        | (have ex : (if bget t q = 13 ∧ bget t (q + 1) = 10 then q + 2 else q + 1) = q + 2 := by first | rw [if_pos (by omega)] | rw [if_neg (by omega)]
                           have ey : [if bget t q = 13 then 10 else bget t q] = [(bget t q) % 256] := by first | (rw [if_pos (by omega)]; rfl) | (rw [if_neg (by omega)]; congr 1; omega)
                           rw [ex, ey] at g8
                           have hq2 : q + 2 ≤ t.length := by rw [← ex]; split; (have := bget_in (l := t) (z := q + 1) (by omega); omega); omega
                           have al2 : (acc ++ [(bget t q) % 256]).length = acc.length + 1 := List.length_append
                           exact ih k2 (q + 2) (d + dlt (bget t q)) (acc ++ [(bget t q) % 256]) ⟨by omega, Or.inl ⟨by omega, g8, by omega⟩⟩ (by omega))
                  · -- 88 -> 91
                    refine zw_bipush rfl zd_MO_brackets_91 ?_
                    refine zw_goto 98 zd_MO_brackets_93 (by decide) ?_
                    refine zw_callV (As := [.int (zI (10))]) (rest := []) (L2 := []) (L' := [zMOd h (t) (ws) (ts) (acc ++ [10 % 256]) (op) (y) (r) (ct) (wh) (fd) (fr)]) (stk' := []) (c_MO_drop h t ws ts acc op y r ct wh fd fr 10 (by omega)) [0] [] rfl rfl rfl zcal_MO_drop zl_MO_72 zin_MO_drop zse_MO_drop 0 rfl zRv_MOd rfl (Nat.le_of_ble_eq_true rfl) (Nat.le_of_ble_eq_true rfl) (by omega) (by omega) rfl (Nat.le_of_ble_eq_true rfl) rfl rfl zd_MO_brackets_98 ?_
                    refine zw_iload_n 4 rfl zd_MO_brackets_101 ?_
                    refine zw_iload 1 rfl zd_MO_brackets_102 ?_
                    refine zw_bipush rfl zd_MO_brackets_104 ?_
                    refine zw_icmp_ne 125 (by omega) (by omega) zd_MO_brackets_106 (by decide) (fun c106 => ?_) (fun c106 => ?_)
                    · -- 106 -> 125
                      refine zw_iconst zd_MO_brackets_125 ?_
                      refine zw_iadd zd_MO_brackets_126 ?_
                      refine zw_istore_n (lv' := [(3, .int (zI (q + 1))), (2, .int (zI (d + dlt (bget t q)))), (4, .int (zI (bget t q))), (0, .ref h), (1, .int (zI (z)))]) (Nat.le_of_ble_eq_true rfl) rfl zd_MO_brackets_127 ?_
                      refine zw_goto 6 zd_MO_brackets_128 (by decide) ?_
                      refine zw_lpick (lv' := [(0, .ref h), (1, .int (zI (z))), (2, .int (zI (d + dlt (bget t q)))), (3, .int (zI (q + 1)))]) [3, 4, 1, 0] rfl ?_
                      refine zw_widen (k' := 0) (n' := 0) (by omega) (by omega) ?_
                      first
                      | (exfalso; omega)
                      | (have ex : (if bget t q = 13 ∧ bget t (q + 1) = 10 then q + 2 else q + 1) = q + 1 := by first | rw [if_pos (by omega)] | rw [if_neg (by omega)]
                         have ey : [if bget t q = 13 then 10 else bget t q] = [10 % 256] := by first | (rw [if_pos (by omega)]; rfl) | (rw [if_neg (by omega)]; congr 1; omega)
                         rw [ex, ey] at g8
                         have hq2 : q + 1 ≤ t.length := by rw [← ex]; split; (have := bget_in (l := t) (z := q + 1) (by omega); omega); omega
                         have al2 : (acc ++ [10 % 256]).length = acc.length + 1 := List.length_append
                         exact ih k2 (q + 1) (d + dlt (bget t q)) (acc ++ [10 % 256]) ⟨by omega, Or.inl ⟨by omega, g8, by omega⟩⟩ (by omega))
                    · -- 106 -> 109
                      refine zw_aload_n 2 rfl zd_MO_brackets_109 ?_
                      refine zw_iload_n 4 rfl zd_MO_brackets_110 ?_
                      refine zw_iconst zd_MO_brackets_111 ?_
                      refine zw_iadd zd_MO_brackets_112 ?_
                      refine zw_callV (As := [.int (zI (q + 1))]) (rest := [.int (zI (q))]) (L2 := []) (L' := [zMOd h (t) (ws) (ts) (acc ++ [10 % 256]) (op) (y) (r) (ct) (wh) (fd) (fr)]) (stk' := [.int (zI (bget t (q + 1))), .int (zI (q))]) (c_MO_byteAt h t ws ts (acc ++ [10 % 256]) op y r ct wh fd fr (q + 1) (by omega)) [0] [] rfl rfl rfl zcal_MO_byteAt zl_MO_51 zin_MO_byteAt zse_MO_byteAt 0 rfl zRv_MOd rfl (Nat.le_of_ble_eq_true rfl) (Nat.le_of_ble_eq_true rfl) (by omega) (by omega) rfl (Nat.le_of_ble_eq_true rfl) rfl rfl zd_MO_brackets_113 ?_
                      have rg113 := bget_rg hby (q + 1)
                      refine zw_bipush rfl zd_MO_brackets_116 ?_
                      refine zw_icmp_ne 125 (by omega) (by omega) zd_MO_brackets_118 (by decide) (fun c118 => ?_) (fun c118 => ?_)
                      · -- 118 -> 125
                        refine zw_iconst zd_MO_brackets_125 ?_
                        refine zw_iadd zd_MO_brackets_126 ?_
                        refine zw_istore_n (lv' := [(3, .int (zI (q + 1))), (2, .int (zI (d + dlt (bget t q)))), (4, .int (zI (bget t q))), (0, .ref h), (1, .int (zI (z)))]) (Nat.le_of_ble_eq_true rfl) rfl zd_MO_brackets_127 ?_
                        refine zw_goto 6 zd_MO_brackets_128 (by decide) ?_
                        refine zw_lpick (lv' := [(0, .ref h), (1, .int (zI (z))), (2, .int (zI (d + dlt (bget t q)))), (3, .int (zI (q + 1)))]) [3, 4, 1, 0] rfl ?_
                        refine zw_widen (k' := 0) (n' := 0) (by omega) (by omega) ?_
                        first
                        | (exfalso; omega)
                        | (have ex : (if bget t q = 13 ∧ bget t (q + 1) = 10 then q + 2 else q + 1) = q + 1 := by first | rw [if_pos (by omega)] | rw [if_neg (by omega)]
                           have ey : [if bget t q = 13 then 10 else bget t q] = [10 % 256] := by first | (rw [if_pos (by omega)]; rfl) | (rw [if_neg (by omega)]; congr 1; omega)
                           rw [ex, ey] at g8
                           have hq2 : q + 1 ≤ t.length := by rw [← ex]; split; (have := bget_in (l := t) (z := q + 1) (by omega); omega); omega
                           have al2 : (acc ++ [10 % 256]).length = acc.length + 1 := List.length_append
                           exact ih k2 (q + 1) (d + dlt (bget t q)) (acc ++ [10 % 256]) ⟨by omega, Or.inl ⟨by omega, g8, by omega⟩⟩ (by omega))
                      · -- 118 -> 121
                        refine zw_iconst zd_MO_brackets_121 ?_
                        refine zw_goto 126 zd_MO_brackets_122 (by decide) ?_
                        refine zw_iadd zd_MO_brackets_126 ?_
                        refine zw_istore_n (lv' := [(3, .int (zI (q + 2))), (2, .int (zI (d + dlt (bget t q)))), (4, .int (zI (bget t q))), (0, .ref h), (1, .int (zI (z)))]) (Nat.le_of_ble_eq_true rfl) rfl zd_MO_brackets_127 ?_
                        refine zw_goto 6 zd_MO_brackets_128 (by decide) ?_
                        refine zw_lpick (lv' := [(0, .ref h), (1, .int (zI (z))), (2, .int (zI (d + dlt (bget t q)))), (3, .int (zI (q + 2)))]) [3, 4, 1, 0] rfl ?_
                        refine zw_widen (k' := 0) (n' := 0) (by omega) (by omega) ?_
                        first
                        | (exfalso; omega)
                        | (have ex : (if bget t q = 13 ∧ bget t (q + 1) = 10 then q + 2 else q + 1) = q + 2 := by first | rw [if_pos (by omega)] | rw [if_neg (by omega)]
                           have ey : [if bget t q = 13 then 10 else bget t q] = [10 % 256] := by first | (rw [if_pos (by omega)]; rfl) | (rw [if_neg (by omega)]; congr 1; omega)
                           rw [ex, ey] at g8
                           have hq2 : q + 2 ≤ t.length := by rw [← ex]; split; (have := bget_in (l := t) (z := q + 1) (by omega); omega); omega
                           have al2 : (acc ++ [10 % 256]).length = acc.length + 1 := List.length_append
                           exact ih k2 (q + 2) (d + dlt (bget t q)) (acc ++ [10 % 256]) ⟨by omega, Or.inl ⟨by omega, g8, by omega⟩⟩ (by omega))
            · -- 58 -> 61
              refine zw_iconst zd_MO_brackets_61 ?_
              refine zw_goto 77 zd_MO_brackets_62 (by decide) ?_
              refine zw_iadd zd_MO_brackets_77 ?_
              refine zw_istore_n (lv' := [(2, .int (zI (d + 1))), (4, .int (zI (bget t q))), (0, .ref h), (1, .int (zI (z))), (3, .int (zI (q)))]) (Nat.le_of_ble_eq_true rfl) rfl zd_MO_brackets_78 ?_
              have edl : d + 1 = d + dlt (bget t q) := by unfold dlt; first | (rw [if_pos (by omega)]) | (rw [if_neg (by omega), if_pos (by omega)]) | (rw [if_neg (by omega), if_neg (by omega)])
              have dl1 : -1 ≤ dlt (bget t q) ∧ dlt (bget t q) ≤ 1 := by
                unfold dlt
                repeat' split
                all_goals omega
              refine zw_eqv (lv' := [(2, .int (zI (d + dlt (bget t q)))), (4, .int (zI (bget t q))), (0, .ref h), (1, .int (zI (z))), (3, .int (zI (q)))]) (by rw [edl]) ?_
              refine zw_iload_n 0 rfl zd_MO_brackets_79 ?_
              refine zw_if_le 101 (by omega) zd_MO_brackets_80 (by decide) (fun c80 => ?_) (fun c80 => ?_)
              · -- 80 -> 101
                obtain ⟨e7, e8⟩ := brS_end (by omega) g7 h92 (by omega) g6
                refine zw_iload_n 4 rfl zd_MO_brackets_101 ?_
                refine zw_iload 1 rfl zd_MO_brackets_102 ?_
                refine zw_bipush rfl zd_MO_brackets_104 ?_
                refine zw_icmp_ne 125 (by omega) (by omega) zd_MO_brackets_106 (by decide) (fun c106 => ?_) (fun c106 => ?_)
                · -- 106 -> 125
                  refine zw_iconst zd_MO_brackets_125 ?_
                  refine zw_iadd zd_MO_brackets_126 ?_
                  refine zw_istore_n (lv' := [(3, .int (zI (q + 1))), (2, .int (zI (d + dlt (bget t q)))), (4, .int (zI (bget t q))), (0, .ref h), (1, .int (zI (z)))]) (Nat.le_of_ble_eq_true rfl) rfl zd_MO_brackets_127 ?_
                  refine zw_goto 6 zd_MO_brackets_128 (by decide) ?_
                  refine zw_lpick (lv' := [(0, .ref h), (1, .int (zI (z))), (2, .int (zI (d + dlt (bget t q)))), (3, .int (zI (q + 1)))]) [3, 4, 1, 0] rfl ?_
                  refine zw_widen (k' := 0) (n' := 0) (by omega) (by omega) ?_
                  first
                  | (exfalso; omega)
                  | exact ih 0 (q + 1) (d + dlt (bget t q)) acc ⟨by omega, Or.inr ⟨by omega, e7.symm, by omega, by omega⟩⟩ (by omega)
                · -- 106 -> 109
                  refine zw_aload_n 2 rfl zd_MO_brackets_109 ?_
                  refine zw_iload_n 4 rfl zd_MO_brackets_110 ?_
                  refine zw_iconst zd_MO_brackets_111 ?_
                  refine zw_iadd zd_MO_brackets_112 ?_
                  refine zw_callV (As := [.int (zI (q + 1))]) (rest := [.int (zI (q))]) (L2 := []) (L' := [zMOd h (t) (ws) (ts) (acc) (op) (y) (r) (ct) (wh) (fd) (fr)]) (stk' := [.int (zI (bget t (q + 1))), .int (zI (q))]) (c_MO_byteAt h t ws ts acc op y r ct wh fd fr (q + 1) (by omega)) [0] [] rfl rfl rfl zcal_MO_byteAt zl_MO_51 zin_MO_byteAt zse_MO_byteAt 0 rfl zRv_MOd rfl (Nat.le_of_ble_eq_true rfl) (Nat.le_of_ble_eq_true rfl) (by omega) (by omega) rfl (Nat.le_of_ble_eq_true rfl) rfl rfl zd_MO_brackets_113 ?_
                  have rg113 := bget_rg hby (q + 1)
                  refine zw_bipush rfl zd_MO_brackets_116 ?_
                  refine zw_icmp_ne 125 (by omega) (by omega) zd_MO_brackets_118 (by decide) (fun c118 => ?_) (fun c118 => ?_)
                  · -- 118 -> 125
                    refine zw_iconst zd_MO_brackets_125 ?_
                    refine zw_iadd zd_MO_brackets_126 ?_
                    refine zw_istore_n (lv' := [(3, .int (zI (q + 1))), (2, .int (zI (d + dlt (bget t q)))), (4, .int (zI (bget t q))), (0, .ref h), (1, .int (zI (z)))]) (Nat.le_of_ble_eq_true rfl) rfl zd_MO_brackets_127 ?_
                    refine zw_goto 6 zd_MO_brackets_128 (by decide) ?_
                    refine zw_lpick (lv' := [(0, .ref h), (1, .int (zI (z))), (2, .int (zI (d + dlt (bget t q)))), (3, .int (zI (q + 1)))]) [3, 4, 1, 0] rfl ?_
                    refine zw_widen (k' := 0) (n' := 0) (by omega) (by omega) ?_
                    first
                    | (exfalso; omega)
                    | exact ih 0 (q + 1) (d + dlt (bget t q)) acc ⟨by omega, Or.inr ⟨by omega, e7.symm, by omega, by omega⟩⟩ (by omega)
                  · -- 118 -> 121
                    refine zw_iconst zd_MO_brackets_121 ?_
                    refine zw_goto 126 zd_MO_brackets_122 (by decide) ?_
                    refine zw_iadd zd_MO_brackets_126 ?_
                    refine zw_istore_n (lv' := [(3, .int (zI (q + 2))), (2, .int (zI (d + dlt (bget t q)))), (4, .int (zI (bget t q))), (0, .ref h), (1, .int (zI (z)))]) (Nat.le_of_ble_eq_true rfl) rfl zd_MO_brackets_127 ?_
                    refine zw_goto 6 zd_MO_brackets_128 (by decide) ?_
                    refine zw_lpick (lv' := [(0, .ref h), (1, .int (zI (z))), (2, .int (zI (d + dlt (bget t q)))), (3, .int (zI (q + 2)))]) [3, 4, 1, 0] rfl ?_
                    refine zw_widen (k' := 0) (n' := 0) (by omega) (by omega) ?_
                    first
                    | (exfalso; omega)
                    | exact ih 0 (q + 2) (d + dlt (bget t q)) acc ⟨by omega, Or.inr ⟨by omega, e7.symm, by omega, by omega⟩⟩ (by omega)
              · -- 80 -> 83
                obtain ⟨k2, rfl, g8⟩ := brS_go (by omega) g7 h92 (by omega) g6
                refine zw_aload_n 2 rfl zd_MO_brackets_83 ?_
                refine zw_iload 1 rfl zd_MO_brackets_84 ?_
                refine zw_bipush rfl zd_MO_brackets_86 ?_
                refine zw_icmp_ne 96 (by omega) (by omega) zd_MO_brackets_88 (by decide) (fun c88 => ?_) (fun c88 => ?_)
                · -- 88 -> 96
                  refine zw_iload 1 rfl zd_MO_brackets_96 ?_
                  refine zw_callV (As := [.int (zI (bget t q))]) (rest := []) (L2 := []) (L' := [zMOd h (t) (ws) (ts) (acc ++ [(bget t q) % 256]) (op) (y) (r) (ct) (wh) (fd) (fr)]) (stk' := []) (c_MO_drop h t ws ts acc op y r ct wh fd fr (bget t q) (by omega)) [0] [] rfl rfl rfl zcal_MO_drop zl_MO_72 zin_MO_drop zse_MO_drop 0 rfl zRv_MOd rfl (Nat.le_of_ble_eq_true rfl) (Nat.le_of_ble_eq_true rfl) (by omega) (by omega) rfl (Nat.le_of_ble_eq_true rfl) rfl rfl zd_MO_brackets_98 ?_
                  refine zw_iload_n 4 rfl zd_MO_brackets_101 ?_
                  refine zw_iload 1 rfl zd_MO_brackets_102 ?_
                  refine zw_bipush rfl zd_MO_brackets_104 ?_
                  refine zw_icmp_ne 125 (by omega) (by omega) zd_MO_brackets_106 (by decide) (fun c106 => ?_) (fun c106 => ?_)
                  · -- 106 -> 125
                    refine zw_iconst zd_MO_brackets_125 ?_
                    refine zw_iadd zd_MO_brackets_126 ?_
                    refine zw_istore_n (lv' := [(3, .int (zI (q + 1))), (2, .int (zI (d + dlt (bget t q)))), (4, .int (zI (bget t q))), (0, .ref h), (1, .int (zI (z)))]) (Nat.le_of_ble_eq_true rfl) rfl zd_MO_brackets_127 ?_
                    refine zw_goto 6 zd_MO_brackets_128 (by decide) ?_
                    refine zw_lpick (lv' := [(0, .ref h), (1, .int (zI (z))), (2, .int (zI (d + dlt (bget t q)))), (3, .int (zI (q + 1)))]) [3, 4, 1, 0] rfl ?_
                    refine zw_widen (k' := 0) (n' := 0) (by omega) (by omega) ?_
                    first
                    | (exfalso; omega)
                    | (have ex : (if bget t q = 13 ∧ bget t (q + 1) = 10 then q + 2 else q + 1) = q + 1 := by first | rw [if_pos (by omega)] | rw [if_neg (by omega)]
                       have ey : [if bget t q = 13 then 10 else bget t q] = [(bget t q) % 256] := by first | (rw [if_pos (by omega)]; rfl) | (rw [if_neg (by omega)]; congr 1; omega)
                       rw [ex, ey] at g8
                       have hq2 : q + 1 ≤ t.length := by rw [← ex]; split; (have := bget_in (l := t) (z := q + 1) (by omega); omega); omega
                       have al2 : (acc ++ [(bget t q) % 256]).length = acc.length + 1 := List.length_append
                       exact ih k2 (q + 1) (d + dlt (bget t q)) (acc ++ [(bget t q) % 256]) ⟨by omega, Or.inl ⟨by omega, g8, by omega⟩⟩ (by omega))
                  · -- 106 -> 109
                    refine zw_aload_n 2 rfl zd_MO_brackets_109 ?_
                    refine zw_iload_n 4 rfl zd_MO_brackets_110 ?_
                    refine zw_iconst zd_MO_brackets_111 ?_
                    refine zw_iadd zd_MO_brackets_112 ?_
                    refine zw_callV (As := [.int (zI (q + 1))]) (rest := [.int (zI (q))]) (L2 := []) (L' := [zMOd h (t) (ws) (ts) (acc ++ [(bget t q) % 256]) (op) (y) (r) (ct) (wh) (fd) (fr)]) (stk' := [.int (zI (bget t (q + 1))), .int (zI (q))]) (c_MO_byteAt h t ws ts (acc ++ [(bget t q) % 256]) op y r ct wh fd fr (q + 1) (by omega)) [0] [] rfl rfl rfl zcal_MO_byteAt zl_MO_51 zin_MO_byteAt zse_MO_byteAt 0 rfl zRv_MOd rfl (Nat.le_of_ble_eq_true rfl) (Nat.le_of_ble_eq_true rfl) (by omega) (by omega) rfl (Nat.le_of_ble_eq_true rfl) rfl rfl zd_MO_brackets_113 ?_
                    have rg113 := bget_rg hby (q + 1)
                    refine zw_bipush rfl zd_MO_brackets_116 ?_
                    refine zw_icmp_ne 125 (by omega) (by omega) zd_MO_brackets_118 (by decide) (fun c118 => ?_) (fun c118 => ?_)
                    · -- 118 -> 125
                      refine zw_iconst zd_MO_brackets_125 ?_
                      refine zw_iadd zd_MO_brackets_126 ?_
                      refine zw_istore_n (lv' := [(3, .int (zI (q + 1))), (2, .int (zI (d + dlt (bget t q)))), (4, .int (zI (bget t q))), (0, .ref h), (1, .int (zI (z)))]) (Nat.le_of_ble_eq_true rfl) rfl zd_MO_brackets_127 ?_
                      refine zw_goto 6 zd_MO_brackets_128 (by decide) ?_
                      refine zw_lpick (lv' := [(0, .ref h), (1, .int (zI (z))), (2, .int (zI (d + dlt (bget t q)))), (3, .int (zI (q + 1)))]) [3, 4, 1, 0] rfl ?_
                      refine zw_widen (k' := 0) (n' := 0) (by omega) (by omega) ?_
                      first
                      | (exfalso; omega)
                      | (have ex : (if bget t q = 13 ∧ bget t (q + 1) = 10 then q + 2 else q + 1) = q + 1 := by first | rw [if_pos (by omega)] | rw [if_neg (by omega)]
                         have ey : [if bget t q = 13 then 10 else bget t q] = [(bget t q) % 256] := by first | (rw [if_pos (by omega)]; rfl) | (rw [if_neg (by omega)]; congr 1; omega)
                         rw [ex, ey] at g8
                         have hq2 : q + 1 ≤ t.length := by rw [← ex]; split; (have := bget_in (l := t) (z := q + 1) (by omega); omega); omega
                         have al2 : (acc ++ [(bget t q) % 256]).length = acc.length + 1 := List.length_append
                         exact ih k2 (q + 1) (d + dlt (bget t q)) (acc ++ [(bget t q) % 256]) ⟨by omega, Or.inl ⟨by omega, g8, by omega⟩⟩ (by omega))
                    · -- 118 -> 121
                      refine zw_iconst zd_MO_brackets_121 ?_
                      refine zw_goto 126 zd_MO_brackets_122 (by decide) ?_
                      refine zw_iadd zd_MO_brackets_126 ?_
                      refine zw_istore_n (lv' := [(3, .int (zI (q + 2))), (2, .int (zI (d + dlt (bget t q)))), (4, .int (zI (bget t q))), (0, .ref h), (1, .int (zI (z)))]) (Nat.le_of_ble_eq_true rfl) rfl zd_MO_brackets_127 ?_
                      refine zw_goto 6 zd_MO_brackets_128 (by decide) ?_
                      refine zw_lpick (lv' := [(0, .ref h), (1, .int (zI (z))), (2, .int (zI (d + dlt (bget t q)))), (3, .int (zI (q + 2)))]) [3, 4, 1, 0] rfl ?_
                      refine zw_widen (k' := 0) (n' := 0) (by omega) (by omega) ?_
                      first
                      | (exfalso; omega)
                      | (have ex : (if bget t q = 13 ∧ bget t (q + 1) = 10 then q + 2 else q + 1) = q + 2 := by first | rw [if_pos (by omega)] | rw [if_neg (by omega)]
                         have ey : [if bget t q = 13 then 10 else bget t q] = [(bget t q) % 256] := by first | (rw [if_pos (by omega)]; rfl) | (rw [if_neg (by omega)]; congr 1; omega)
                         rw [ex, ey] at g8
                         have hq2 : q + 2 ≤ t.length := by rw [← ex]; split; (have := bget_in (l := t) (z := q + 1) (by omega); omega); omega
                         have al2 : (acc ++ [(bget t q) % 256]).length = acc.length + 1 := List.length_append
                         exact ih k2 (q + 2) (d + dlt (bget t q)) (acc ++ [(bget t q) % 256]) ⟨by omega, Or.inl ⟨by omega, g8, by omega⟩⟩ (by omega))
                · -- 88 -> 91
                  refine zw_bipush rfl zd_MO_brackets_91 ?_
                  refine zw_goto 98 zd_MO_brackets_93 (by decide) ?_
                  refine zw_callV (As := [.int (zI (10))]) (rest := []) (L2 := []) (L' := [zMOd h (t) (ws) (ts) (acc ++ [10 % 256]) (op) (y) (r) (ct) (wh) (fd) (fr)]) (stk' := []) (c_MO_drop h t ws ts acc op y r ct wh fd fr 10 (by omega)) [0] [] rfl rfl rfl zcal_MO_drop zl_MO_72 zin_MO_drop zse_MO_drop 0 rfl zRv_MOd rfl (Nat.le_of_ble_eq_true rfl) (Nat.le_of_ble_eq_true rfl) (by omega) (by omega) rfl (Nat.le_of_ble_eq_true rfl) rfl rfl zd_MO_brackets_98 ?_
                  refine zw_iload_n 4 rfl zd_MO_brackets_101 ?_
                  refine zw_iload 1 rfl zd_MO_brackets_102 ?_
                  refine zw_bipush rfl zd_MO_brackets_104 ?_
                  refine zw_icmp_ne 125 (by omega) (by omega) zd_MO_brackets_106 (by decide) (fun c106 => ?_) (fun c106 => ?_)
                  · -- 106 -> 125
                    refine zw_iconst zd_MO_brackets_125 ?_
                    refine zw_iadd zd_MO_brackets_126 ?_
                    refine zw_istore_n (lv' := [(3, .int (zI (q + 1))), (2, .int (zI (d + dlt (bget t q)))), (4, .int (zI (bget t q))), (0, .ref h), (1, .int (zI (z)))]) (Nat.le_of_ble_eq_true rfl) rfl zd_MO_brackets_127 ?_
                    refine zw_goto 6 zd_MO_brackets_128 (by decide) ?_
                    refine zw_lpick (lv' := [(0, .ref h), (1, .int (zI (z))), (2, .int (zI (d + dlt (bget t q)))), (3, .int (zI (q + 1)))]) [3, 4, 1, 0] rfl ?_
                    refine zw_widen (k' := 0) (n' := 0) (by omega) (by omega) ?_
                    first
                    | (exfalso; omega)
                    | (have ex : (if bget t q = 13 ∧ bget t (q + 1) = 10 then q + 2 else q + 1) = q + 1 := by first | rw [if_pos (by omega)] | rw [if_neg (by omega)]
                       have ey : [if bget t q = 13 then 10 else bget t q] = [10 % 256] := by first | (rw [if_pos (by omega)]; rfl) | (rw [if_neg (by omega)]; congr 1; omega)
                       rw [ex, ey] at g8
                       have hq2 : q + 1 ≤ t.length := by rw [← ex]; split; (have := bget_in (l := t) (z := q + 1) (by omega); omega); omega
                       have al2 : (acc ++ [10 % 256]).length = acc.length + 1 := List.length_append
                       exact ih k2 (q + 1) (d + dlt (bget t q)) (acc ++ [10 % 256]) ⟨by omega, Or.inl ⟨by omega, g8, by omega⟩⟩ (by omega))
                  · -- 106 -> 109
                    refine zw_aload_n 2 rfl zd_MO_brackets_109 ?_
                    refine zw_iload_n 4 rfl zd_MO_brackets_110 ?_
                    refine zw_iconst zd_MO_brackets_111 ?_
                    refine zw_iadd zd_MO_brackets_112 ?_
                    refine zw_callV (As := [.int (zI (q + 1))]) (rest := [.int (zI (q))]) (L2 := []) (L' := [zMOd h (t) (ws) (ts) (acc ++ [10 % 256]) (op) (y) (r) (ct) (wh) (fd) (fr)]) (stk' := [.int (zI (bget t (q + 1))), .int (zI (q))]) (c_MO_byteAt h t ws ts (acc ++ [10 % 256]) op y r ct wh fd fr (q + 1) (by omega)) [0] [] rfl rfl rfl zcal_MO_byteAt zl_MO_51 zin_MO_byteAt zse_MO_byteAt 0 rfl zRv_MOd rfl (Nat.le_of_ble_eq_true rfl) (Nat.le_of_ble_eq_true rfl) (by omega) (by omega) rfl (Nat.le_of_ble_eq_true rfl) rfl rfl zd_MO_brackets_113 ?_
                    have rg113 := bget_rg hby (q + 1)
                    refine zw_bipush rfl zd_MO_brackets_116 ?_
                    refine zw_icmp_ne 125 (by omega) (by omega) zd_MO_brackets_118 (by decide) (fun c118 => ?_) (fun c118 => ?_)
                    · -- 118 -> 125
                      refine zw_iconst zd_MO_brackets_125 ?_
                      refine zw_iadd zd_MO_brackets_126 ?_
                      refine zw_istore_n (lv' := [(3, .int (zI (q + 1))), (2, .int (zI (d + dlt (bget t q)))), (4, .int (zI (bget t q))), (0, .ref h), (1, .int (zI (z)))]) (Nat.le_of_ble_eq_true rfl) rfl zd_MO_brackets_127 ?_
                      refine zw_goto 6 zd_MO_brackets_128 (by decide) ?_
                      refine zw_lpick (lv' := [(0, .ref h), (1, .int (zI (z))), (2, .int (zI (d + dlt (bget t q)))), (3, .int (zI (q + 1)))]) [3, 4, 1, 0] rfl ?_
                      refine zw_widen (k' := 0) (n' := 0) (by omega) (by omega) ?_
                      first
                      | (exfalso; omega)
                      | (have ex : (if bget t q = 13 ∧ bget t (q + 1) = 10 then q + 2 else q + 1) = q + 1 := by first | rw [if_pos (by omega)] | rw [if_neg (by omega)]
                         have ey : [if bget t q = 13 then 10 else bget t q] = [10 % 256] := by first | (rw [if_pos (by omega)]; rfl) | (rw [if_neg (by omega)]; congr 1; omega)
                         rw [ex, ey] at g8
                         have hq2 : q + 1 ≤ t.length := by rw [← ex]; split; (have := bget_in (l := t) (z := q + 1) (by omega); omega); omega
                         have al2 : (acc ++ [10 % 256]).length = acc.length + 1 := List.length_append
                         exact ih k2 (q + 1) (d + dlt (bget t q)) (acc ++ [10 % 256]) ⟨by omega, Or.inl ⟨by omega, g8, by omega⟩⟩ (by omega))
                    · -- 118 -> 121
                      refine zw_iconst zd_MO_brackets_121 ?_
                      refine zw_goto 126 zd_MO_brackets_122 (by decide) ?_
                      refine zw_iadd zd_MO_brackets_126 ?_
                      refine zw_istore_n (lv' := [(3, .int (zI (q + 2))), (2, .int (zI (d + dlt (bget t q)))), (4, .int (zI (bget t q))), (0, .ref h), (1, .int (zI (z)))]) (Nat.le_of_ble_eq_true rfl) rfl zd_MO_brackets_127 ?_
                      refine zw_goto 6 zd_MO_brackets_128 (by decide) ?_
                      refine zw_lpick (lv' := [(0, .ref h), (1, .int (zI (z))), (2, .int (zI (d + dlt (bget t q)))), (3, .int (zI (q + 2)))]) [3, 4, 1, 0] rfl ?_
                      refine zw_widen (k' := 0) (n' := 0) (by omega) (by omega) ?_
                      first
                      | (exfalso; omega)
                      | (have ex : (if bget t q = 13 ∧ bget t (q + 1) = 10 then q + 2 else q + 1) = q + 2 := by first | rw [if_pos (by omega)] | rw [if_neg (by omega)]
                         have ey : [if bget t q = 13 then 10 else bget t q] = [10 % 256] := by first | (rw [if_pos (by omega)]; rfl) | (rw [if_neg (by omega)]; congr 1; omega)
                         rw [ex, ey] at g8
                         have hq2 : q + 2 ≤ t.length := by rw [← ex]; split; (have := bget_in (l := t) (z := q + 1) (by omega); omega); omega
                         have al2 : (acc ++ [10 % 256]).length = acc.length + 1 := List.length_append
                         exact ih k2 (q + 2) (d + dlt (bget t q)) (acc ++ [10 % 256]) ⟨by omega, Or.inl ⟨by omega, g8, by omega⟩⟩ (by omega))
          · -- 36 -> 39
            obtain ⟨k2, rfl, g8⟩ := brS_esc (by omega) g7 (by omega) g6
            by_cases h1 : bget t (q + 1) = -1
            · -- the end
              have hq8 : ¬ q + 1 < t.length := fun c => by have := bget_rg0 hby (z := q + 1) (by omega); omega
              have e8 : escS t (q + 1) = ([], q + 1) := by unfold escS; rw [h1]; rfl
              rw [e8] at g8
              obtain ⟨e7, e9⟩ := brS_out (by omega) g8
              rw [List.append_nil] at e7
              subst e7
              refine zw_aload_n 1 rfl zd_MO_brackets_39 ?_
              refine zw_iload_n 4 rfl zd_MO_brackets_40 ?_
              refine zw_iconst zd_MO_brackets_41 ?_
              refine zw_iadd zd_MO_brackets_42 ?_
              refine zw_callV (As := [.int (zI (q + 1))]) (rest := []) (L2 := []) (L' := [zMOd h (t) (ws) (ts) (xs) (op) (2) (((t.length : Nat) : Int)) (ct) (wh) (fd) (fr)]) (stk' := [.int (zI (-1))]) (c_MO_escape_bad h t ws ts xs op y r ct wh fd fr (q + 1) (by omega) h1) [0] [] rfl rfl rfl zcal_MO_escape zl_MO_150 zin_MO_escape zse_MO_escape 0 rfl zRv_MOd rfl (Nat.le_of_ble_eq_true rfl) (Nat.le_of_ble_eq_true rfl) (by omega) (by omega) rfl (Nat.le_of_ble_eq_true rfl) rfl rfl zd_MO_brackets_43 ?_
              refine zw_istore_n (lv' := [(3, .int (zI (-1))), (4, .int (zI (bget t q))), (0, .ref h), (1, .int (zI (z))), (2, .int (zI (d)))]) (Nat.le_of_ble_eq_true rfl) rfl zd_MO_brackets_46 ?_
              refine zw_iload_n 0 rfl zd_MO_brackets_47 ?_
              refine zw_if_ge 6 (by omega) zd_MO_brackets_48 (by decide) (fun c48 => ?_) (fun c48 => ?_)
              · -- 48 -> 6
                exact absurd c48 (by decide)
              · -- 48 -> 51
                refine zw_iconst zd_MO_brackets_51 ?_
                exact zw_iret hR (rfl) (rfl) rfl (by omega) (by omega) zd_MO_brackets_52
            · -- goes on
              have hqj := bget_in h1
              have er := escS_rg (t := t) (q := q + 1) (by omega)
              refine zw_aload_n 1 rfl zd_MO_brackets_39 ?_
              refine zw_iload_n 4 rfl zd_MO_brackets_40 ?_
              refine zw_iconst zd_MO_brackets_41 ?_
              refine zw_iadd zd_MO_brackets_42 ?_
              refine zw_callV (As := [.int (zI (q + 1))]) (rest := []) (L2 := []) (L' := [zMOd h (t) (ws) (ts) (acc ++ (escS t (q + 1)).1) (op) (y) (r) (ct) (wh) (fd) (fr)]) (stk' := [.int (zI ((escS t (q + 1)).2))]) (c_MO_escape_ok h t ws ts acc op y r ct wh fd fr (q + 1) (by omega) h1 (by omega)) [0] [] rfl rfl rfl zcal_MO_escape zl_MO_150 zin_MO_escape zse_MO_escape 0 rfl zRv_MOd rfl (Nat.le_of_ble_eq_true rfl) (Nat.le_of_ble_eq_true rfl) (by omega) (by omega) rfl (Nat.le_of_ble_eq_true rfl) rfl rfl zd_MO_brackets_43 ?_
              refine zw_istore_n (lv' := [(3, .int (zI ((escS t (q + 1)).2))), (4, .int (zI (bget t q))), (0, .ref h), (1, .int (zI (z))), (2, .int (zI (d)))]) (Nat.le_of_ble_eq_true rfl) rfl zd_MO_brackets_46 ?_
              refine zw_iload_n 0 rfl zd_MO_brackets_47 ?_
              refine zw_if_ge 6 (by omega) zd_MO_brackets_48 (by decide) (fun c48 => ?_) (fun c48 => ?_)
              · -- 48 -> 6
                refine zw_lpick (lv' := [(0, .ref h), (1, .int (zI (z))), (2, .int (zI (d))), (3, .int (zI ((escS t (q + 1)).2)))]) [2, 3, 4, 0] rfl ?_
                refine zw_widen (k' := 0) (n' := 0) (by omega) (by omega) ?_
                have al2 : (acc ++ (escS t (q + 1)).1).length = acc.length + (escS t (q + 1)).1.length := List.length_append
                exact ih k2 (escS t (q + 1)).2 d (acc ++ (escS t (q + 1)).1) ⟨by omega, Or.inl ⟨by omega, g8, by omega⟩⟩ (by omega)
              · -- 48 -> 51
                omega
        · -- 19 -> 22
          have hq9 : ¬ q < t.length := fun c => by have := bget_rg0 hby (z := q) (by omega); omega
          obtain ⟨rfl, e9⟩ := brS_out hq9 g6
          refine zw_aload_n 1 rfl zd_MO_brackets_22 ?_
          refine zw_iconst zd_MO_brackets_23 ?_
          refine zw_aload_n 1 rfl zd_MO_brackets_24 ?_
          refine zw_unp (fun G ws h => h) (fun x0 hx0 => ?_)
          obtain ⟨⟨at_, ak, an, ab, aw, ay, af, ad, ar⟩, ft, fk, fn, fb, fo, fy, ff⟩ := x0
          obtain ⟨m1, m2, m3, m4, m5⟩ := hx0
          simp only [List.cons_append, List.nil_append]
          dsimp only at m1 m2 m3 m4 m5
          refine zw_get zc_MO 0 1 rfl (by decide) zf_MO_40 rfl zd_MO_brackets_25 ?_
          refine zw_pack (at0 := zMOd h (t) (ws) (ts) (xs) (op) (y) (r) (ct) (wh) (fd) (fr)) (Ls := [zObj h 6 [.ref at_, .int (zI (((t.length : Nat) : Int))), .int (zI (r)), .int (zI (((ws.length : Nat) : Int))), .ref ak, .ref an, .ref ab, .ref aw, .int (zI (((op.length : Nat) : Int))), .int (zI (((ts.length : Nat) : Int))), .int (zI (((((ts.flatten ++ xs)).length : Nat) : Int))), .ref ay, .ref af, .ref ad, .int (zI (ct)), .int (zI (wh)), .int (zI (y)), .ref ar], zArB at_ (65536) (ft), zArB ak (16384) (fk), zArI an (16384) (fn), zArI ab (16384) (fb), zArI aw (64) (fo), zArB ay (131072) (fy), zArI af (16385) (ff), zArB ad (400) (fd), zArB ar (420) (fr)]) (L2 := []) rfl (fun G w h => ⟨((at_, ak, an, ab, aw, ay, af, ad, ar), ft, fk, fn, fb, fo, fy, ff), ⟨m1, m2, m3, m4, m5⟩, h⟩) ?_
          refine zw_callV (As := [.int (zI (2)), .int (zI (((t.length : Nat) : Int)))]) (rest := []) (L2 := []) (L' := [zMOd h (t) (ws) (ts) (xs) (op) (2) (((t.length : Nat) : Int)) (ct) (wh) (fd) (fr)]) (stk' := [.int (zI (-1))]) (c_MO_fail h t ws ts xs op y r ct wh fd fr 2 (((t.length : Nat) : Int))) [0] [] rfl rfl rfl zcal_MO_fail zl_MO_80 zin_MO_fail zse_MO_fail 0 rfl zRv_MOd rfl (Nat.le_of_ble_eq_true rfl) (Nat.le_of_ble_eq_true rfl) (by omega) (by omega) rfl (Nat.le_of_ble_eq_true rfl) rfl rfl zd_MO_brackets_28 ?_
          exact zw_iret hR (rfl) (rfl) rfl (by omega) (by omega) zd_MO_brackets_31
  refine zw_iconst zd_MO_brackets_0 ?_
  refine zw_istore_n (lv' := [(2, .int (zI (1))), (0, .ref h), (1, .int (zI (z)))]) (Nat.le_of_ble_eq_true rfl) rfl zd_MO_brackets_1 ?_
  refine zw_iload_n 2 rfl zd_MO_brackets_2 ?_
  refine zw_iconst zd_MO_brackets_3 ?_
  refine zw_iadd zd_MO_brackets_4 ?_
  refine zw_istore_n (lv' := [(3, .int (zI (z + 1))), (2, .int (zI (1))), (0, .ref h), (1, .int (zI (z)))]) (Nat.le_of_ble_eq_true rfl) rfl zd_MO_brackets_5 ?_
  refine zw_lpick (lv' := [(0, .ref h), (1, .int (zI (z))), (2, .int (zI (1))), (3, .int (zI (z + 1)))]) [2, 3, 1, 0] rfl ?_
  refine zw_widen (k' := 0) (n' := 0) (by omega) (by omega) ?_
  exact lp _ t.length (z + 1) 1 [] ⟨by simp only [List.length_nil]; omega, Or.inl ⟨by omega, hbr, by omega⟩⟩ (Nat.lt_succ_self _)
