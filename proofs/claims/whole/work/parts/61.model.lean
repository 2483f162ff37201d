/-! THE MODEL: its atom -/
def mTape (t : List Int) (f : Nat → Int32) : Prop := t.length ≤ 65536 ∧ (∀ b ∈ t, 0 ≤ b ∧ b ≤ 255) ∧ (∀ j, fits .byte (.int (f j)) = true) ∧ ∀ j, j < t.length → f j = (zI (t.getD j 0)).toInt8.toInt32
def mWords (ws : List (Int32 × Int32 × Int32)) (fk fn fb : Nat → Int32) : Prop := ws.length ≤ 16384 ∧ (∀ j, fits .byte (.int (fk j)) = true) ∧ ∀ j, j < ws.length → fk j = (ws.getD j (0, 0, 0)).1 ∧ fn j = (ws.getD j (0, 0, 0)).2.1 ∧ fb j = (ws.getD j (0, 0, 0)).2.2
def mTexts (ts : List (List Int)) (pd : List Int) (fy ff : Nat → Int32) : Prop := ts.length ≤ 16384 ∧ (ts.flatten ++ pd).length ≤ 131072 ∧ (∀ b ∈ ts.flatten ++ pd, 0 ≤ b ∧ b ≤ 255) ∧ (∀ j, fits .byte (.int (fy j)) = true) ∧ (∀ j, j < (ts.flatten ++ pd).length → fy j = (zI ((ts.flatten ++ pd).getD j 0)).toInt8.toInt32) ∧ ∀ i, i ≤ ts.length → ff i = zI ((ts.take i).flatten.length : Nat)
def mOpen (op : List Int) (fo : Nat → Int32) : Prop := op.length ≤ 64 ∧ ∀ j, j < op.length → fo j = zI (op.getD j 0)
def zMOd (h : Nat) (t : List Int) (ws : List (Int32 × Int32 × Int32)) (ts : List (List Int)) (pd : List Int) (op : List Int) (y r ct wh : Int) (fd fr : Nat → Int32) : zAt := fun G w => ∃ x : (Nat × Nat × Nat × Nat × Nat × Nat × Nat × Nat × Nat) × (Nat → Int32) × (Nat → Int32) × (Nat → Int32) × (Nat → Int32) × (Nat → Int32) × (Nat → Int32) × (Nat → Int32),
  (mTape t x.2.1 ∧ mWords ws x.2.2.1 x.2.2.2.1 x.2.2.2.2.1 ∧ mTexts ts pd x.2.2.2.2.2.2.1 x.2.2.2.2.2.2.2 ∧ mOpen op x.2.2.2.2.2.1 ∧ ((∀ j, fits .byte (.int (fd j)) = true) ∧ ∀ j, fits .byte (.int (fr j)) = true)) ∧
  zSt [zObj h 6 [.ref x.1.1, .int (zI (t.length : Nat)), .int (zI r), .int (zI (ws.length : Nat)), .ref x.1.2.1, .ref x.1.2.2.1, .ref x.1.2.2.2.1, .ref x.1.2.2.2.2.1, .int (zI (op.length : Nat)), .int (zI (ts.length : Nat)), .int (zI ((ts.flatten ++ pd).length : Nat)), .ref x.1.2.2.2.2.2.1, .ref x.1.2.2.2.2.2.2.1, .ref x.1.2.2.2.2.2.2.2.1, .int (zI ct), .int (zI wh), .int (zI y), .ref x.1.2.2.2.2.2.2.2.2],
    zArB x.1.1 65536 x.2.1, zArB x.1.2.1 16384 x.2.2.1, zArI x.1.2.2.1 16384 x.2.2.2.1, zArI x.1.2.2.2.1 16384 x.2.2.2.2.1, zArI x.1.2.2.2.2.1 64 x.2.2.2.2.2.1, zArB x.1.2.2.2.2.2.1 131072 x.2.2.2.2.2.2.1, zArI x.1.2.2.2.2.2.2.1 16385 x.2.2.2.2.2.2.2, zArB x.1.2.2.2.2.2.2.2.1 400 fd, zArB x.1.2.2.2.2.2.2.2.2 420 fr] G w
theorem zRv_MOd {h : Nat} {t : List Int} {ws : List (Int32 × Int32 × Int32)} {ts : List (List Int)} {pd op : List Int} {y r ct wh : Int} {fd fr : Nat → Int32} : zRv (zMOd h t ws ts pd op y r ct wh fd fr) h 6 := fun _ _ ⟨_, _, hs⟩ => zRv_st hs
theorem zMOd_fact {h : Nat} {t : List Int} {ws : List (Int32 × Int32 × Int32)} {ts : List (List Int)} {pd op : List Int} {y r ct wh : Int} {fd fr : Nat → Int32} {G : zG} {w : va_W} (q : zMOd h t ws ts pd op y r ct wh fd fr G w) : (t.length ≤ 65536 ∧ ∀ b ∈ t, 0 ≤ b ∧ b ≤ 255) ∧ ws.length ≤ 16384 ∧ (ts.length ≤ 16384 ∧ (ts.flatten ++ pd).length ≤ 131072 ∧ ∀ b ∈ ts.flatten ++ pd, 0 ≤ b ∧ b ≤ 255) ∧ op.length ≤ 64 := by
  obtain ⟨x, ⟨m1, m2, m3, m4, m5⟩, -⟩ := q
  exact ⟨⟨m1.1, m1.2.1⟩, m2.1, ⟨m3.1, m3.2.1, m3.2.2.1⟩, m4.1⟩
def mPlain (z : Int) : Bool := decide (0 ≤ z) && sPlain z
theorem mPlain_a {z : Int} (h : z < 0) : mPlain z = false := by unfold mPlain; rw [decide_eq_false (show ¬ 0 ≤ z by omega)]; rfl
theorem mPlain_b {z : Int} (h : sBlank z = true) : mPlain z = false := by unfold mPlain sPlain; rw [h]; simp
theorem mPlain_c {z : Int} (h : z = 40 ∨ z = 41 ∨ z = 60 ∨ z = 62 ∨ z = 91 ∨ z = 93 ∨ z = 123 ∨ z = 125 ∨ z = 47 ∨ z = 37) : mPlain z = false := by unfold mPlain sPlain; rw [show sMark z = true from decide_eq_true h]; simp
theorem mPlain_1 {z : Int} (h0 : 0 ≤ z) (h1 : sBlank z = false) (h2 : ¬ (z = 40 ∨ z = 41 ∨ z = 60 ∨ z = 62 ∨ z = 91 ∨ z = 93 ∨ z = 123 ∨ z = 125 ∨ z = 47 ∨ z = 37)) : mPlain z = true := by unfold mPlain sPlain; rw [decide_eq_true h0, h1, show sMark z = false from decide_eq_false h2]; rfl
theorem mPlain_t {z : Int} (h : mPlain z = true) : sPlain z = true := by
  unfold mPlain at h
  cases hs : sPlain z with
  | true => rfl
  | false => rw [hs] at h; simp at h
theorem mPlain_in {z : Int} (h : mPlain z = true) : z ≠ -1 := by
  intro e
  rw [e] at h
  exact absurd h (by decide)
theorem mPlain_f {z : Int} (h : mPlain z = false) (h0 : 0 ≤ z) : sPlain z = false := by
  unfold mPlain at h
  rw [decide_eq_true h0] at h
  simpa using h
theorem sDig_t {z : Int} (h : sDig z = true) : sDig z = true := h
theorem sDig_in {z : Int} (h : sDig z = true) : z ≠ -1 := by
  have : 48 ≤ z ∧ z ≤ 57 := of_decide_eq_true h
  omega
theorem sDig_f {z : Int} (h : sDig z = false) (_ : 0 ≤ z) : sDig z = false := h
def digM (z : Int) : Int := if 48 ≤ z ∧ z ≤ 57 then z - 48 else if 97 ≤ z ∧ z ≤ 122 then z - 97 + 10 else if 65 ≤ z ∧ z ≤ 90 then z - 65 + 10 else 99
theorem digM_rg (z : Int) : (0 ≤ digM z ∧ digM z ≤ 99) ∧ ((digV z = -1 ∧ digM z = 99) ∨ (digM z = digV z ∧ 0 ≤ digV z ∧ digV z ≤ 35)) := by
  unfold digM digV
  repeat' split
  all_goals omega
theorem bget_rg0 {l : List Int} (h : ∀ b ∈ l, 0 ≤ b ∧ b ≤ 255) {z : Int} (hz : 0 ≤ z ∧ z < l.length) : 0 ≤ bget l z := by
  unfold bget
  rw [if_pos hz]
  exact (h _ (zmem_getD (by omega))).1
theorem scanE_ub {f : Int → Bool} {t : List Int} {p : Int} (h0 : 0 ≤ p) : scanE f t p ≤ max p t.length := by
  rcases Int.lt_or_le p t.length with q | q
  · have := (scanE_spec (f := f) (t := t) h0).2.1 (by omega)
    omega
  · have : scanE f t p = p := scanE_uniq h0 (Int.le_refl p) (fun j a b => by omega) (fun c => by omega)
    omega
theorem mtape_at {t : List Int} {f : Nat → Int32} (m : mTape t f) {z : Int} (h : 0 ≤ z ∧ z < t.length) : f z.toNat = (zI (bget t z)).toInt8.toInt32 := by
  rw [m.2.2.2 _ (by omega), bget, if_pos h]
theorem mtape_byte {t : List Int} {f : Nat → Int32} (m : mTape t f) {z : Int} (h : 0 ≤ z ∧ z < t.length) : 0 ≤ bget t z ∧ bget t z ≤ 255 := by
  rw [bget, if_pos h]
  exact m.2.1 _ (zmem_getD (by omega))
theorem zI_b8 : ∀ n : Nat, n < 8 → (zI (n : Int)).toInt8.toInt32 = zI (n : Int) := by decide +kernel
theorem mwords_add {ws : List (Int32 × Int32 × Int32)} {fk fn fb : Nat → Int32} {q : Int} {x z : Int32} (m : mWords ws fk fn fb) (h : ws.length < 16384) (hq : 0 ≤ q ∧ q ≤ 7) : mWords (ws ++ [(zI q, x, z)]) (upd fk ((ws.length : Nat) : Int).toNat (vp_nar .byte ((zI q).toInt8.toInt32))) (upd fn ((ws.length : Nat) : Int).toNat x) (upd fb ((ws.length : Nat) : Int).toNat z) := by
  have e8 : (zI q).toInt8.toInt32 = zI q := by
    have := zI_b8 q.toNat (by omega)
    rwa [show ((q.toNat : Nat) : Int) = q by omega] at this
  refine ⟨by rw [List.length_append, List.length_singleton]; omega, zfit_upd m.2.1, ?_⟩
  intro j hj
  rw [show ((ws.length : Nat) : Int).toNat = ws.length by omega, pk_vb, e8]
  rw [List.length_append, List.length_singleton] at hj
  by_cases e : j = ws.length
  · subst e
    rw [pk_us, pk_us, pk_us, zgD_r _ _ _ (Nat.le_refl _)]
    simp
  · rw [pk_un e, pk_un e, pk_un e, zgD_l _ _ _ (by omega)]
    exact m.2.2 j (by omega)
theorem mtexts_drop {ts : List (List Int)} {pd : List Int} {fy ff : Nat → Int32} {z : Int} (m : mTexts ts pd fy ff) (h : (ts.flatten ++ pd).length < 131072) : mTexts ts (pd ++ [z % 256]) (upd fy (((ts.flatten ++ pd).length : Nat) : Int).toNat (vp_nar .byte ((zI z).toInt8.toInt32))) ff := by
  unfold mTexts
  rw [← List.append_assoc]
  refine ⟨m.1, by rw [List.length_append, List.length_singleton]; omega, zbytes_snoc m.2.2.1 (by omega), zfit_upd m.2.2.2.1, zrow_sncB m.2.2.2.2.1, m.2.2.2.2.2⟩
theorem ts_take_succ {ts : List (List Int)} {i : Nat} (h : i < ts.length) : (ts.take (i + 1)).flatten.length = (ts.take i).flatten.length + (ts.getD i []).length := by
  rw [List.take_succ_eq_append_getElem h, List.flatten_append, List.length_append, List.getD_eq_getElem?_getD, List.getElem?_eq_getElem h]
  simp
theorem msize {ts : List (List Int)} {pd : List Int} {fy ff : Nat → Int32} {z : Int} (m : mTexts ts pd fy ff) (h0 : 0 ≤ z) (h : z < ts.length) : iget (tsSizes ts) z = ff (z + 1).toNat - ff z.toNat := by
  rw [ig_sizes ⟨h0, h⟩, m.2.2.2.2.2 _ (by omega), m.2.2.2.2.2 _ (by omega), zI_sub, show (z + 1).toNat = z.toNat + 1 by omega, ts_take_succ (by omega)]
  congr 1
  omega
set_option maxHeartbeats 4000000 in
set_option maxRecDepth 100000 in
theorem c_MO_isBlank (z : Int) (hz : -2147483648 ≤ z ∧ z ≤ 2147483647) : zCT zy_MO_isBlank zm_MO_isBlank (0) (0) [.int (zI z)] [] (some (.int (zI (bI (sBlank z))))) [] := by
  refine zCT.of [(0, .int (zI (z)))] rfl (by decide) rfl (fun h => by first | rfl | cases h) (Nat.le_of_ble_eq_true rfl) (fun X hR => ?_)
  refine zw_iload_n 0 rfl zd_MO_isBlank_0 ?_
  refine zw_if_eq 34 (by omega) zd_MO_isBlank_1 (by decide) (fun c1 => ?_) (fun c1 => ?_)
  · -- 1 -> 34
    refine zw_iconst zd_MO_isBlank_34 ?_
    refine zw_goto 39 zd_MO_isBlank_35 (by decide) ?_
    exact zw_zret hR (by rw [show sBlank z = true from decide_eq_true (by omega)]; rfl) rfl rfl rfl (by omega) (by omega) zd_MO_isBlank_39
  · -- 1 -> 4
    refine zw_iload_n 0 rfl zd_MO_isBlank_4 ?_
    refine zw_bipush rfl zd_MO_isBlank_5 ?_
    refine zw_icmp_eq 34 (by omega) (by omega) zd_MO_isBlank_7 (by decide) (fun c7 => ?_) (fun c7 => ?_)
    · -- 7 -> 34
      refine zw_iconst zd_MO_isBlank_34 ?_
      refine zw_goto 39 zd_MO_isBlank_35 (by decide) ?_
      exact zw_zret hR (by rw [show sBlank z = true from decide_eq_true (by omega)]; rfl) rfl rfl rfl (by omega) (by omega) zd_MO_isBlank_39
    · -- 7 -> 10
      refine zw_iload_n 0 rfl zd_MO_isBlank_10 ?_
      refine zw_bipush rfl zd_MO_isBlank_11 ?_
      refine zw_icmp_eq 34 (by omega) (by omega) zd_MO_isBlank_13 (by decide) (fun c13 => ?_) (fun c13 => ?_)
      · -- 13 -> 34
        refine zw_iconst zd_MO_isBlank_34 ?_
        refine zw_goto 39 zd_MO_isBlank_35 (by decide) ?_
        exact zw_zret hR (by rw [show sBlank z = true from decide_eq_true (by omega)]; rfl) rfl rfl rfl (by omega) (by omega) zd_MO_isBlank_39
      · -- 13 -> 16
        refine zw_iload_n 0 rfl zd_MO_isBlank_16 ?_
        refine zw_bipush rfl zd_MO_isBlank_17 ?_
        refine zw_icmp_eq 34 (by omega) (by omega) zd_MO_isBlank_19 (by decide) (fun c19 => ?_) (fun c19 => ?_)
        · -- 19 -> 34
          refine zw_iconst zd_MO_isBlank_34 ?_
          refine zw_goto 39 zd_MO_isBlank_35 (by decide) ?_
          exact zw_zret hR (by rw [show sBlank z = true from decide_eq_true (by omega)]; rfl) rfl rfl rfl (by omega) (by omega) zd_MO_isBlank_39
        · -- 19 -> 22
          refine zw_iload_n 0 rfl zd_MO_isBlank_22 ?_
          refine zw_bipush rfl zd_MO_isBlank_23 ?_
          refine zw_icmp_eq 34 (by omega) (by omega) zd_MO_isBlank_25 (by decide) (fun c25 => ?_) (fun c25 => ?_)
          · -- 25 -> 34
            refine zw_iconst zd_MO_isBlank_34 ?_
            refine zw_goto 39 zd_MO_isBlank_35 (by decide) ?_
            exact zw_zret hR (by rw [show sBlank z = true from decide_eq_true (by omega)]; rfl) rfl rfl rfl (by omega) (by omega) zd_MO_isBlank_39
          · -- 25 -> 28
            refine zw_iload_n 0 rfl zd_MO_isBlank_28 ?_
            refine zw_bipush rfl zd_MO_isBlank_29 ?_
            refine zw_icmp_ne 38 (by omega) (by omega) zd_MO_isBlank_31 (by decide) (fun c31 => ?_) (fun c31 => ?_)
            · -- 31 -> 38
              refine zw_iconst zd_MO_isBlank_38 ?_
              exact zw_zret hR (by rw [show sBlank z = false from decide_eq_false (by omega)]; rfl) rfl rfl rfl (by omega) (by omega) zd_MO_isBlank_39
            · -- 31 -> 34
              refine zw_iconst zd_MO_isBlank_34 ?_
              refine zw_goto 39 zd_MO_isBlank_35 (by decide) ?_
              exact zw_zret hR (by rw [show sBlank z = true from decide_eq_true (by omega)]; rfl) rfl rfl rfl (by omega) (by omega) zd_MO_isBlank_39
set_option maxHeartbeats 4000000 in
set_option maxRecDepth 100000 in
theorem c_MO_isDigit (z : Int) (hz : -2147483648 ≤ z ∧ z ≤ 2147483647) : zCT zy_MO_isDigit zm_MO_isDigit (0) (0) [.int (zI z)] [] (some (.int (zI (bI (sDig z))))) [] := by
  refine zCT.of [(0, .int (zI (z)))] rfl (by decide) rfl (fun h => by first | rfl | cases h) (Nat.le_of_ble_eq_true rfl) (fun X hR => ?_)
  refine zw_iload_n 0 rfl zd_MO_isDigit_0 ?_
  refine zw_bipush rfl zd_MO_isDigit_1 ?_
  refine zw_icmp_lt 16 (by omega) (by omega) zd_MO_isDigit_3 (by decide) (fun c3 => ?_) (fun c3 => ?_)
  · -- 3 -> 16
    refine zw_iconst zd_MO_isDigit_16 ?_
    exact zw_zret hR (by rw [show sDig z = false from decide_eq_false (by omega)]; rfl) rfl rfl rfl (by omega) (by omega) zd_MO_isDigit_17
  · -- 3 -> 6
    refine zw_iload_n 0 rfl zd_MO_isDigit_6 ?_
    refine zw_bipush rfl zd_MO_isDigit_7 ?_
    refine zw_icmp_gt 16 (by omega) (by omega) zd_MO_isDigit_9 (by decide) (fun c9 => ?_) (fun c9 => ?_)
    · -- 9 -> 16
      refine zw_iconst zd_MO_isDigit_16 ?_
      exact zw_zret hR (by rw [show sDig z = false from decide_eq_false (by omega)]; rfl) rfl rfl rfl (by omega) (by omega) zd_MO_isDigit_17
    · -- 9 -> 12
      refine zw_iconst zd_MO_isDigit_12 ?_
      refine zw_goto 17 zd_MO_isDigit_13 (by decide) ?_
      exact zw_zret hR (by rw [show sDig z = true from decide_eq_true (by omega)]; rfl) rfl rfl rfl (by omega) (by omega) zd_MO_isDigit_17
set_option maxHeartbeats 4000000 in
set_option maxRecDepth 100000 in
theorem c_MO_isSign (z : Int) (hz : -2147483648 ≤ z ∧ z ≤ 2147483647) : zCT zy_MO_isSign zm_MO_isSign (0) (0) [.int (zI z)] [] (some (.int (zI (bI (sSign z))))) [] := by
  refine zCT.of [(0, .int (zI (z)))] rfl (by decide) rfl (fun h => by first | rfl | cases h) (Nat.le_of_ble_eq_true rfl) (fun X hR => ?_)
  refine zw_iload_n 0 rfl zd_MO_isSign_0 ?_
  refine zw_bipush rfl zd_MO_isSign_1 ?_
  refine zw_icmp_eq 12 (by omega) (by omega) zd_MO_isSign_3 (by decide) (fun c3 => ?_) (fun c3 => ?_)
  · -- 3 -> 12
    refine zw_iconst zd_MO_isSign_12 ?_
    refine zw_goto 17 zd_MO_isSign_13 (by decide) ?_
    exact zw_zret hR (by rw [show sSign z = true from decide_eq_true (by omega)]; rfl) rfl rfl rfl (by omega) (by omega) zd_MO_isSign_17
  · -- 3 -> 6
    refine zw_iload_n 0 rfl zd_MO_isSign_6 ?_
    refine zw_bipush rfl zd_MO_isSign_7 ?_
    refine zw_icmp_ne 16 (by omega) (by omega) zd_MO_isSign_9 (by decide) (fun c9 => ?_) (fun c9 => ?_)
    · -- 9 -> 16
      refine zw_iconst zd_MO_isSign_16 ?_
      exact zw_zret hR (by rw [show sSign z = false from decide_eq_false (by omega)]; rfl) rfl rfl rfl (by omega) (by omega) zd_MO_isSign_17
    · -- 9 -> 12
      refine zw_iconst zd_MO_isSign_12 ?_
      refine zw_goto 17 zd_MO_isSign_13 (by decide) ?_
      exact zw_zret hR (by rw [show sSign z = true from decide_eq_true (by omega)]; rfl) rfl rfl rfl (by omega) (by omega) zd_MO_isSign_17
set_option maxHeartbeats 4000000 in
set_option maxRecDepth 100000 in
theorem c_MO_isOctal (z : Int) (hz : -2147483648 ≤ z ∧ z ≤ 2147483647) : zCT zy_MO_isOctal zm_MO_isOctal (0) (0) [.int (zI z)] [] (some (.int (zI (bI (sOct z))))) [] := by
  refine zCT.of [(0, .int (zI (z)))] rfl (by decide) rfl (fun h => by first | rfl | cases h) (Nat.le_of_ble_eq_true rfl) (fun X hR => ?_)
  refine zw_iload_n 0 rfl zd_MO_isOctal_0 ?_
  refine zw_bipush rfl zd_MO_isOctal_1 ?_
  refine zw_icmp_lt 16 (by omega) (by omega) zd_MO_isOctal_3 (by decide) (fun c3 => ?_) (fun c3 => ?_)
  · -- 3 -> 16
    refine zw_iconst zd_MO_isOctal_16 ?_
    exact zw_zret hR (by rw [show sOct z = false from decide_eq_false (by omega)]; rfl) rfl rfl rfl (by omega) (by omega) zd_MO_isOctal_17
  · -- 3 -> 6
    refine zw_iload_n 0 rfl zd_MO_isOctal_6 ?_
    refine zw_bipush rfl zd_MO_isOctal_7 ?_
    refine zw_icmp_gt 16 (by omega) (by omega) zd_MO_isOctal_9 (by decide) (fun c9 => ?_) (fun c9 => ?_)
    · -- 9 -> 16
      refine zw_iconst zd_MO_isOctal_16 ?_
      exact zw_zret hR (by rw [show sOct z = false from decide_eq_false (by omega)]; rfl) rfl rfl rfl (by omega) (by omega) zd_MO_isOctal_17
    · -- 9 -> 12
      refine zw_iconst zd_MO_isOctal_12 ?_
      refine zw_goto 17 zd_MO_isOctal_13 (by decide) ?_
      exact zw_zret hR (by rw [show sOct z = true from decide_eq_true (by omega)]; rfl) rfl rfl rfl (by omega) (by omega) zd_MO_isOctal_17
set_option maxHeartbeats 4000000 in
set_option maxRecDepth 100000 in
theorem c_MO_isPlain (z : Int) (hz : -2147483648 ≤ z ∧ z ≤ 2147483647) : zCT zy_MO_isPlain zm_MO_isPlain (0) (0) [.int (zI z)] [] (some (.int (zI (bI (mPlain z))))) [] := by
  refine zCT.of [(0, .int (zI (z)))] rfl (by decide) rfl (fun h => by first | rfl | cases h) (Nat.le_of_ble_eq_true rfl) (fun X hR => ?_)
  refine zw_iload_n 0 rfl zd_MO_isPlain_0 ?_
  refine zw_if_lt 75 (by omega) zd_MO_isPlain_1 (by decide) (fun c1 => ?_) (fun c1 => ?_)
  · -- 1 -> 75
    refine zw_iconst zd_MO_isPlain_75 ?_
    exact zw_zret hR (by rw [show mPlain z = false from by first | exact mPlain_a (by omega) | exact mPlain_b (zbI1 (by omega)) | exact mPlain_c (by omega)]; rfl) rfl rfl rfl (by omega) (by omega) zd_MO_isPlain_76
  · -- 1 -> 4
    refine zw_iload_n 0 rfl zd_MO_isPlain_4 ?_
    refine zw_callS (a := 0) (As := [.int (zI (z))]) (rest := []) (L2 := []) (L' := []) (stk' := [.int (zI (bI (sBlank z)))]) (c_MO_isBlank (z) (by omega)) [] [] rfl rfl rfl zcal_MO_isBlank zl_MO_44 zst_MO_isBlank (Nat.le_of_ble_eq_true rfl) (Nat.le_of_ble_eq_true rfl) (by omega) (by omega) rfl (Nat.le_of_ble_eq_true rfl) rfl rfl zd_MO_isPlain_5 ?_
    have rb5 := bI_rg (sBlank z)
    refine zw_if_ne 75 (by omega) zd_MO_isPlain_8 (by decide) (fun c8 => ?_) (fun c8 => ?_)
    · -- 8 -> 75
      refine zw_iconst zd_MO_isPlain_75 ?_
      exact zw_zret hR (by rw [show mPlain z = false from by first | exact mPlain_a (by omega) | exact mPlain_b (zbI1 (by omega)) | exact mPlain_c (by omega)]; rfl) rfl rfl rfl (by omega) (by omega) zd_MO_isPlain_76
    · -- 8 -> 11
      refine zw_iload_n 0 rfl zd_MO_isPlain_11 ?_
      refine zw_bipush rfl zd_MO_isPlain_12 ?_
      refine zw_icmp_eq 75 (by omega) (by omega) zd_MO_isPlain_14 (by decide) (fun c14 => ?_) (fun c14 => ?_)
      · -- 14 -> 75
        refine zw_iconst zd_MO_isPlain_75 ?_
        exact zw_zret hR (by rw [show mPlain z = false from by first | exact mPlain_a (by omega) | exact mPlain_b (zbI1 (by omega)) | exact mPlain_c (by omega)]; rfl) rfl rfl rfl (by omega) (by omega) zd_MO_isPlain_76
      · -- 14 -> 17
        refine zw_iload_n 0 rfl zd_MO_isPlain_17 ?_
        refine zw_bipush rfl zd_MO_isPlain_18 ?_
        refine zw_icmp_eq 75 (by omega) (by omega) zd_MO_isPlain_20 (by decide) (fun c20 => ?_) (fun c20 => ?_)
        · -- 20 -> 75
          refine zw_iconst zd_MO_isPlain_75 ?_
          exact zw_zret hR (by rw [show mPlain z = false from by first | exact mPlain_a (by omega) | exact mPlain_b (zbI1 (by omega)) | exact mPlain_c (by omega)]; rfl) rfl rfl rfl (by omega) (by omega) zd_MO_isPlain_76
        · -- 20 -> 23
          refine zw_iload_n 0 rfl zd_MO_isPlain_23 ?_
          refine zw_bipush rfl zd_MO_isPlain_24 ?_
          refine zw_icmp_eq 75 (by omega) (by omega) zd_MO_isPlain_26 (by decide) (fun c26 => ?_) (fun c26 => ?_)
          · -- 26 -> 75
            refine zw_iconst zd_MO_isPlain_75 ?_
            exact zw_zret hR (by rw [show mPlain z = false from by first | exact mPlain_a (by omega) | exact mPlain_b (zbI1 (by omega)) | exact mPlain_c (by omega)]; rfl) rfl rfl rfl (by omega) (by omega) zd_MO_isPlain_76
          · -- 26 -> 29
            refine zw_iload_n 0 rfl zd_MO_isPlain_29 ?_
            refine zw_bipush rfl zd_MO_isPlain_30 ?_
            refine zw_icmp_eq 75 (by omega) (by omega) zd_MO_isPlain_32 (by decide) (fun c32 => ?_) (fun c32 => ?_)
            · -- 32 -> 75
              refine zw_iconst zd_MO_isPlain_75 ?_
              exact zw_zret hR (by rw [show mPlain z = false from by first | exact mPlain_a (by omega) | exact mPlain_b (zbI1 (by omega)) | exact mPlain_c (by omega)]; rfl) rfl rfl rfl (by omega) (by omega) zd_MO_isPlain_76
            · -- 32 -> 35
              refine zw_iload_n 0 rfl zd_MO_isPlain_35 ?_
              refine zw_bipush rfl zd_MO_isPlain_36 ?_
              refine zw_icmp_eq 75 (by omega) (by omega) zd_MO_isPlain_38 (by decide) (fun c38 => ?_) (fun c38 => ?_)
              · -- 38 -> 75
                refine zw_iconst zd_MO_isPlain_75 ?_
                exact zw_zret hR (by rw [show mPlain z = false from by first | exact mPlain_a (by omega) | exact mPlain_b (zbI1 (by omega)) | exact mPlain_c (by omega)]; rfl) rfl rfl rfl (by omega) (by omega) zd_MO_isPlain_76
              · -- 38 -> 41
                refine zw_iload_n 0 rfl zd_MO_isPlain_41 ?_
                refine zw_bipush rfl zd_MO_isPlain_42 ?_
                refine zw_icmp_eq 75 (by omega) (by omega) zd_MO_isPlain_44 (by decide) (fun c44 => ?_) (fun c44 => ?_)
                · -- 44 -> 75
                  refine zw_iconst zd_MO_isPlain_75 ?_
                  exact zw_zret hR (by rw [show mPlain z = false from by first | exact mPlain_a (by omega) | exact mPlain_b (zbI1 (by omega)) | exact mPlain_c (by omega)]; rfl) rfl rfl rfl (by omega) (by omega) zd_MO_isPlain_76
                · -- 44 -> 47
                  refine zw_iload_n 0 rfl zd_MO_isPlain_47 ?_
                  refine zw_bipush rfl zd_MO_isPlain_48 ?_
                  refine zw_icmp_eq 75 (by omega) (by omega) zd_MO_isPlain_50 (by decide) (fun c50 => ?_) (fun c50 => ?_)
                  · -- 50 -> 75
                    refine zw_iconst zd_MO_isPlain_75 ?_
                    exact zw_zret hR (by rw [show mPlain z = false from by first | exact mPlain_a (by omega) | exact mPlain_b (zbI1 (by omega)) | exact mPlain_c (by omega)]; rfl) rfl rfl rfl (by omega) (by omega) zd_MO_isPlain_76
                  · -- 50 -> 53
                    refine zw_iload_n 0 rfl zd_MO_isPlain_53 ?_
                    refine zw_bipush rfl zd_MO_isPlain_54 ?_
                    refine zw_icmp_eq 75 (by omega) (by omega) zd_MO_isPlain_56 (by decide) (fun c56 => ?_) (fun c56 => ?_)
                    · -- 56 -> 75
                      refine zw_iconst zd_MO_isPlain_75 ?_
                      exact zw_zret hR (by rw [show mPlain z = false from by first | exact mPlain_a (by omega) | exact mPlain_b (zbI1 (by omega)) | exact mPlain_c (by omega)]; rfl) rfl rfl rfl (by omega) (by omega) zd_MO_isPlain_76
                    · -- 56 -> 59
                      refine zw_iload_n 0 rfl zd_MO_isPlain_59 ?_
                      refine zw_bipush rfl zd_MO_isPlain_60 ?_
                      refine zw_icmp_eq 75 (by omega) (by omega) zd_MO_isPlain_62 (by decide) (fun c62 => ?_) (fun c62 => ?_)
                      · -- 62 -> 75
                        refine zw_iconst zd_MO_isPlain_75 ?_
                        exact zw_zret hR (by rw [show mPlain z = false from by first | exact mPlain_a (by omega) | exact mPlain_b (zbI1 (by omega)) | exact mPlain_c (by omega)]; rfl) rfl rfl rfl (by omega) (by omega) zd_MO_isPlain_76
                      · -- 62 -> 65
                        refine zw_iload_n 0 rfl zd_MO_isPlain_65 ?_
                        refine zw_bipush rfl zd_MO_isPlain_66 ?_
                        refine zw_icmp_eq 75 (by omega) (by omega) zd_MO_isPlain_68 (by decide) (fun c68 => ?_) (fun c68 => ?_)
                        · -- 68 -> 75
                          refine zw_iconst zd_MO_isPlain_75 ?_
                          exact zw_zret hR (by rw [show mPlain z = false from by first | exact mPlain_a (by omega) | exact mPlain_b (zbI1 (by omega)) | exact mPlain_c (by omega)]; rfl) rfl rfl rfl (by omega) (by omega) zd_MO_isPlain_76
                        · -- 68 -> 71
                          refine zw_iconst zd_MO_isPlain_71 ?_
                          refine zw_goto 76 zd_MO_isPlain_72 (by decide) ?_
                          exact zw_zret hR (by rw [show mPlain z = true from mPlain_1 (by omega) (zbI0 (by omega)) (by omega)]; rfl) rfl rfl rfl (by omega) (by omega) zd_MO_isPlain_76
set_option maxHeartbeats 4000000 in
set_option maxRecDepth 100000 in
theorem c_MO_digitOf (z : Int) (hz : -2147483648 ≤ z ∧ z ≤ 2147483647) : zCT zy_MO_digitOf zm_MO_digitOf (0) (0) [.int (zI z)] [] (some (.int (zI (digM z)))) [] := by
  refine zCT.of [(0, .int (zI (z)))] rfl (by decide) rfl (fun h => by first | rfl | cases h) (Nat.le_of_ble_eq_true rfl) (fun X hR => ?_)
  refine zw_iload_n 0 rfl zd_MO_digitOf_0 ?_
  refine zw_callS (a := 0) (As := [.int (zI (z))]) (rest := []) (L2 := []) (L' := []) (stk' := [.int (zI (bI (sDig z)))]) (c_MO_isDigit (z) (by omega)) [] [] rfl rfl rfl zcal_MO_isDigit zl_MO_48 zst_MO_isDigit (Nat.le_of_ble_eq_true rfl) (Nat.le_of_ble_eq_true rfl) (by omega) (by omega) rfl (Nat.le_of_ble_eq_true rfl) rfl rfl zd_MO_digitOf_1 ?_
  have rb1 := bI_rg (sDig z)
  have dz : sDig z = true ↔ (48 ≤ z ∧ z ≤ 57) := decide_eq_true_iff
  have dz1 : bI (sDig z) = 0 → ¬ (48 ≤ z ∧ z ≤ 57) := fun q q2 => by rw [zbI0 q] at dz; exact absurd (dz.mpr q2) (by decide)
  have dz2 : bI (sDig z) ≠ 0 → (48 ≤ z ∧ z ≤ 57) := fun q => dz.mp (zbI1 q)
  refine zw_if_eq 12 (by omega) zd_MO_digitOf_4 (by decide) (fun c4 => ?_) (fun c4 => ?_)
  · -- 4 -> 12
    refine zw_iload_n 0 rfl zd_MO_digitOf_12 ?_
    refine zw_bipush rfl zd_MO_digitOf_13 ?_
    refine zw_icmp_lt 32 (by omega) (by omega) zd_MO_digitOf_15 (by decide) (fun c15 => ?_) (fun c15 => ?_)
    · -- 15 -> 32
      refine zw_iload_n 0 rfl zd_MO_digitOf_32 ?_
      refine zw_bipush rfl zd_MO_digitOf_33 ?_
      refine zw_icmp_lt 54 (by omega) (by omega) zd_MO_digitOf_35 (by decide) (fun c35 => ?_) (fun c35 => ?_)
      · -- 35 -> 54
        refine zw_bipush rfl zd_MO_digitOf_54 ?_
        exact zw_iret hR (by rw [show digM z = 99 by unfold digM; repeat' (first | omega | split)]) rfl rfl (by omega) (by omega) zd_MO_digitOf_56
      · -- 35 -> 38
        refine zw_iload_n 0 rfl zd_MO_digitOf_38 ?_
        refine zw_bipush rfl zd_MO_digitOf_39 ?_
        refine zw_icmp_gt 54 (by omega) (by omega) zd_MO_digitOf_41 (by decide) (fun c41 => ?_) (fun c41 => ?_)
        · -- 41 -> 54
          refine zw_bipush rfl zd_MO_digitOf_54 ?_
          exact zw_iret hR (by rw [show digM z = 99 by unfold digM; repeat' (first | omega | split)]) rfl rfl (by omega) (by omega) zd_MO_digitOf_56
        · -- 41 -> 44
          refine zw_iload_n 0 rfl zd_MO_digitOf_44 ?_
          refine zw_bipush rfl zd_MO_digitOf_45 ?_
          refine zw_isub zd_MO_digitOf_47 ?_
          refine zw_bipush rfl zd_MO_digitOf_48 ?_
          refine zw_iadd zd_MO_digitOf_50 ?_
          refine zw_goto 56 zd_MO_digitOf_51 (by decide) ?_
          exact zw_iret hR (by rw [show digM z = (z - 65) + 10 by unfold digM; repeat' (first | omega | split)]) rfl rfl (by omega) (by omega) zd_MO_digitOf_56
    · -- 15 -> 18
      refine zw_iload_n 0 rfl zd_MO_digitOf_18 ?_
      refine zw_bipush rfl zd_MO_digitOf_19 ?_
      refine zw_icmp_gt 32 (by omega) (by omega) zd_MO_digitOf_21 (by decide) (fun c21 => ?_) (fun c21 => ?_)
      · -- 21 -> 32
        refine zw_iload_n 0 rfl zd_MO_digitOf_32 ?_
        refine zw_bipush rfl zd_MO_digitOf_33 ?_
        refine zw_icmp_lt 54 (by omega) (by omega) zd_MO_digitOf_35 (by decide) (fun c35 => ?_) (fun c35 => ?_)
        · -- 35 -> 54
          refine zw_bipush rfl zd_MO_digitOf_54 ?_
          exact zw_iret hR (by rw [show digM z = 99 by unfold digM; repeat' (first | omega | split)]) rfl rfl (by omega) (by omega) zd_MO_digitOf_56
        · -- 35 -> 38
          refine zw_iload_n 0 rfl zd_MO_digitOf_38 ?_
          refine zw_bipush rfl zd_MO_digitOf_39 ?_
          refine zw_icmp_gt 54 (by omega) (by omega) zd_MO_digitOf_41 (by decide) (fun c41 => ?_) (fun c41 => ?_)
          · -- 41 -> 54
            refine zw_bipush rfl zd_MO_digitOf_54 ?_
            exact zw_iret hR (by rw [show digM z = 99 by unfold digM; repeat' (first | omega | split)]) rfl rfl (by omega) (by omega) zd_MO_digitOf_56
          · -- 41 -> 44
            refine zw_iload_n 0 rfl zd_MO_digitOf_44 ?_
            refine zw_bipush rfl zd_MO_digitOf_45 ?_
            refine zw_isub zd_MO_digitOf_47 ?_
            refine zw_bipush rfl zd_MO_digitOf_48 ?_
            refine zw_iadd zd_MO_digitOf_50 ?_
            refine zw_goto 56 zd_MO_digitOf_51 (by decide) ?_
            exact zw_iret hR (by rw [show digM z = (z - 65) + 10 by unfold digM; repeat' (first | omega | split)]) rfl rfl (by omega) (by omega) zd_MO_digitOf_56
      · -- 21 -> 24
        refine zw_iload_n 0 rfl zd_MO_digitOf_24 ?_
        refine zw_bipush rfl zd_MO_digitOf_25 ?_
        refine zw_isub zd_MO_digitOf_27 ?_
        refine zw_bipush rfl zd_MO_digitOf_28 ?_
        refine zw_iadd zd_MO_digitOf_30 ?_
        exact zw_iret hR (by rw [show digM z = (z - 97) + 10 by unfold digM; repeat' (first | omega | split)]) rfl rfl (by omega) (by omega) zd_MO_digitOf_31
  · -- 4 -> 7
    refine zw_iload_n 0 rfl zd_MO_digitOf_7 ?_
    refine zw_bipush rfl zd_MO_digitOf_8 ?_
    refine zw_isub zd_MO_digitOf_10 ?_
    exact zw_iret hR (by rw [show digM z = z - 48 by unfold digM; repeat' (first | omega | split)]) rfl rfl (by omega) (by omega) zd_MO_digitOf_11
set_option maxHeartbeats 4000000 in
set_option maxRecDepth 100000 in
theorem c_MO_byteAt (h : Nat) (t : List Int) (ws : List (Int32 × Int32 × Int32)) (ts : List (List Int)) (pd : List Int) (op : List Int) (y r ct wh : Int) (fd fr : Nat → Int32) (z : Int) (hz : 0 ≤ z ∧ z ≤ 2147483647) : zCT zy_MO_byteAt zm_MO_byteAt (0) (0) [.ref h, .int (zI z)] [zMOd h (t) (ws) (ts) (pd) (op) (y) (r) (ct) (wh) (fd) (fr)] (some (.int (zI (bget t z)))) [zMOd h (t) (ws) (ts) (pd) (op) (y) (r) (ct) (wh) (fd) (fr)] := by
  refine zCT.of [(0, .ref h), (1, .int (zI (z)))] rfl (by decide) rfl (fun h => by first | rfl | cases h) (Nat.le_of_ble_eq_true rfl) (fun X hR => ?_)
  refine zw_unp (fun G ws h => h) (fun x0 hx0 => ?_)
  obtain ⟨⟨at_, ak, an, ab, aw, ay, af, ad, ar⟩, ft, fk, fn, fb, fo, fy, ff⟩ := x0
  obtain ⟨m1, m2, m3, m4, m5⟩ := hx0
  simp only [List.cons_append, List.nil_append]
  dsimp only at m1 m2 m3 m4 m5
  obtain ⟨t1, t2, t3, t4⟩ := id m1
  obtain ⟨w1, w2, w3⟩ := id m2
  obtain ⟨s1, s2, s3, s4, s5, s6⟩ := id m3
  obtain ⟨o1, o2⟩ := id m4
  obtain ⟨d1, d2⟩ := id m5
  refine zw_iload_n 1 rfl zd_MO_byteAt_0 ?_
  refine zw_aload_n 0 rfl zd_MO_byteAt_1 ?_
  refine zw_get zc_MO 0 1 rfl (by decide) zf_MO_40 rfl zd_MO_byteAt_2 ?_
  refine zw_icmp_ge 21 (by omega) (by omega) zd_MO_byteAt_5 (by decide) (fun c5 => ?_) (fun c5 => ?_)
  · -- 5 -> 21
    refine zw_iconst zd_MO_byteAt_21 ?_
    refine zw_pack (at0 := zMOd h (t) (ws) (ts) (pd) (op) (y) (r) (ct) (wh) (fd) (fr)) (Ls := [zObj h 6 [.ref at_, .int (zI (((t.length : Nat) : Int))), .int (zI (r)), .int (zI (((ws.length : Nat) : Int))), .ref ak, .ref an, .ref ab, .ref aw, .int (zI (((op.length : Nat) : Int))), .int (zI (((ts.length : Nat) : Int))), .int (zI (((((ts.flatten ++ pd)).length : Nat) : Int))), .ref ay, .ref af, .ref ad, .int (zI (ct)), .int (zI (wh)), .int (zI (y)), .ref ar], zArB at_ (65536) (ft), zArB ak (16384) (fk), zArI an (16384) (fn), zArI ab (16384) (fb), zArI aw (64) (fo), zArB ay (131072) (fy), zArI af (16385) (ff), zArB ad (400) (fd), zArB ar (420) (fr)]) (L2 := []) rfl (fun G w h => ⟨((at_, ak, an, ab, aw, ay, af, ad, ar), ft, fk, fn, fb, fo, fy, ff), ⟨m1, m2, m3, m4, m5⟩, h⟩) ?_
    exact zw_iret hR (by rw [bget_out (by omega)]) rfl rfl (by omega) (by omega) zd_MO_byteAt_22
  · -- 5 -> 8
    refine zw_aload_n 0 rfl zd_MO_byteAt_8 ?_
    refine zw_get zc_MO 0 0 rfl (by decide) zf_MO_8 rfl zd_MO_byteAt_9 ?_
    refine zw_iload_n 1 rfl zd_MO_byteAt_12 ?_
    refine zw_aldB 1 rfl (by omega) (by omega) zd_MO_byteAt_13 ?_
    refine zw_topE (mtape_at m1 (z := z) (by omega)) ?_
    refine zw_sipush rfl zd_MO_byteAt_14 ?_
    refine zw_iandR zd_MO_byteAt_17 ?_
    refine zw_topE (zI_byte' (mtape_byte m1 (z := z) (by omega))) ?_
    refine zw_goto 22 zd_MO_byteAt_18 (by decide) ?_
    refine zw_pack (at0 := zMOd h (t) (ws) (ts) (pd) (op) (y) (r) (ct) (wh) (fd) (fr)) (Ls := [zObj h 6 [.ref at_, .int (zI (((t.length : Nat) : Int))), .int (zI (r)), .int (zI (((ws.length : Nat) : Int))), .ref ak, .ref an, .ref ab, .ref aw, .int (zI (((op.length : Nat) : Int))), .int (zI (((ts.length : Nat) : Int))), .int (zI (((((ts.flatten ++ pd)).length : Nat) : Int))), .ref ay, .ref af, .ref ad, .int (zI (ct)), .int (zI (wh)), .int (zI (y)), .ref ar], zArB at_ (65536) (ft), zArB ak (16384) (fk), zArI an (16384) (fn), zArI ab (16384) (fb), zArI aw (64) (fo), zArB ay (131072) (fy), zArI af (16385) (ff), zArB ad (400) (fd), zArB ar (420) (fr)]) (L2 := []) rfl (fun G w h => ⟨((at_, ak, an, ab, aw, ay, af, ad, ar), ft, fk, fn, fb, fo, fy, ff), ⟨m1, m2, m3, m4, m5⟩, h⟩) ?_
    exact zw_iret hR (rfl) rfl rfl (by omega) (by omega) zd_MO_byteAt_22
set_option maxHeartbeats 4000000 in
set_option maxRecDepth 100000 in
theorem c_MO_behindDigits (h : Nat) (t : List Int) (ws : List (Int32 × Int32 × Int32)) (ts : List (List Int)) (pd : List Int) (op : List Int) (y r ct wh : Int) (fd fr : Nat → Int32) (z : Int) (hz : 0 ≤ z) (hz2 : z ≤ 1000000) : zCT zy_MO_behindDigits zm_MO_behindDigits (0) (0) [.ref h, .int (zI z)] [zMOd h (t) (ws) (ts) (pd) (op) (y) (r) (ct) (wh) (fd) (fr)] (some (.int (zI (scanE sDig t z)))) [zMOd h (t) (ws) (ts) (pd) (op) (y) (r) (ct) (wh) (fd) (fr)] := by
  refine zCT.of [(0, .ref h), (1, .int (zI (z)))] rfl (by decide) rfl (fun h => by first | rfl | cases h) (Nat.le_of_ble_eq_true rfl) (fun X hR => ?_)
  refine zw_fact 0 rfl (fun G w h => zMOd_fact h) (fun mf => ?_)
  obtain ⟨⟨ht1, hby⟩, mf2⟩ := mf
  have lp : ∀ (fuel : Nat) (q : Int), ((z ≤ q ∧ (q ≤ t.length ∨ q = z)) ∧ ∀ j, z ≤ j → j < q → j < t.length ∧ sDig (bget t j) = true) → ((t.length : Int) - q).toNat < fuel → zZ X zm_MO_behindDigits (0) (0) (0) (0) [zMOd h (t) (ws) (ts) (pd) (op) (y) (r) (ct) (wh) (fd) (fr)] 2 [(0, .ref h), (1, .int (zI (z))), (2, .int (zI (q)))] [] := by
    intro fuel
    induction fuel with
    | zero => intro q g0 hm; exact absurd hm (Nat.not_lt_zero _)
    | succ fuel ih =>
      intro q g0 hm
      refine zw_aload_n 0 rfl zd_MO_behindDigits_2 ?_
      refine zw_iload_n 2 rfl zd_MO_behindDigits_3 ?_
      refine zw_callV (As := [.int (zI (q))]) (rest := []) (L2 := []) (L' := [zMOd h (t) (ws) (ts) (pd) (op) (y) (r) (ct) (wh) (fd) (fr)]) (stk' := [.int (zI (bget t q))]) (c_MO_byteAt h t ws ts pd op y r ct wh fd fr q (by omega)) [0] [] rfl rfl rfl zcal_MO_byteAt zl_MO_51 zin_MO_byteAt zse_MO_byteAt 0 rfl zRv_MOd rfl (Nat.le_of_ble_eq_true rfl) (Nat.le_of_ble_eq_true rfl) (by omega) (by omega) rfl (Nat.le_of_ble_eq_true rfl) rfl rfl zd_MO_behindDigits_4 ?_
      have rg4 := bget_rg hby q
      refine zw_callS (a := 0) (As := [.int (zI (bget t q))]) (rest := []) (L2 := [zMOd h (t) (ws) (ts) (pd) (op) (y) (r) (ct) (wh) (fd) (fr)]) (L' := [zMOd h (t) (ws) (ts) (pd) (op) (y) (r) (ct) (wh) (fd) (fr)]) (stk' := [.int (zI (bI (sDig (bget t q))))]) (c_MO_isDigit (bget t q) (by omega)) [] [0] rfl rfl rfl zcal_MO_isDigit zl_MO_48 zst_MO_isDigit (Nat.le_of_ble_eq_true rfl) (Nat.le_of_ble_eq_true rfl) (by omega) (by omega) rfl (Nat.le_of_ble_eq_true rfl) rfl rfl zd_MO_behindDigits_7 ?_
      have rb7 := bI_rg (sDig (bget t q))
      refine zw_if_eq 19 (by omega) zd_MO_behindDigits_10 (by decide) (fun c10 => ?_) (fun c10 => ?_)
      · -- 10 -> 19
        refine zw_iload_n 2 rfl zd_MO_behindDigits_19 ?_
        have e1 : scanE sDig t z = q := by
          refine scanE_uniq (by omega) (by omega) g0.2 ?_
          rintro ⟨q1, q2⟩
          exact absurd (sDig_f (zbI0 (b := sDig (bget t q)) (by omega)) (bget_rg0 hby (z := q) (by omega))) (by rw [q2]; decide)
        exact zw_iret hR (by rw [e1]) rfl rfl (by omega) (by omega) zd_MO_behindDigits_20
      · -- 10 -> 13
        refine zw_iinc (lv' := [(2, .int (zI (q + 1))), (0, .ref h), (1, .int (zI (z)))]) 2 rfl (Nat.le_of_ble_eq_true rfl) rfl zd_MO_behindDigits_13 ?_
        refine zw_goto 2 zd_MO_behindDigits_16 (by decide) ?_
        refine zw_lpick (lv' := [(0, .ref h), (1, .int (zI (z))), (2, .int (zI (q + 1)))]) [1, 2, 0] rfl ?_
        refine zw_widen (k' := 0) (n' := 0) (by omega) (by omega) ?_
        have hq := bget_in (l := t) (z := q) (sDig_in (zbI1 (b := sDig (bget t q)) (by omega)))
        refine ih (q + 1) ⟨by omega, fun j h1 h2 => ?_⟩ (by omega)
        rcases Int.lt_or_le j q with k | k
        · exact g0.2 j h1 k
        · rw [show j = q by omega]
          exact ⟨hq.2, sDig_t (zbI1 (by omega))⟩
  refine zw_iload_n 1 rfl zd_MO_behindDigits_0 ?_
  refine zw_istore_n (lv' := [(2, .int (zI (z))), (0, .ref h), (1, .int (zI (z)))]) (Nat.le_of_ble_eq_true rfl) rfl zd_MO_behindDigits_1 ?_
  refine zw_lpick (lv' := [(0, .ref h), (1, .int (zI (z))), (2, .int (zI (z)))]) [1, 2, 0] rfl ?_
  refine zw_widen (k' := 0) (n' := 0) (by omega) (by omega) ?_
  exact lp _ z ⟨by omega, fun j h1 h2 => by omega⟩ (Nat.lt_succ_self _)
set_option maxHeartbeats 4000000 in
set_option maxRecDepth 100000 in
theorem c_MO_behindRow (h : Nat) (t : List Int) (ws : List (Int32 × Int32 × Int32)) (ts : List (List Int)) (pd : List Int) (op : List Int) (y r ct wh : Int) (fd fr : Nat → Int32) (z : Int) (hz : 0 ≤ z) (hz2 : z ≤ 1000000) : zCT zy_MO_behindRow zm_MO_behindRow (0) (0) [.ref h, .int (zI z)] [zMOd h (t) (ws) (ts) (pd) (op) (y) (r) (ct) (wh) (fd) (fr)] (some (.int (zI (scanE sPlain t z)))) [zMOd h (t) (ws) (ts) (pd) (op) (y) (r) (ct) (wh) (fd) (fr)] := by
  refine zCT.of [(0, .ref h), (1, .int (zI (z)))] rfl (by decide) rfl (fun h => by first | rfl | cases h) (Nat.le_of_ble_eq_true rfl) (fun X hR => ?_)
  refine zw_fact 0 rfl (fun G w h => zMOd_fact h) (fun mf => ?_)
  obtain ⟨⟨ht1, hby⟩, mf2⟩ := mf
  have lp : ∀ (fuel : Nat) (q : Int), ((z ≤ q ∧ (q ≤ t.length ∨ q = z)) ∧ ∀ j, z ≤ j → j < q → j < t.length ∧ sPlain (bget t j) = true) → ((t.length : Int) - q).toNat < fuel → zZ X zm_MO_behindRow (0) (0) (0) (0) [zMOd h (t) (ws) (ts) (pd) (op) (y) (r) (ct) (wh) (fd) (fr)] 2 [(0, .ref h), (1, .int (zI (z))), (2, .int (zI (q)))] [] := by
    intro fuel
    induction fuel with
    | zero => intro q g0 hm; exact absurd hm (Nat.not_lt_zero _)
    | succ fuel ih =>
      intro q g0 hm
      refine zw_aload_n 0 rfl zd_MO_behindRow_2 ?_
      refine zw_iload_n 2 rfl zd_MO_behindRow_3 ?_
      refine zw_callV (As := [.int (zI (q))]) (rest := []) (L2 := []) (L' := [zMOd h (t) (ws) (ts) (pd) (op) (y) (r) (ct) (wh) (fd) (fr)]) (stk' := [.int (zI (bget t q))]) (c_MO_byteAt h t ws ts pd op y r ct wh fd fr q (by omega)) [0] [] rfl rfl rfl zcal_MO_byteAt zl_MO_51 zin_MO_byteAt zse_MO_byteAt 0 rfl zRv_MOd rfl (Nat.le_of_ble_eq_true rfl) (Nat.le_of_ble_eq_true rfl) (by omega) (by omega) rfl (Nat.le_of_ble_eq_true rfl) rfl rfl zd_MO_behindRow_4 ?_
      have rg4 := bget_rg hby q
      refine zw_callS (a := 0) (As := [.int (zI (bget t q))]) (rest := []) (L2 := [zMOd h (t) (ws) (ts) (pd) (op) (y) (r) (ct) (wh) (fd) (fr)]) (L' := [zMOd h (t) (ws) (ts) (pd) (op) (y) (r) (ct) (wh) (fd) (fr)]) (stk' := [.int (zI (bI (mPlain (bget t q))))]) (c_MO_isPlain (bget t q) (by omega)) [] [0] rfl rfl rfl zcal_MO_isPlain zl_MO_159 zst_MO_isPlain (Nat.le_of_ble_eq_true rfl) (Nat.le_of_ble_eq_true rfl) (by omega) (by omega) rfl (Nat.le_of_ble_eq_true rfl) rfl rfl zd_MO_behindRow_7 ?_
      have rb7 := bI_rg (mPlain (bget t q))
      refine zw_if_eq 19 (by omega) zd_MO_behindRow_10 (by decide) (fun c10 => ?_) (fun c10 => ?_)
      · -- 10 -> 19
        refine zw_iload_n 2 rfl zd_MO_behindRow_19 ?_
        have e1 : scanE sPlain t z = q := by
          refine scanE_uniq (by omega) (by omega) g0.2 ?_
          rintro ⟨q1, q2⟩
          exact absurd (mPlain_f (zbI0 (b := mPlain (bget t q)) (by omega)) (bget_rg0 hby (z := q) (by omega))) (by rw [q2]; decide)
        exact zw_iret hR (by rw [e1]) rfl rfl (by omega) (by omega) zd_MO_behindRow_20
      · -- 10 -> 13
        refine zw_iinc (lv' := [(2, .int (zI (q + 1))), (0, .ref h), (1, .int (zI (z)))]) 2 rfl (Nat.le_of_ble_eq_true rfl) rfl zd_MO_behindRow_13 ?_
        refine zw_goto 2 zd_MO_behindRow_16 (by decide) ?_
        refine zw_lpick (lv' := [(0, .ref h), (1, .int (zI (z))), (2, .int (zI (q + 1)))]) [1, 2, 0] rfl ?_
        refine zw_widen (k' := 0) (n' := 0) (by omega) (by omega) ?_
        have hq := bget_in (l := t) (z := q) (mPlain_in (zbI1 (b := mPlain (bget t q)) (by omega)))
        refine ih (q + 1) ⟨by omega, fun j h1 h2 => ?_⟩ (by omega)
        rcases Int.lt_or_le j q with k | k
        · exact g0.2 j h1 k
        · rw [show j = q by omega]
          exact ⟨hq.2, mPlain_t (zbI1 (by omega))⟩
  refine zw_iload_n 1 rfl zd_MO_behindRow_0 ?_
  refine zw_istore_n (lv' := [(2, .int (zI (z))), (0, .ref h), (1, .int (zI (z)))]) (Nat.le_of_ble_eq_true rfl) rfl zd_MO_behindRow_1 ?_
  refine zw_lpick (lv' := [(0, .ref h), (1, .int (zI (z))), (2, .int (zI (z)))]) [1, 2, 0] rfl ?_
  refine zw_widen (k' := 0) (n' := 0) (by omega) (by omega) ?_
  exact lp _ z ⟨by omega, fun j h1 h2 => by omega⟩ (Nat.lt_succ_self _)
set_option maxHeartbeats 4000000 in
set_option maxRecDepth 100000 in
theorem c_MO_fail (h : Nat) (t : List Int) (ws : List (Int32 × Int32 × Int32)) (ts : List (List Int)) (pd : List Int) (op : List Int) (y r ct wh : Int) (fd fr : Nat → Int32) (q z : Int) : zCT zy_MO_fail zm_MO_fail (0) (0) [.ref h, .int (zI q), .int (zI z)] [zMOd h (t) (ws) (ts) (pd) (op) (y) (r) (ct) (wh) (fd) (fr)] (some (.int (zI (-1)))) [zMOd h (t) (ws) (ts) (pd) (op) (q) (z) (ct) (wh) (fd) (fr)] := by
  refine zCT.of [(0, .ref h), (1, .int (zI (q))), (2, .int (zI (z)))] rfl (by decide) rfl (fun h => by first | rfl | cases h) (Nat.le_of_ble_eq_true rfl) (fun X hR => ?_)
  refine zw_unp (fun G ws h => h) (fun x0 hx0 => ?_)
  obtain ⟨⟨at_, ak, an, ab, aw, ay, af, ad, ar⟩, ft, fk, fn, fb, fo, fy, ff⟩ := x0
  obtain ⟨m1, m2, m3, m4, m5⟩ := hx0
  simp only [List.cons_append, List.nil_append]
  dsimp only at m1 m2 m3 m4 m5
  obtain ⟨t1, t2, t3, t4⟩ := id m1
  obtain ⟨w1, w2, w3⟩ := id m2
  obtain ⟨s1, s2, s3, s4, s5, s6⟩ := id m3
  obtain ⟨o1, o2⟩ := id m4
  obtain ⟨d1, d2⟩ := id m5
  refine zw_aload_n 0 rfl zd_MO_fail_0 ?_
  refine zw_iload_n 1 rfl zd_MO_fail_1 ?_
  refine zw_put (L' := [zObj h 6 [.ref at_, .int (zI (((t.length : Nat) : Int))), .int (zI (r)), .int (zI (((ws.length : Nat) : Int))), .ref ak, .ref an, .ref ab, .ref aw, .int (zI (((op.length : Nat) : Int))), .int (zI (((ts.length : Nat) : Int))), .int (zI (((((ts.flatten ++ pd)).length : Nat) : Int))), .ref ay, .ref af, .ref ad, .int (zI (ct)), .int (zI (wh)), .int (zI (q)), .ref ar], zArB at_ (65536) (ft), zArB ak (16384) (fk), zArI an (16384) (fn), zArI ab (16384) (fb), zArI aw (64) (fo), zArB ay (131072) (fy), zArI af (16385) (ff), zArB ad (400) (fd), zArB ar (420) (fr)]) zc_MO 0 16 rfl (by decide) zf_MO_55 rfl rfl rfl (Nat.le_of_ble_eq_true rfl) rfl zd_MO_fail_2 ?_
  refine zw_aload_n 0 rfl zd_MO_fail_5 ?_
  refine zw_iload_n 2 rfl zd_MO_fail_6 ?_
  refine zw_put (L' := [zObj h 6 [.ref at_, .int (zI (((t.length : Nat) : Int))), .int (zI (z)), .int (zI (((ws.length : Nat) : Int))), .ref ak, .ref an, .ref ab, .ref aw, .int (zI (((op.length : Nat) : Int))), .int (zI (((ts.length : Nat) : Int))), .int (zI (((((ts.flatten ++ pd)).length : Nat) : Int))), .ref ay, .ref af, .ref ad, .int (zI (ct)), .int (zI (wh)), .int (zI (q)), .ref ar], zArB at_ (65536) (ft), zArB ak (16384) (fk), zArI an (16384) (fn), zArI ab (16384) (fb), zArI aw (64) (fo), zArB ay (131072) (fy), zArI af (16385) (ff), zArB ad (400) (fd), zArB ar (420) (fr)]) zc_MO 0 2 rfl (by decide) zf_MO_58 rfl rfl rfl (Nat.le_of_ble_eq_true rfl) rfl zd_MO_fail_7 ?_
  refine zw_iconst zd_MO_fail_10 ?_
  refine zw_pack (at0 := zMOd h (t) (ws) (ts) (pd) (op) (q) (z) (ct) (wh) (fd) (fr)) (Ls := [zObj h 6 [.ref at_, .int (zI (((t.length : Nat) : Int))), .int (zI (z)), .int (zI (((ws.length : Nat) : Int))), .ref ak, .ref an, .ref ab, .ref aw, .int (zI (((op.length : Nat) : Int))), .int (zI (((ts.length : Nat) : Int))), .int (zI (((((ts.flatten ++ pd)).length : Nat) : Int))), .ref ay, .ref af, .ref ad, .int (zI (ct)), .int (zI (wh)), .int (zI (q)), .ref ar], zArB at_ (65536) (ft), zArB ak (16384) (fk), zArI an (16384) (fn), zArI ab (16384) (fb), zArI aw (64) (fo), zArB ay (131072) (fy), zArI af (16385) (ff), zArB ad (400) (fd), zArB ar (420) (fr)]) (L2 := []) rfl (fun G w h => ⟨((at_, ak, an, ab, aw, ay, af, ad, ar), ft, fk, fn, fb, fo, fy, ff), ⟨m1, m2, m3, m4, m5⟩, h⟩) ?_
  exact zw_iret hR rfl rfl rfl (by omega) (by omega) zd_MO_fail_11
set_option maxHeartbeats 4000000 in
set_option maxRecDepth 100000 in
theorem c_MO_word (h : Nat) (t : List Int) (ws : List (Int32 × Int32 × Int32)) (ts : List (List Int)) (pd : List Int) (op : List Int) (y r ct wh : Int) (fd fr : Nat → Int32) (q : Int) (x z : Int32) (hq : 0 ≤ q ∧ q ≤ 7) (hw : ws.length < 16384) : zCT zy_MO_word zm_MO_word (0) (0) [.ref h, .int (zI q), .int x, .int z] [zMOd h (t) (ws) (ts) (pd) (op) (y) (r) (ct) (wh) (fd) (fr)] (none) [zMOd h (t) (ws ++ [(zI q, x, z)]) (ts) (pd) (op) (y) (r) (ct) (wh) (fd) (fr)] := by
  refine zCT.of [(0, .ref h), (1, .int (zI (q))), (2, .int (x)), (3, .int (z))] rfl (by decide) rfl (fun h => by first | rfl | cases h) (Nat.le_of_ble_eq_true rfl) (fun X hR => ?_)
  refine zw_unp (fun G ws h => h) (fun x0 hx0 => ?_)
  obtain ⟨⟨at_, ak, an, ab, aw, ay, af, ad, ar⟩, ft, fk, fn, fb, fo, fy, ff⟩ := x0
  obtain ⟨m1, m2, m3, m4, m5⟩ := hx0
  simp only [List.cons_append, List.nil_append]
  dsimp only at m1 m2 m3 m4 m5
  obtain ⟨t1, t2, t3, t4⟩ := id m1
  obtain ⟨w1, w2, w3⟩ := id m2
  obtain ⟨s1, s2, s3, s4, s5, s6⟩ := id m3
  obtain ⟨o1, o2⟩ := id m4
  obtain ⟨d1, d2⟩ := id m5
  refine zw_aload_n 0 rfl zd_MO_word_0 ?_
  refine zw_get zc_MO 0 4 rfl (by decide) zf_MO_14 rfl zd_MO_word_1 ?_
  refine zw_aload_n 0 rfl zd_MO_word_4 ?_
  refine zw_get zc_MO 0 3 rfl (by decide) zf_MO_61 rfl zd_MO_word_5 ?_
  refine zw_iload_n 1 rfl zd_MO_word_8 ?_
  refine zw_i2bR zd_MO_word_9 ?_
  refine zw_astB (L' := [zObj h 6 [.ref at_, .int (zI (((t.length : Nat) : Int))), .int (zI (r)), .int (zI (((ws.length : Nat) : Int))), .ref ak, .ref an, .ref ab, .ref aw, .int (zI (((op.length : Nat) : Int))), .int (zI (((ts.length : Nat) : Int))), .int (zI (((((ts.flatten ++ pd)).length : Nat) : Int))), .ref ay, .ref af, .ref ad, .int (zI (ct)), .int (zI (wh)), .int (zI (y)), .ref ar], zArB at_ (65536) (ft), zArB ak (16384) (upd fk (((ws.length : Nat) : Int)).toNat (vp_nar .byte ((zI (q)).toInt8.toInt32))), zArI an (16384) (fn), zArI ab (16384) (fb), zArI aw (64) (fo), zArB ay (131072) (fy), zArI af (16385) (ff), zArB ad (400) (fd), zArB ar (420) (fr)]) 2 rfl (by omega) (by omega) rfl zd_MO_word_10 ?_
  refine zw_aload_n 0 rfl zd_MO_word_11 ?_
  refine zw_get zc_MO 0 5 rfl (by decide) zf_MO_17 rfl zd_MO_word_12 ?_
  refine zw_aload_n 0 rfl zd_MO_word_15 ?_
  refine zw_get zc_MO 0 3 rfl (by decide) zf_MO_61 rfl zd_MO_word_16 ?_
  refine zw_iload_n 2 rfl zd_MO_word_19 ?_
  refine zw_astI (L' := [zObj h 6 [.ref at_, .int (zI (((t.length : Nat) : Int))), .int (zI (r)), .int (zI (((ws.length : Nat) : Int))), .ref ak, .ref an, .ref ab, .ref aw, .int (zI (((op.length : Nat) : Int))), .int (zI (((ts.length : Nat) : Int))), .int (zI (((((ts.flatten ++ pd)).length : Nat) : Int))), .ref ay, .ref af, .ref ad, .int (zI (ct)), .int (zI (wh)), .int (zI (y)), .ref ar], zArB at_ (65536) (ft), zArB ak (16384) (upd fk (((ws.length : Nat) : Int)).toNat (vp_nar .byte ((zI (q)).toInt8.toInt32))), zArI an (16384) (upd fn (((ws.length : Nat) : Int)).toNat x), zArI ab (16384) (fb), zArI aw (64) (fo), zArB ay (131072) (fy), zArI af (16385) (ff), zArB ad (400) (fd), zArB ar (420) (fr)]) 3 rfl (by omega) (by omega) rfl zd_MO_word_20 ?_
  refine zw_aload_n 0 rfl zd_MO_word_21 ?_
  refine zw_get zc_MO 0 6 rfl (by decide) zf_MO_21 rfl zd_MO_word_22 ?_
  refine zw_aload_n 0 rfl zd_MO_word_25 ?_
  refine zw_get zc_MO 0 3 rfl (by decide) zf_MO_61 rfl zd_MO_word_26 ?_
  refine zw_iload_n 3 rfl zd_MO_word_29 ?_
  refine zw_astI (L' := [zObj h 6 [.ref at_, .int (zI (((t.length : Nat) : Int))), .int (zI (r)), .int (zI (((ws.length : Nat) : Int))), .ref ak, .ref an, .ref ab, .ref aw, .int (zI (((op.length : Nat) : Int))), .int (zI (((ts.length : Nat) : Int))), .int (zI (((((ts.flatten ++ pd)).length : Nat) : Int))), .ref ay, .ref af, .ref ad, .int (zI (ct)), .int (zI (wh)), .int (zI (y)), .ref ar], zArB at_ (65536) (ft), zArB ak (16384) (upd fk (((ws.length : Nat) : Int)).toNat (vp_nar .byte ((zI (q)).toInt8.toInt32))), zArI an (16384) (upd fn (((ws.length : Nat) : Int)).toNat x), zArI ab (16384) (upd fb (((ws.length : Nat) : Int)).toNat z), zArI aw (64) (fo), zArB ay (131072) (fy), zArI af (16385) (ff), zArB ad (400) (fd), zArB ar (420) (fr)]) 4 rfl (by omega) (by omega) rfl zd_MO_word_30 ?_
  refine zw_aload_n 0 rfl zd_MO_word_31 ?_
  refine zw_dup rfl zd_MO_word_32 ?_
  refine zw_get zc_MO 0 3 rfl (by decide) zf_MO_61 rfl zd_MO_word_33 ?_
  refine zw_iconst zd_MO_word_36 ?_
  refine zw_iadd zd_MO_word_37 ?_
  refine zw_put (L' := [zObj h 6 [.ref at_, .int (zI (((t.length : Nat) : Int))), .int (zI (r)), .int (zI ((((ws.length : Nat) : Int)) + 1)), .ref ak, .ref an, .ref ab, .ref aw, .int (zI (((op.length : Nat) : Int))), .int (zI (((ts.length : Nat) : Int))), .int (zI (((((ts.flatten ++ pd)).length : Nat) : Int))), .ref ay, .ref af, .ref ad, .int (zI (ct)), .int (zI (wh)), .int (zI (y)), .ref ar], zArB at_ (65536) (ft), zArB ak (16384) (upd fk (((ws.length : Nat) : Int)).toNat (vp_nar .byte ((zI (q)).toInt8.toInt32))), zArI an (16384) (upd fn (((ws.length : Nat) : Int)).toNat x), zArI ab (16384) (upd fb (((ws.length : Nat) : Int)).toNat z), zArI aw (64) (fo), zArB ay (131072) (fy), zArI af (16385) (ff), zArB ad (400) (fd), zArB ar (420) (fr)]) zc_MO 0 3 rfl (by decide) zf_MO_61 rfl rfl rfl (Nat.le_of_ble_eq_true rfl) rfl zd_MO_word_38 ?_
  refine zw_eqL (L' := [zObj h 6 [.ref at_, .int (zI (((t.length : Nat) : Int))), .int (zI (r)), .int (zI ((((ws ++ [(zI q, x, z)]).length : Nat) : Int))), .ref ak, .ref an, .ref ab, .ref aw, .int (zI (((op.length : Nat) : Int))), .int (zI (((ts.length : Nat) : Int))), .int (zI (((((ts.flatten ++ pd)).length : Nat) : Int))), .ref ay, .ref af, .ref ad, .int (zI (ct)), .int (zI (wh)), .int (zI (y)), .ref ar], zArB at_ (65536) (ft), zArB ak (16384) (upd fk (((ws.length : Nat) : Int)).toNat (vp_nar .byte ((zI (q)).toInt8.toInt32))), zArI an (16384) (upd fn (((ws.length : Nat) : Int)).toNat x), zArI ab (16384) (upd fb (((ws.length : Nat) : Int)).toNat z), zArI aw (64) (fo), zArB ay (131072) (fy), zArI af (16385) (ff), zArB ad (400) (fd), zArB ar (420) (fr)]) (by rw [show (((ws ++ [(zI q, x, z)]).length : Nat) : Int) = ((ws.length : Nat) : Int) + 1 by rw [List.length_append]; rfl]) ?_
  refine zw_pack (at0 := zMOd h (t) (ws ++ [(zI q, x, z)]) (ts) (pd) (op) (y) (r) (ct) (wh) (fd) (fr)) (Ls := [zObj h 6 [.ref at_, .int (zI (((t.length : Nat) : Int))), .int (zI (r)), .int (zI ((((ws ++ [(zI q, x, z)]).length : Nat) : Int))), .ref ak, .ref an, .ref ab, .ref aw, .int (zI (((op.length : Nat) : Int))), .int (zI (((ts.length : Nat) : Int))), .int (zI (((((ts.flatten ++ pd)).length : Nat) : Int))), .ref ay, .ref af, .ref ad, .int (zI (ct)), .int (zI (wh)), .int (zI (y)), .ref ar], zArB at_ (65536) (ft), zArB ak (16384) (upd fk (((ws.length : Nat) : Int)).toNat (vp_nar .byte ((zI (q)).toInt8.toInt32))), zArI an (16384) (upd fn (((ws.length : Nat) : Int)).toNat x), zArI ab (16384) (upd fb (((ws.length : Nat) : Int)).toNat z), zArI aw (64) (fo), zArB ay (131072) (fy), zArI af (16385) (ff), zArB ad (400) (fd), zArB ar (420) (fr)]) (L2 := []) rfl (fun G w h => ⟨((at_, ak, an, ab, aw, ay, af, ad, ar), ft, upd fk (((ws.length : Nat) : Int)).toNat (vp_nar .byte ((zI (q)).toInt8.toInt32)), upd fn (((ws.length : Nat) : Int)).toNat x, upd fb (((ws.length : Nat) : Int)).toNat z, fo, fy, ff), ⟨m1, mwords_add m2 (by omega) hq, m3, m4, m5⟩, h⟩) ?_
  exact zw_vret hR rfl rfl rfl (by omega) (by omega) zd_MO_word_41
set_option maxHeartbeats 4000000 in
set_option maxRecDepth 100000 in
theorem c_MO_drop (h : Nat) (t : List Int) (ws : List (Int32 × Int32 × Int32)) (ts : List (List Int)) (pd : List Int) (op : List Int) (y r ct wh : Int) (fd fr : Nat → Int32) (z : Int) (hd : (ts.flatten ++ pd).length < 131072) : zCT zy_MO_drop zm_MO_drop (0) (0) [.ref h, .int (zI z)] [zMOd h (t) (ws) (ts) (pd) (op) (y) (r) (ct) (wh) (fd) (fr)] (none) [zMOd h (t) (ws) (ts) (pd ++ [z % 256]) (op) (y) (r) (ct) (wh) (fd) (fr)] := by
  refine zCT.of [(0, .ref h), (1, .int (zI (z)))] rfl (by decide) rfl (fun h => by first | rfl | cases h) (Nat.le_of_ble_eq_true rfl) (fun X hR => ?_)
  refine zw_unp (fun G ws h => h) (fun x0 hx0 => ?_)
  obtain ⟨⟨at_, ak, an, ab, aw, ay, af, ad, ar⟩, ft, fk, fn, fb, fo, fy, ff⟩ := x0
  obtain ⟨m1, m2, m3, m4, m5⟩ := hx0
  simp only [List.cons_append, List.nil_append]
  dsimp only at m1 m2 m3 m4 m5
  obtain ⟨t1, t2, t3, t4⟩ := id m1
  obtain ⟨w1, w2, w3⟩ := id m2
  obtain ⟨s1, s2, s3, s4, s5, s6⟩ := id m3
  obtain ⟨o1, o2⟩ := id m4
  obtain ⟨d1, d2⟩ := id m5
  refine zw_aload_n 0 rfl zd_MO_drop_0 ?_
  refine zw_get zc_MO 0 11 rfl (by decide) zf_MO_28 rfl zd_MO_drop_1 ?_
  refine zw_aload_n 0 rfl zd_MO_drop_4 ?_
  refine zw_get zc_MO 0 10 rfl (by decide) zf_MO_64 rfl zd_MO_drop_5 ?_
  refine zw_iload_n 1 rfl zd_MO_drop_8 ?_
  refine zw_i2bR zd_MO_drop_9 ?_
  refine zw_astB (L' := [zObj h 6 [.ref at_, .int (zI (((t.length : Nat) : Int))), .int (zI (r)), .int (zI (((ws.length : Nat) : Int))), .ref ak, .ref an, .ref ab, .ref aw, .int (zI (((op.length : Nat) : Int))), .int (zI (((ts.length : Nat) : Int))), .int (zI (((((ts.flatten ++ pd)).length : Nat) : Int))), .ref ay, .ref af, .ref ad, .int (zI (ct)), .int (zI (wh)), .int (zI (y)), .ref ar], zArB at_ (65536) (ft), zArB ak (16384) (fk), zArI an (16384) (fn), zArI ab (16384) (fb), zArI aw (64) (fo), zArB ay (131072) (upd fy (((((ts.flatten ++ pd)).length : Nat) : Int)).toNat (vp_nar .byte ((zI (z)).toInt8.toInt32))), zArI af (16385) (ff), zArB ad (400) (fd), zArB ar (420) (fr)]) 6 rfl (by omega) (by omega) rfl zd_MO_drop_10 ?_
  refine zw_aload_n 0 rfl zd_MO_drop_11 ?_
  refine zw_dup rfl zd_MO_drop_12 ?_
  refine zw_get zc_MO 0 10 rfl (by decide) zf_MO_64 rfl zd_MO_drop_13 ?_
  refine zw_iconst zd_MO_drop_16 ?_
  refine zw_iadd zd_MO_drop_17 ?_
  refine zw_put (L' := [zObj h 6 [.ref at_, .int (zI (((t.length : Nat) : Int))), .int (zI (r)), .int (zI (((ws.length : Nat) : Int))), .ref ak, .ref an, .ref ab, .ref aw, .int (zI (((op.length : Nat) : Int))), .int (zI (((ts.length : Nat) : Int))), .int (zI ((((((ts.flatten ++ pd)).length : Nat) : Int)) + 1)), .ref ay, .ref af, .ref ad, .int (zI (ct)), .int (zI (wh)), .int (zI (y)), .ref ar], zArB at_ (65536) (ft), zArB ak (16384) (fk), zArI an (16384) (fn), zArI ab (16384) (fb), zArI aw (64) (fo), zArB ay (131072) (upd fy (((((ts.flatten ++ pd)).length : Nat) : Int)).toNat (vp_nar .byte ((zI (z)).toInt8.toInt32))), zArI af (16385) (ff), zArB ad (400) (fd), zArB ar (420) (fr)]) zc_MO 0 10 rfl (by decide) zf_MO_64 rfl rfl rfl (Nat.le_of_ble_eq_true rfl) rfl zd_MO_drop_18 ?_
  refine zw_eqL (L' := [zObj h 6 [.ref at_, .int (zI (((t.length : Nat) : Int))), .int (zI (r)), .int (zI (((ws.length : Nat) : Int))), .ref ak, .ref an, .ref ab, .ref aw, .int (zI (((op.length : Nat) : Int))), .int (zI (((ts.length : Nat) : Int))), .int (zI (((((ts.flatten ++ (pd ++ [z % 256]))).length : Nat) : Int))), .ref ay, .ref af, .ref ad, .int (zI (ct)), .int (zI (wh)), .int (zI (y)), .ref ar], zArB at_ (65536) (ft), zArB ak (16384) (fk), zArI an (16384) (fn), zArI ab (16384) (fb), zArI aw (64) (fo), zArB ay (131072) (upd fy (((((ts.flatten ++ pd)).length : Nat) : Int)).toNat (vp_nar .byte ((zI (z)).toInt8.toInt32))), zArI af (16385) (ff), zArB ad (400) (fd), zArB ar (420) (fr)]) (by rw [show (((ts.flatten ++ (pd ++ [z % 256])).length : Nat) : Int) = (((ts.flatten ++ pd).length : Nat) : Int) + 1 by rw [← List.append_assoc, List.length_append]; rfl]) ?_
  refine zw_pack (at0 := zMOd h (t) (ws) (ts) (pd ++ [z % 256]) (op) (y) (r) (ct) (wh) (fd) (fr)) (Ls := [zObj h 6 [.ref at_, .int (zI (((t.length : Nat) : Int))), .int (zI (r)), .int (zI (((ws.length : Nat) : Int))), .ref ak, .ref an, .ref ab, .ref aw, .int (zI (((op.length : Nat) : Int))), .int (zI (((ts.length : Nat) : Int))), .int (zI (((((ts.flatten ++ (pd ++ [z % 256]))).length : Nat) : Int))), .ref ay, .ref af, .ref ad, .int (zI (ct)), .int (zI (wh)), .int (zI (y)), .ref ar], zArB at_ (65536) (ft), zArB ak (16384) (fk), zArI an (16384) (fn), zArI ab (16384) (fb), zArI aw (64) (fo), zArB ay (131072) (upd fy (((((ts.flatten ++ pd)).length : Nat) : Int)).toNat (vp_nar .byte ((zI (z)).toInt8.toInt32))), zArI af (16385) (ff), zArB ad (400) (fd), zArB ar (420) (fr)]) (L2 := []) rfl (fun G w h => ⟨((at_, ak, an, ab, aw, ay, af, ad, ar), ft, fk, fn, fb, fo, upd fy (((((ts.flatten ++ pd)).length : Nat) : Int)).toNat (vp_nar .byte ((zI (z)).toInt8.toInt32)), ff), ⟨m1, m2, mtexts_drop m3 (by omega), m4, m5⟩, h⟩) ?_
  exact zw_vret hR rfl rfl rfl (by omega) (by omega) zd_MO_drop_21
set_option maxHeartbeats 4000000 in
set_option maxRecDepth 100000 in
theorem c_MO_size (h : Nat) (t : List Int) (ws : List (Int32 × Int32 × Int32)) (ts : List (List Int)) (pd : List Int) (op : List Int) (y r ct wh : Int) (fd fr : Nat → Int32) (z : Int) (hz : -2147483648 ≤ z ∧ z ≤ 2147483647) : zCT zy_MO_size zm_MO_size (0) (0) [.ref h, .int (zI z)] [zMOd h (t) (ws) (ts) (pd) (op) (y) (r) (ct) (wh) (fd) (fr)] (some (.int (iget (tsSizes ts) z))) [zMOd h (t) (ws) (ts) (pd) (op) (y) (r) (ct) (wh) (fd) (fr)] := by
  refine zCT.of [(0, .ref h), (1, .int (zI (z)))] rfl (by decide) rfl (fun h => by first | rfl | cases h) (Nat.le_of_ble_eq_true rfl) (fun X hR => ?_)
  refine zw_unp (fun G ws h => h) (fun x0 hx0 => ?_)
  obtain ⟨⟨at_, ak, an, ab, aw, ay, af, ad, ar⟩, ft, fk, fn, fb, fo, fy, ff⟩ := x0
  obtain ⟨m1, m2, m3, m4, m5⟩ := hx0
  simp only [List.cons_append, List.nil_append]
  dsimp only at m1 m2 m3 m4 m5
  obtain ⟨t1, t2, t3, t4⟩ := id m1
  obtain ⟨w1, w2, w3⟩ := id m2
  obtain ⟨s1, s2, s3, s4, s5, s6⟩ := id m3
  obtain ⟨o1, o2⟩ := id m4
  obtain ⟨d1, d2⟩ := id m5
  refine zw_iload_n 1 rfl zd_MO_size_0 ?_
  refine zw_if_lt 30 (by omega) zd_MO_size_1 (by decide) (fun c1 => ?_) (fun c1 => ?_)
  · -- 1 -> 30
    refine zw_iconst zd_MO_size_30 ?_
    refine zw_pack (at0 := zMOd h (t) (ws) (ts) (pd) (op) (y) (r) (ct) (wh) (fd) (fr)) (Ls := [zObj h 6 [.ref at_, .int (zI (((t.length : Nat) : Int))), .int (zI (r)), .int (zI (((ws.length : Nat) : Int))), .ref ak, .ref an, .ref ab, .ref aw, .int (zI (((op.length : Nat) : Int))), .int (zI (((ts.length : Nat) : Int))), .int (zI (((((ts.flatten ++ pd)).length : Nat) : Int))), .ref ay, .ref af, .ref ad, .int (zI (ct)), .int (zI (wh)), .int (zI (y)), .ref ar], zArB at_ (65536) (ft), zArB ak (16384) (fk), zArI an (16384) (fn), zArI ab (16384) (fb), zArI aw (64) (fo), zArB ay (131072) (fy), zArI af (16385) (ff), zArB ad (400) (fd), zArB ar (420) (fr)]) (L2 := []) rfl (fun G w h => ⟨((at_, ak, an, ab, aw, ay, af, ad, ar), ft, fk, fn, fb, fo, fy, ff), ⟨m1, m2, m3, m4, m5⟩, h⟩) ?_
    exact zw_iret hR (by rw [iget, if_neg (by rw [tsSizes_len]; omega)]) rfl rfl (by omega) (by omega) zd_MO_size_31
  · -- 1 -> 4
    refine zw_iload_n 1 rfl zd_MO_size_4 ?_
    refine zw_aload_n 0 rfl zd_MO_size_5 ?_
    refine zw_get zc_MO 0 9 rfl (by decide) zf_MO_67 rfl zd_MO_size_6 ?_
    refine zw_icmp_ge 30 (by omega) (by omega) zd_MO_size_9 (by decide) (fun c9 => ?_) (fun c9 => ?_)
    · -- 9 -> 30
      refine zw_iconst zd_MO_size_30 ?_
      refine zw_pack (at0 := zMOd h (t) (ws) (ts) (pd) (op) (y) (r) (ct) (wh) (fd) (fr)) (Ls := [zObj h 6 [.ref at_, .int (zI (((t.length : Nat) : Int))), .int (zI (r)), .int (zI (((ws.length : Nat) : Int))), .ref ak, .ref an, .ref ab, .ref aw, .int (zI (((op.length : Nat) : Int))), .int (zI (((ts.length : Nat) : Int))), .int (zI (((((ts.flatten ++ pd)).length : Nat) : Int))), .ref ay, .ref af, .ref ad, .int (zI (ct)), .int (zI (wh)), .int (zI (y)), .ref ar], zArB at_ (65536) (ft), zArB ak (16384) (fk), zArI an (16384) (fn), zArI ab (16384) (fb), zArI aw (64) (fo), zArB ay (131072) (fy), zArI af (16385) (ff), zArB ad (400) (fd), zArB ar (420) (fr)]) (L2 := []) rfl (fun G w h => ⟨((at_, ak, an, ab, aw, ay, af, ad, ar), ft, fk, fn, fb, fo, fy, ff), ⟨m1, m2, m3, m4, m5⟩, h⟩) ?_
      exact zw_iret hR (by rw [iget, if_neg (by rw [tsSizes_len]; omega)]) rfl rfl (by omega) (by omega) zd_MO_size_31
    · -- 9 -> 12
      refine zw_aload_n 0 rfl zd_MO_size_12 ?_
      refine zw_get zc_MO 0 12 rfl (by decide) zf_MO_31 rfl zd_MO_size_13 ?_
      refine zw_iload_n 1 rfl zd_MO_size_16 ?_
      refine zw_iconst zd_MO_size_17 ?_
      refine zw_iadd zd_MO_size_18 ?_
      refine zw_aldI 7 rfl (by omega) (by omega) zd_MO_size_19 ?_
      refine zw_aload_n 0 rfl zd_MO_size_20 ?_
      refine zw_get zc_MO 0 12 rfl (by decide) zf_MO_31 rfl zd_MO_size_21 ?_
      refine zw_iload_n 1 rfl zd_MO_size_24 ?_
      refine zw_aldI 7 rfl (by omega) (by omega) zd_MO_size_25 ?_
      refine zw_isubR zd_MO_size_26 ?_
      refine zw_goto 31 zd_MO_size_27 (by decide) ?_
      refine zw_pack (at0 := zMOd h (t) (ws) (ts) (pd) (op) (y) (r) (ct) (wh) (fd) (fr)) (Ls := [zObj h 6 [.ref at_, .int (zI (((t.length : Nat) : Int))), .int (zI (r)), .int (zI (((ws.length : Nat) : Int))), .ref ak, .ref an, .ref ab, .ref aw, .int (zI (((op.length : Nat) : Int))), .int (zI (((ts.length : Nat) : Int))), .int (zI (((((ts.flatten ++ pd)).length : Nat) : Int))), .ref ay, .ref af, .ref ad, .int (zI (ct)), .int (zI (wh)), .int (zI (y)), .ref ar], zArB at_ (65536) (ft), zArB ak (16384) (fk), zArI an (16384) (fn), zArI ab (16384) (fb), zArI aw (64) (fo), zArB ay (131072) (fy), zArI af (16385) (ff), zArB ad (400) (fd), zArB ar (420) (fr)]) (L2 := []) rfl (fun G w h => ⟨((at_, ak, an, ab, aw, ay, af, ad, ar), ft, fk, fn, fb, fo, fy, ff), ⟨m1, m2, m3, m4, m5⟩, h⟩) ?_
      exact zw_iret hR (by rw [msize m3 (by omega) (by omega)]) rfl rfl (by omega) (by omega) zd_MO_size_31
