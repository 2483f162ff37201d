/-! the model's reals -/
theorem zI_b10 : ∀ n : Nat, n < 10 → (zI (n : Int)).toInt8.toInt32 = zI (n : Int) := by decide +kernel
theorem zI_d10 {d : Int} (h : 0 ≤ d ∧ d ≤ 9) : (zI d).toInt8.toInt32 = zI d := by
  have := zI_b10 d.toNat (by omega)
  rwa [show ((d.toNat : Nat) : Int) = d by omega] at this
theorem zfit_d10 {f : Nat → Int32} {k : Nat} {d : Int} (hd : 0 ≤ d ∧ d ≤ 9) (h : ∀ j, fits .byte (.int (f j)) = true) : ∀ j, fits .byte (.int (upd f k (vp_nar .byte (zI d)) j)) = true := by
  rw [← zI_d10 hd]
  exact zfit_upd h
theorem upd_d10 {f : Nat → Int32} {k : Nat} {d : Int} (hd : 0 ≤ d ∧ d ≤ 9) : upd f k (vp_nar .byte (zI d)) = upd f k (zI d) := by
  rw [← zI_d10 hd, pk_vb]
/-- a row of digits in the model's bytes -/
def zDq (ad : Nat) (ds : List Int) : zAt := fun G w => ∃ g : Nat → Int32, ((∀ j, j < ds.length → g j = zI (zdg ds j)) ∧ ∀ j, fits .byte (.int (g j)) = true) ∧ zSt [zArB ad 400 g] G w
def zFq (ar n : Nat) (d : Nat → Int) : zAt := fun G w => ∃ g : Nat → Int32, (((∀ j, j < n → g j = zI (d j)) ∧ ∀ j, j < n → 0 ≤ d j ∧ d j ≤ 9) ∧ ∀ j, fits .byte (.int (g j)) = true) ∧ zSt [zArB ar 420 g] G w
/-- the fraction doubled, from its last i digits on -/
def twS (d : Nat → Int) (n : Nat) : Nat → Int × (Nat → Int)
  | 0 => (0, d)
  | i + 1 => ((2 * (twS d n i).2 (n - 1 - i) + (twS d n i).1) / 10, fun j => if j = n - 1 - i then (2 * (twS d n i).2 (n - 1 - i) + (twS d n i).1) % 10 else (twS d n i).2 j)
theorem twS_rg {d : Nat → Int} {n : Nat} (hd : ∀ j, j < n → 0 ≤ d j ∧ d j ≤ 9) : ∀ i, i ≤ n → (0 ≤ (twS d n i).1 ∧ (twS d n i).1 ≤ 1) ∧ ∀ j, j < n → 0 ≤ (twS d n i).2 j ∧ (twS d n i).2 j ≤ 9
  | 0, _ => ⟨by simp [twS], hd⟩
  | i + 1, h => by
    obtain ⟨h1, h2⟩ := twS_rg hd i (by omega)
    have h3 := h2 (n - 1 - i) (by omega)
    refine ⟨?_, fun j hj => ?_⟩
    · show 0 ≤ (2 * (twS d n i).2 (n - 1 - i) + (twS d n i).1) / 10 ∧ (2 * (twS d n i).2 (n - 1 - i) + (twS d n i).1) / 10 ≤ 1
      omega
    · show 0 ≤ (if j = n - 1 - i then (2 * (twS d n i).2 (n - 1 - i) + (twS d n i).1) % 10 else (twS d n i).2 j) ∧ (if j = n - 1 - i then (2 * (twS d n i).2 (n - 1 - i) + (twS d n i).1) % 10 else (twS d n i).2 j) ≤ 9
      split
      · omega
      · exact h2 j hj
theorem twS_val {d : Nat → Int} {n : Nat} : ∀ i, i ≤ n → (twS d n i).1 * p10 i + fv (fun j => (twS d n i).2 (n - i + j)) i = 2 * fv (fun j => d (n - i + j)) i ∧ ∀ j, j < n - i → (twS d n i).2 j = d j
  | 0, _ => ⟨rfl, fun _ _ => rfl⟩
  | i + 1, h => by
    obtain ⟨h1, h2⟩ := twS_val (d := d) (n := n) i (by omega)
    have e1 : ∀ g : Nat → Int, fv (fun j => g (n - (i + 1) + j)) (i + 1) = g (n - 1 - i) * p10 i + fv (fun j => g (n - i + j)) i := by
      intro g
      have := fv_add (fun j => g (n - (i + 1) + j)) 1 i
      rw [Nat.add_comm 1 i] at this
      rw [this, fv_cong (d := fun j => g (n - (i + 1) + (1 + j))) (e := fun j => g (n - i + j)) (fun j _ => by show g _ = g _; congr 1; omega)]
      show (10 * 0 + g (n - (i + 1) + 0)) * p10 i + _ = _
      rw [show n - (i + 1) + 0 = n - 1 - i by omega, show 10 * 0 + g (n - 1 - i) = g (n - 1 - i) by omega]
    rw [e1 d, e1 (twS d n (i + 1)).2]
    have e2 : fv (fun j => (twS d n (i + 1)).2 (n - i + j)) i = fv (fun j => (twS d n i).2 (n - i + j)) i := fv_cong (fun j _ => by
      show (if n - i + j = n - 1 - i then _ else (twS d n i).2 (n - i + j)) = _
      rw [if_neg (by omega)])
    have e3 : (twS d n (i + 1)).2 (n - 1 - i) = (2 * (twS d n i).2 (n - 1 - i) + (twS d n i).1) % 10 := by
      show (if n - 1 - i = n - 1 - i then _ else _) = _
      rw [if_pos rfl]
    have e4 : (twS d n (i + 1)).1 = (2 * (twS d n i).2 (n - 1 - i) + (twS d n i).1) / 10 := rfl
    rw [e2, e3, e4, h2 (n - 1 - i) (by omega)]
    refine ⟨?_, fun j hj => ?_⟩
    · show _ / 10 * (10 * p10 i) + _ = _
      generalize hx : 2 * d (n - 1 - i) + (twS d n i).1 = x
      have hx2 : x = 10 * (x / 10) + x % 10 := by omega
      generalize x / 10 = a at hx2 ⊢
      generalize x % 10 = b at hx2 ⊢
      grind
    · show (if j = n - 1 - i then _ else (twS d n i).2 j) = _
      rw [if_neg (by omega)]
      exact h2 j (by omega)
theorem twS_all {d : Nat → Int} {n : Nat} : (twS d n n).1 * p10 n + fv (twS d n n).2 n = 2 * fv d n := by
  have h1 := (twS_val (d := d) (n := n) n (Nat.le_refl _)).1
  have e : ∀ g : Nat → Int, fv (fun j => g (n - n + j)) n = fv g n := fun g => fv_cong (fun j _ => by show g _ = g _; congr 1; omega)
  rw [e, e] at h1
  exact h1
theorem twS_arr {d : Nat → Int} {n : Nat} {g : Nat → Int32} {i : Nat} {x : Int} (hg : ∀ j, j < n → g j = zI ((twS d n i).2 j)) (hr : ∀ j, j < n → 0 ≤ (twS d n (i + 1)).2 j ∧ (twS d n (i + 1)).2 j ≤ 9) (hf : ∀ j, fits .byte (.int (g j)) = true) (hi : i < n) (ex : x.toNat = n - 1 - i) :
    ((∀ j, j < n → upd g x.toNat (vp_nar .byte ((zI ((2 * (twS d n i).2 (n - 1 - i) + (twS d n i).1) % 10)).toInt8.toInt32)) j = zI ((twS d n (i + 1)).2 j)) ∧ ∀ j, j < n → 0 ≤ (twS d n (i + 1)).2 j ∧ (twS d n (i + 1)).2 j ≤ 9) ∧ ∀ j, fits .byte (.int (upd g x.toNat (vp_nar .byte ((zI ((2 * (twS d n i).2 (n - 1 - i) + (twS d n i).1) % 10)).toInt8.toInt32)) j)) = true := by
  refine ⟨⟨fun j hj => ?_, hr⟩, zfit_upd hf⟩
  rw [pk_vb, zI_d10 (by omega)]
  show _ = zI (if j = n - 1 - i then _ else _)
  rw [ex]
  by_cases e : j = n - 1 - i
  · subst e
    rw [pk_us, if_pos rfl]
  · rw [pk_un e, if_neg e]
    exact hg j hj
def p2 : Nat → Int
  | 0 => 1
  | n + 1 => 2 * p2 n
theorem p2_le : ∀ n : Nat, n ≤ 17 → 1 ≤ p2 n ∧ p2 n ≤ 131072 := by decide
/-- the exponent, no longer grown behind 100000 -/
def pwS (l : List Int) : Int := l.foldl (fun s c => if s < 100000 then 10 * s + c - 48 else s) 0
theorem pwS_snoc (l : List Int) (c : Int) : pwS (l ++ [c]) = if pwS l < 100000 then 10 * pwS l + c - 48 else pwS l := by
  unfold pwS
  rw [List.foldl_append]
  rfl
theorem pwS_sat : ∀ (n : Nat) (l : List Int), l.length = n → (∀ c ∈ l, 48 ≤ c ∧ c ≤ 57) → min 1000 (pwS l) = min 1000 (satV 10 l) ∧ 0 ≤ pwS l ∧ pwS l ≤ 999999 ∧ 0 ≤ satV 10 l ∧ satV 10 l ≤ 4294967296
  | 0, l, hn, _ => by
    have : l = [] := List.eq_nil_of_length_eq_zero hn
    subst this
    decide
  | n + 1, l, hn, h => by
    have hne : l ≠ [] := fun e => by rw [e] at hn; cases hn
    have e := (List.dropLast_concat_getLast hne).symm
    have h1 := h _ (List.getLast_mem hne)
    have h2 := pwS_sat n l.dropLast (by rw [List.length_dropLast]; omega) (fun c hc => h c (List.dropLast_subset _ hc))
    rw [e, pwS_snoc, satV_snoc, digV_dig h1]
    generalize pwS l.dropLast = x at h2 ⊢
    generalize satV 10 l.dropLast = y at h2 ⊢
    generalize l.getLast hne = c at h1 ⊢
    split <;> omega
def mE (t : List Int) (E q : Int) : Int := if E = q then 0 else if bget t (E + 1) = 45 then -(pwS (slc t (exF t E) q)) else pwS (slc t (exF t E) q)
theorem mE_X {t : List Int} {E q : Int} (h0 : 0 ≤ E) (hx : E = q ∨ expP t E q) : (-999999 ≤ mE t E q ∧ mE t E q ≤ 999999) ∧ (rdX t E q = mE t E q ∨ (rdX t E q = 1000 ∧ 1000 ≤ mE t E q) ∨ (rdX t E q = -1000 ∧ mE t E q ≤ -1000)) := by
  unfold mE rdX
  by_cases e : E = q
  · rw [if_pos e, if_pos e]; omega
  · rw [if_neg e, if_neg e]
    obtain ⟨x1, x2, x3⟩ := hx.resolve_left e
    unfold exV
    have hF : E + 1 ≤ exF t E := by unfold exF; split <;> omega
    have hp := pwS_sat _ (slc t (exF t E) q) rfl (fun c hc => by
      obtain ⟨j, k1, k2, k3, rfl⟩ := slc_mem (by omega) hc
      exact of_decide_eq_true ((scanE_spec (f := sDig) (t := t) (p := exF t E) (by omega)).2.2.1 j k1 (by omega)).2)
    generalize pwS (slc t (exF t E) q) = x at hp ⊢
    generalize satV 10 (slc t (exF t E) q) = y at hp ⊢
    split <;> omega
theorem rd_facts {t : List Int} {f : Int} (h0 : 0 ≤ f) : f ≤ scanE sDig t f ∧ scanE sDig t f ≤ frE t (scanE sDig t f) ∧ (∀ j, f ≤ j → j < scanE sDig t f → 48 ≤ bget t j ∧ bget t j ≤ 57) ∧ (scanE sDig t f < frE t (scanE sDig t f) → bget t (scanE sDig t f) = 46) ∧ ∀ j, scanE sDig t f < j → j < frE t (scanE sDig t f) → 48 ≤ bget t j ∧ bget t j ≤ 57 := by
  obtain ⟨s1, s2, s3, s4⟩ := scanE_spec (f := sDig) (t := t) (p := f) h0
  refine ⟨s1, ?_, fun j a b => of_decide_eq_true (s3 j a b).2, ?_, ?_⟩
  · unfold frE
    split
    · have := (scanE_spec (f := sDig) (t := t) (p := scanE sDig t f + 1) (by omega)).1
      omega
    · omega
  · unfold frE
    split
    · intro _; assumption
    · intro h; omega
  · unfold frE
    split
    · intro j a b
      exact of_decide_eq_true ((scanE_spec (f := sDig) (t := t) (p := scanE sDig t f + 1) (by omega)).2.2.1 j (by omega) b).2
    · intro j a b; omega
theorem dsL_len (l : List Int) : (dsL l).length ≤ l.length := by
  unfold dsL
  rw [List.length_map]
  exact List.length_filter_le _ _
theorem dsL_rg {l : List Int} (h : ∀ c ∈ l, c = 46 ∨ (48 ≤ c ∧ c ≤ 57)) : ∀ x ∈ dsL l, 0 ≤ x ∧ x ≤ 9 := by
  intro x hx
  unfold dsL at hx
  obtain ⟨c, hc, rfl⟩ := List.mem_map.mp hx
  obtain ⟨h1, h2⟩ := List.mem_filter.mp hc
  have h3 : c ≠ 46 := of_decide_eq_true h2
  have := h c h1
  omega
theorem zdg_snoc {ds : List Int} {x : Int} {j : Nat} (h : j < ds.length) : zdg (ds ++ [x]) j = zdg ds j := zgD_l _ _ _ h
theorem zdg_last {ds : List Int} {x : Int} : zdg (ds ++ [x]) ds.length = x := by
  unfold zdg
  rw [zgD_r _ _ _ (Nat.le_refl _)]
  simp
theorem dq_snoc {ds : List Int} {x : Int} {g : Nat → Int32} {k : Int} (hg : ∀ j, j < ds.length → g j = zI (zdg ds j)) (hx : 0 ≤ x ∧ x ≤ 9) (hk : k = ds.length) : ∀ j, j < (ds ++ [x]).length → upd g k.toNat (vp_nar .byte ((zI x).toInt8.toInt32)) j = zI (zdg (ds ++ [x]) j) := by
  intro j hj
  rw [List.length_append, List.length_singleton] at hj
  rw [pk_vb, zI_d10 hx, show k.toNat = ds.length by omega]
  by_cases e : j = ds.length
  · subst e; rw [pk_us, zdg_last]
  · rw [pk_un e, zdg_snoc (by omega)]; exact hg j (by omega)
/-- the model where its digits are of no account -/
def zMOy (h : Nat) (t : List Int) (ws : List (Int32 × Int32 × Int32)) (ts : List (List Int)) (op : List Int) (y r : Int) : zAt := fun G w => ∃ x : List Int × Int × Int × (Nat → Int32) × (Nat → Int32), (y = 0 → x.1 = []) ∧ zSt [zMOd h t ws ts x.1 op y r x.2.1 x.2.2.1 x.2.2.2.1 x.2.2.2.2] G w
theorem zRv_MOy {h : Nat} {t : List Int} {ws : List (Int32 × Int32 × Int32)} {ts : List (List Int)} {op : List Int} {y r : Int} : zRv (zMOy h t ws ts op y r) h 6 := fun G w ⟨x, _, hs⟩ => by
  obtain ⟨u, v, rfl, hu, hv⟩ := hs
  obtain ⟨p, fs, hp⟩ := zRv_MOd G u hu
  refine ⟨p, fs, ?_⟩
  rw [List.getElem?_append_left (by have := List.getElem?_eq_some_iff.mp hp; exact this.1)]
  exact hp
set_option maxHeartbeats 4000000 in
set_option maxRecDepth 100000 in
theorem c_MO_byteAtO (h at_ ak an ab aw ay af ad ar : Nat) (r lw lo lx lu ct wh y : Int) (t : List Int) (ft : Nat → Int32) (m1 : mTape t ft) (z : Int) (hz : 0 ≤ z ∧ z ≤ 2147483647) : zCT zy_MO_byteAt zm_MO_byteAt (0) (0) [.ref h, .int (zI z)] [zObj h 6 [.ref at_, .int (zI (((t.length : Nat) : Int))), .int (zI (r)), .int (zI (lw)), .ref ak, .ref an, .ref ab, .ref aw, .int (zI (lo)), .int (zI (lx)), .int (zI (lu)), .ref ay, .ref af, .ref ad, .int (zI (ct)), .int (zI (wh)), .int (zI (y)), .ref ar], zArB at_ (65536) (ft)] (some (.int (zI (bget t z)))) [zObj h 6 [.ref at_, .int (zI (((t.length : Nat) : Int))), .int (zI (r)), .int (zI (lw)), .ref ak, .ref an, .ref ab, .ref aw, .int (zI (lo)), .int (zI (lx)), .int (zI (lu)), .ref ay, .ref af, .ref ad, .int (zI (ct)), .int (zI (wh)), .int (zI (y)), .ref ar], zArB at_ (65536) (ft)] := by
  refine zCT.of [(0, .ref h), (1, .int (zI (z)))] rfl (by decide) rfl (fun h => by first | rfl | cases h) (Nat.le_of_ble_eq_true rfl) (fun X hR => ?_)
  obtain ⟨t1, t2, t3, t4⟩ := id m1
  refine zw_iload_n 1 rfl zd_MO_byteAt_0 ?_
  refine zw_aload_n 0 rfl zd_MO_byteAt_1 ?_
  refine zw_get zc_MO 0 1 rfl (by decide) zf_MO_40 rfl zd_MO_byteAt_2 ?_
  refine zw_icmp_ge 21 (by omega) (by omega) zd_MO_byteAt_5 (by decide) (fun c5 => ?_) (fun c5 => ?_)
  · -- 5 -> 21
    refine zw_iconst zd_MO_byteAt_21 ?_
    exact zw_iret hR (by rw [bget_out (by omega)]) rfl rfl (by omega) (by omega) zd_MO_byteAt_22
  · -- 5 -> 8
    refine zw_aload_n 0 rfl zd_MO_byteAt_8 ?_
    refine zw_get zc_MO 0 0 rfl (by decide) zf_MO_8 rfl zd_MO_byteAt_9 ?_
    refine zw_iload_n 1 rfl zd_MO_byteAt_12 ?_
    refine zw_aldB 1 rfl (by omega) (by omega) zd_MO_byteAt_13 ?_
    refine zw_topE (mtape_at m1 (z := z) (by omega)) ?_
    refine zw_sipush rfl zd_MO_byteAt_14 ?_
    refine zw_iandR zd_MO_byteAt_17 ?_
    refine zw_topE (zI_byte' (mtape_byte m1 (z := z) (by omega))) ?_
    refine zw_goto 22 zd_MO_byteAt_18 (by decide) ?_
    exact zw_iret hR (rfl) rfl rfl (by omega) (by omega) zd_MO_byteAt_22
set_option maxHeartbeats 4000000 in
set_option maxRecDepth 100000 in
theorem c_MO_read (h at_ ak an ab aw ay af ad ar : Nat) (r lw lo lx lu ct wh y : Int) (t : List Int) (ft fd : Nat → Int32) (m1 : mTape t ft) (d1 : ∀ j, fits .byte (.int (fd j)) = true) (f q : Int) (hf : 0 ≤ f ∧ f ≤ q ∧ q ≤ t.length ∧ q - f ≤ 127) (hEq : frE t (scanE sDig t f) ≤ q) (hx : frE t (scanE sDig t f) = q ∨ expP t (frE t (scanE sDig t f)) q) (ds : List Int) (hds : dsL (slc t f (frE t (scanE sDig t f))) = ds) (wv : Int) (hwv : scanE sDig t f - f + mE t (frE t (scanE sDig t f)) q = wv) : zCT zy_MO_read zm_MO_read (0) (0) [.ref h, .int (zI f), .int (zI q)] [zObj h 6 [.ref at_, .int (zI (((t.length : Nat) : Int))), .int (zI (r)), .int (zI (lw)), .ref ak, .ref an, .ref ab, .ref aw, .int (zI (lo)), .int (zI (lx)), .int (zI (lu)), .ref ay, .ref af, .ref ad, .int (zI (ct)), .int (zI (wh)), .int (zI (y)), .ref ar], zArB at_ (65536) (ft), zArB ad (400) (fd)] (none) [zObj h 6 [.ref at_, .int (zI (((t.length : Nat) : Int))), .int (zI (r)), .int (zI (lw)), .ref ak, .ref an, .ref ab, .ref aw, .int (zI (lo)), .int (zI (lx)), .int (zI (lu)), .ref ay, .ref af, .ref ad, .int (zI (((ds.length : Nat) : Int))), .int (zI (wv)), .int (zI (y)), .ref ar], zArB at_ (65536) (ft), zDq ad (ds)] := by
  refine zCT.of [(0, .ref h), (1, .int (zI (f))), (2, .int (zI (q)))] rfl (by decide) rfl (fun h => by first | rfl | cases h) (Nat.le_of_ble_eq_true rfl) (fun X hR => ?_)
  obtain ⟨t1, t2, t3, t4⟩ := id m1
  obtain ⟨f1, f2, f3, f4, f5⟩ := rd_facts (t := t) (f := f) (by omega)
  generalize hS : scanE sDig t f = S at f1 f2 f3 f4 f5 hEq hx hds hwv
  generalize hE : frE t S = E at f2 f4 f5 hEq hx hds hwv
  have hXF : E + 1 ≤ exF t E ∧ exF t E ≤ E + 2 ∧ (exF t E = E + 2 → bget t (E + 1) = 43 ∨ bget t (E + 1) = 45) := by
    unfold exF
    split
    · rename_i hs; have : bget t (E + 1) = 43 ∨ bget t (E + 1) = 45 := of_decide_eq_true hs; omega
    · omega
  have lpx : ∀ (g : Nat → Int32) (hg1 : ∀ j, j < ds.length → g j = zI (zdg ds j)) (hg2 : ∀ j, fits .byte (.int (g j)) = true) (pt mi : Int) (hmi : (mi = 1 ∧ E < q ∧ bget t (E + 1) = 45) ∨ (mi = 0 ∧ (q ≤ E ∨ bget t (E + 1) ≠ 45))), ∀ (fuel : Nat) (v k : Int), (0 ≤ v ∧ v ≤ 1000000) ∧ E + 1 ≤ k ∧ (k ≤ q ∨ E = q ∧ k = q + 1) ∧ (k ≤ exF t E → v = 0) ∧ (exF t E ≤ k → v = pwS (slc t (exF t E) k)) ∧ (E = q → v = 0) → (q - k).toNat < fuel → zZ X zm_MO_read (0) (0) (0) (0) [zObj h 6 [.ref at_, .int (zI (((t.length : Nat) : Int))), .int (zI (r)), .int (zI (lw)), .ref ak, .ref an, .ref ab, .ref aw, .int (zI (lo)), .int (zI (lx)), .int (zI (lu)), .ref ay, .ref af, .ref ad, .int (zI (((ds.length : Nat) : Int))), .int (zI (wh)), .int (zI (y)), .ref ar], zArB at_ (65536) (ft), zArB ad (400) (g)] 135 [(0, .ref h), (1, .int (zI (f))), (2, .int (zI (q))), (3, .int (zI (E))), (4, .int (zI (pt))), (5, .int (zI (S - f))), (6, .int (zI (v))), (7, .int (zI (mi))), (8, .int (zI (k)))] [] := by
    intro g hg1 hg2 pt mi hmi fuel
    induction fuel with
    | zero => intro v k g0 hm; exact absurd hm (Nat.not_lt_zero _)
    | succ fuel ih =>
      intro v k g0 hm
      obtain ⟨k1, k2, k3, k4, k5, k6⟩ := g0
      refine zw_iload 8 rfl zd_MO_read_135 ?_
      refine zw_iload_n 2 rfl zd_MO_read_137 ?_
      refine zw_icmp_ge 183 (by omega) (by omega) zd_MO_read_138 (by decide) (fun c138 => ?_) (fun c138 => ?_)
      · -- 138 -> 183
        refine zw_aload_n 0 rfl zd_MO_read_183 ?_
        refine zw_iload 5 rfl zd_MO_read_184 ?_
        refine zw_iload 7 rfl zd_MO_read_186 ?_
        refine zw_if_eq 197 (by omega) zd_MO_read_188 (by decide) (fun c188 => ?_) (fun c188 => ?_)
        · -- 188 -> 197
          refine zw_iload 6 rfl zd_MO_read_197 ?_
          refine zw_iadd zd_MO_read_199 ?_
          refine zw_put (L' := [zObj h 6 [.ref at_, .int (zI (((t.length : Nat) : Int))), .int (zI (r)), .int (zI (lw)), .ref ak, .ref an, .ref ab, .ref aw, .int (zI (lo)), .int (zI (lx)), .int (zI (lu)), .ref ay, .ref af, .ref ad, .int (zI (((ds.length : Nat) : Int))), .int (zI ((S - f) + v)), .int (zI (y)), .ref ar], zArB at_ (65536) (ft), zArB ad (400) (g)]) zc_MO 0 15 rfl (by decide) zf_MO_139 rfl rfl rfl (Nat.le_of_ble_eq_true rfl) rfl zd_MO_read_200 ?_
          have e8 : (S - f) + v = wv := by
            rw [← hwv]
            unfold mE
            by_cases e : E = q
            · rw [if_pos e]; have := k6 e; omega
            · rw [if_neg e]
              obtain ⟨x1, x2, x3⟩ := hx.resolve_left e
              obtain rfl : k = q := by omega
              rw [← k5 (by omega)]
              first | rw [if_pos (by omega)] | rw [if_neg (by omega)]
              first | omega | skip
          refine zw_sub (L' := [zArB ad (400) (g), zObj h 6 [.ref at_, .int (zI (((t.length : Nat) : Int))), .int (zI (r)), .int (zI (lw)), .ref ak, .ref an, .ref ab, .ref aw, .int (zI (lo)), .int (zI (lx)), .int (zI (lu)), .ref ay, .ref af, .ref ad, .int (zI (((ds.length : Nat) : Int))), .int (zI ((S - f) + v)), .int (zI (y)), .ref ar], zArB at_ (65536) (ft)]) [2, 0, 1] rfl rfl ?_
          refine zw_pack (at0 := zDq ad (ds)) (Ls := [zArB ad (400) (g)]) (L2 := [zObj h 6 [.ref at_, .int (zI (((t.length : Nat) : Int))), .int (zI (r)), .int (zI (lw)), .ref ak, .ref an, .ref ab, .ref aw, .int (zI (lo)), .int (zI (lx)), .int (zI (lu)), .ref ay, .ref af, .ref ad, .int (zI (((ds.length : Nat) : Int))), .int (zI ((S - f) + v)), .int (zI (y)), .ref ar], zArB at_ (65536) (ft)]) rfl (fun G w h => ⟨g, ⟨hg1, hg2⟩, h⟩) ?_
          refine zw_sub (L' := [zObj h 6 [.ref at_, .int (zI (((t.length : Nat) : Int))), .int (zI (r)), .int (zI (lw)), .ref ak, .ref an, .ref ab, .ref aw, .int (zI (lo)), .int (zI (lx)), .int (zI (lu)), .ref ay, .ref af, .ref ad, .int (zI (((ds.length : Nat) : Int))), .int (zI ((S - f) + v)), .int (zI (y)), .ref ar], zArB at_ (65536) (ft), zDq ad (ds)]) [1, 2, 0] rfl rfl ?_
          exact zw_vret hR rfl (by rw [e8]) rfl (by omega) (by omega) zd_MO_read_203
        · -- 188 -> 191
          refine zw_iload 6 rfl zd_MO_read_191 ?_
          refine zw_ineg zd_MO_read_193 ?_
          refine zw_goto 199 zd_MO_read_194 (by decide) ?_
          refine zw_iadd zd_MO_read_199 ?_
          refine zw_put (L' := [zObj h 6 [.ref at_, .int (zI (((t.length : Nat) : Int))), .int (zI (r)), .int (zI (lw)), .ref ak, .ref an, .ref ab, .ref aw, .int (zI (lo)), .int (zI (lx)), .int (zI (lu)), .ref ay, .ref af, .ref ad, .int (zI (((ds.length : Nat) : Int))), .int (zI ((S - f) + (-v))), .int (zI (y)), .ref ar], zArB at_ (65536) (ft), zArB ad (400) (g)]) zc_MO 0 15 rfl (by decide) zf_MO_139 rfl rfl rfl (Nat.le_of_ble_eq_true rfl) rfl zd_MO_read_200 ?_
          have e8 : (S - f) + (-v) = wv := by
            rw [← hwv]
            unfold mE
            by_cases e : E = q
            · rw [if_pos e]; have := k6 e; omega
            · rw [if_neg e]
              obtain ⟨x1, x2, x3⟩ := hx.resolve_left e
              obtain rfl : k = q := by omega
              rw [← k5 (by omega)]
              first | rw [if_pos (by omega)] | rw [if_neg (by omega)]
              first | omega | skip
          refine zw_sub (L' := [zArB ad (400) (g), zObj h 6 [.ref at_, .int (zI (((t.length : Nat) : Int))), .int (zI (r)), .int (zI (lw)), .ref ak, .ref an, .ref ab, .ref aw, .int (zI (lo)), .int (zI (lx)), .int (zI (lu)), .ref ay, .ref af, .ref ad, .int (zI (((ds.length : Nat) : Int))), .int (zI ((S - f) + (-v))), .int (zI (y)), .ref ar], zArB at_ (65536) (ft)]) [2, 0, 1] rfl rfl ?_
          refine zw_pack (at0 := zDq ad (ds)) (Ls := [zArB ad (400) (g)]) (L2 := [zObj h 6 [.ref at_, .int (zI (((t.length : Nat) : Int))), .int (zI (r)), .int (zI (lw)), .ref ak, .ref an, .ref ab, .ref aw, .int (zI (lo)), .int (zI (lx)), .int (zI (lu)), .ref ay, .ref af, .ref ad, .int (zI (((ds.length : Nat) : Int))), .int (zI ((S - f) + (-v))), .int (zI (y)), .ref ar], zArB at_ (65536) (ft)]) rfl (fun G w h => ⟨g, ⟨hg1, hg2⟩, h⟩) ?_
          refine zw_sub (L' := [zObj h 6 [.ref at_, .int (zI (((t.length : Nat) : Int))), .int (zI (r)), .int (zI (lw)), .ref ak, .ref an, .ref ab, .ref aw, .int (zI (lo)), .int (zI (lx)), .int (zI (lu)), .ref ay, .ref af, .ref ad, .int (zI (((ds.length : Nat) : Int))), .int (zI ((S - f) + (-v))), .int (zI (y)), .ref ar], zArB at_ (65536) (ft), zDq ad (ds)]) [1, 2, 0] rfl rfl ?_
          exact zw_vret hR rfl (by rw [e8]) rfl (by omega) (by omega) zd_MO_read_203
      · -- 138 -> 141
        have hEn : E ≠ q := by omega
        obtain ⟨x1, x2, x3⟩ := hx.resolve_left hEn
        obtain ⟨y1, y2, y3, y4⟩ := scanE_spec (f := sDig) (t := t) (p := exF t E) (by omega)
        refine zw_aload_n 0 rfl zd_MO_read_141 ?_
        refine zw_iload 8 rfl zd_MO_read_142 ?_
        refine zw_callV (As := [.int (zI (k))]) (rest := []) (L2 := [zArB ad (400) (g)]) (L' := [zObj h 6 [.ref at_, .int (zI (((t.length : Nat) : Int))), .int (zI (r)), .int (zI (lw)), .ref ak, .ref an, .ref ab, .ref aw, .int (zI (lo)), .int (zI (lx)), .int (zI (lu)), .ref ay, .ref af, .ref ad, .int (zI (((ds.length : Nat) : Int))), .int (zI (wh)), .int (zI (y)), .ref ar], zArB at_ (65536) (ft), zArB ad (400) (g)]) (stk' := [.int (zI (bget t k))]) (c_MO_byteAtO h at_ ak an ab aw ay af ad ar r lw lo lx lu (((ds.length : Nat) : Int)) wh y t ft m1 k (by omega)) [0, 1] [2] rfl rfl rfl zcal_MO_byteAt zl_MO_51 zin_MO_byteAt zse_MO_byteAt 0 rfl zRv_obj rfl (Nat.le_of_ble_eq_true rfl) (Nat.le_of_ble_eq_true rfl) (by omega) (by omega) rfl (Nat.le_of_ble_eq_true rfl) rfl rfl zd_MO_read_144 ?_
        have rg144 := bget_rg m1.2.1 k
        refine zw_callS (a := 0) (As := [.int (zI (bget t k))]) (rest := []) (L2 := [zObj h 6 [.ref at_, .int (zI (((t.length : Nat) : Int))), .int (zI (r)), .int (zI (lw)), .ref ak, .ref an, .ref ab, .ref aw, .int (zI (lo)), .int (zI (lx)), .int (zI (lu)), .ref ay, .ref af, .ref ad, .int (zI (((ds.length : Nat) : Int))), .int (zI (wh)), .int (zI (y)), .ref ar], zArB at_ (65536) (ft), zArB ad (400) (g)]) (L' := [zObj h 6 [.ref at_, .int (zI (((t.length : Nat) : Int))), .int (zI (r)), .int (zI (lw)), .ref ak, .ref an, .ref ab, .ref aw, .int (zI (lo)), .int (zI (lx)), .int (zI (lu)), .ref ay, .ref af, .ref ad, .int (zI (((ds.length : Nat) : Int))), .int (zI (wh)), .int (zI (y)), .ref ar], zArB at_ (65536) (ft), zArB ad (400) (g)]) (stk' := [.int (zI (bI (sDig (bget t k))))]) (c_MO_isDigit (bget t k) (by omega)) [] [0, 1, 2] rfl rfl rfl zcal_MO_isDigit zl_MO_48 zst_MO_isDigit (Nat.le_of_ble_eq_true rfl) (Nat.le_of_ble_eq_true rfl) (by omega) (by omega) rfl (Nat.le_of_ble_eq_true rfl) rfl rfl zd_MO_read_147 ?_
        have rb147 := bI_rg (sDig (bget t k))
        refine zw_if_eq 177 (by omega) zd_MO_read_150 (by decide) (fun c150 => ?_) (fun c150 => ?_)
        · -- 150 -> 177
          refine zw_iinc (lv' := [(8, .int (zI (k + 1))), (0, .ref h), (1, .int (zI (f))), (2, .int (zI (q))), (3, .int (zI (E))), (4, .int (zI (pt))), (5, .int (zI (S - f))), (6, .int (zI (v))), (7, .int (zI (mi)))]) 8 rfl (Nat.le_of_ble_eq_true rfl) rfl zd_MO_read_177 ?_
          refine zw_goto 135 zd_MO_read_180 (by decide) ?_
          refine zw_lpick (lv' := [(0, .ref h), (1, .int (zI (f))), (2, .int (zI (q))), (3, .int (zI (E))), (4, .int (zI (pt))), (5, .int (zI (S - f))), (6, .int (zI (v))), (7, .int (zI (mi))), (8, .int (zI (k + 1)))]) [1, 2, 3, 4, 5, 6, 7, 8, 0] rfl ?_
          refine zw_widen (k' := 0) (n' := 0) (by omega) (by omega) ?_
          refine ih (v) (k + 1) ⟨by omega, by omega, by omega, fun hk => ?_, fun hk => ?_, by omega⟩ (by omega)
          · have e9 := k4 (by omega)
            have e10 : k = E + 1 := by omega
            have e11 := hXF.2.2 (by omega)
            rw [← e10] at e11
            omega
          · rcases Int.lt_or_le k (exF t E) with c | c
            · have e9 := k4 (by omega)
              have e10 : k = E + 1 := by omega
              have e11 := hXF.2.2 (by omega)
              rw [← e10] at e11
              rw [e9, show exF t E = k + 1 by omega, slc_nil]
              rfl
            · have hdk : 48 ≤ bget t k ∧ bget t k ≤ 57 := of_decide_eq_true (y3 k c (by omega)).2
              have e9 := k5 c
              rw [slc_snoc (by omega) (by omega) (by omega), pwS_snoc, ← e9]
              have hb1 : bI (sDig (bget t k)) ≠ 0 := by rw [show sDig (bget t k) = true from decide_eq_true hdk]; decide
              rw [if_neg (by omega)]
        · -- 150 -> 153
          refine zw_iload 6 rfl zd_MO_read_153 ?_
          refine zw_ldc zk_MO_149 100000 rfl zd_MO_read_155 ?_
          refine zw_icmp_ge 177 (by omega) (by omega) zd_MO_read_157 (by decide) (fun c157 => ?_) (fun c157 => ?_)
          · -- 157 -> 177
            refine zw_iinc (lv' := [(8, .int (zI (k + 1))), (0, .ref h), (1, .int (zI (f))), (2, .int (zI (q))), (3, .int (zI (E))), (4, .int (zI (pt))), (5, .int (zI (S - f))), (6, .int (zI (v))), (7, .int (zI (mi)))]) 8 rfl (Nat.le_of_ble_eq_true rfl) rfl zd_MO_read_177 ?_
            refine zw_goto 135 zd_MO_read_180 (by decide) ?_
            refine zw_lpick (lv' := [(0, .ref h), (1, .int (zI (f))), (2, .int (zI (q))), (3, .int (zI (E))), (4, .int (zI (pt))), (5, .int (zI (S - f))), (6, .int (zI (v))), (7, .int (zI (mi))), (8, .int (zI (k + 1)))]) [1, 2, 3, 4, 5, 6, 7, 8, 0] rfl ?_
            refine zw_widen (k' := 0) (n' := 0) (by omega) (by omega) ?_
            refine ih (v) (k + 1) ⟨by omega, by omega, by omega, fun hk => ?_, fun hk => ?_, by omega⟩ (by omega)
            · have e9 := k4 (by omega)
              have e10 : k = E + 1 := by omega
              have e11 := hXF.2.2 (by omega)
              rw [← e10] at e11
              omega
            · rcases Int.lt_or_le k (exF t E) with c | c
              · have e9 := k4 (by omega)
                have e10 : k = E + 1 := by omega
                have e11 := hXF.2.2 (by omega)
                rw [← e10] at e11
                rw [e9, show exF t E = k + 1 by omega, slc_nil]
                rfl
              · have hdk : 48 ≤ bget t k ∧ bget t k ≤ 57 := of_decide_eq_true (y3 k c (by omega)).2
                have e9 := k5 c
                rw [slc_snoc (by omega) (by omega) (by omega), pwS_snoc, ← e9]
                have hb1 : bI (sDig (bget t k)) ≠ 0 := by rw [show sDig (bget t k) = true from decide_eq_true hdk]; decide
                rw [if_neg (by omega)]
          · -- 157 -> 160
            refine zw_bipush rfl zd_MO_read_160 ?_
            refine zw_iload 6 rfl zd_MO_read_162 ?_
            refine zw_imul zd_MO_read_164 ?_
            refine zw_aload_n 0 rfl zd_MO_read_165 ?_
            refine zw_iload 8 rfl zd_MO_read_166 ?_
            refine zw_callV (As := [.int (zI (k))]) (rest := [.int (zI (10 * v))]) (L2 := [zArB ad (400) (g)]) (L' := [zObj h 6 [.ref at_, .int (zI (((t.length : Nat) : Int))), .int (zI (r)), .int (zI (lw)), .ref ak, .ref an, .ref ab, .ref aw, .int (zI (lo)), .int (zI (lx)), .int (zI (lu)), .ref ay, .ref af, .ref ad, .int (zI (((ds.length : Nat) : Int))), .int (zI (wh)), .int (zI (y)), .ref ar], zArB at_ (65536) (ft), zArB ad (400) (g)]) (stk' := [.int (zI (bget t k)), .int (zI (10 * v))]) (c_MO_byteAtO h at_ ak an ab aw ay af ad ar r lw lo lx lu (((ds.length : Nat) : Int)) wh y t ft m1 k (by omega)) [0, 1] [2] rfl rfl rfl zcal_MO_byteAt zl_MO_51 zin_MO_byteAt zse_MO_byteAt 0 rfl zRv_obj rfl (Nat.le_of_ble_eq_true rfl) (Nat.le_of_ble_eq_true rfl) (by omega) (by omega) rfl (Nat.le_of_ble_eq_true rfl) rfl rfl zd_MO_read_168 ?_
            have rg168 := bget_rg m1.2.1 k
            refine zw_iadd zd_MO_read_171 ?_
            refine zw_bipush rfl zd_MO_read_172 ?_
            refine zw_isub zd_MO_read_174 ?_
            refine zw_istore (lv' := [(6, .int (zI (((10 * v) + (bget t k)) - 48))), (0, .ref h), (1, .int (zI (f))), (2, .int (zI (q))), (3, .int (zI (E))), (4, .int (zI (pt))), (5, .int (zI (S - f))), (7, .int (zI (mi))), (8, .int (zI (k)))]) (Nat.le_of_ble_eq_true rfl) rfl zd_MO_read_175 ?_
            refine zw_iinc (lv' := [(8, .int (zI (k + 1))), (6, .int (zI (((10 * v) + (bget t k)) - 48))), (0, .ref h), (1, .int (zI (f))), (2, .int (zI (q))), (3, .int (zI (E))), (4, .int (zI (pt))), (5, .int (zI (S - f))), (7, .int (zI (mi)))]) 8 rfl (Nat.le_of_ble_eq_true rfl) rfl zd_MO_read_177 ?_
            refine zw_goto 135 zd_MO_read_180 (by decide) ?_
            refine zw_lpick (lv' := [(0, .ref h), (1, .int (zI (f))), (2, .int (zI (q))), (3, .int (zI (E))), (4, .int (zI (pt))), (5, .int (zI (S - f))), (6, .int (zI (((10 * v) + (bget t k)) - 48))), (7, .int (zI (mi))), (8, .int (zI (k + 1)))]) [2, 3, 4, 5, 6, 7, 1, 8, 0] rfl ?_
            refine zw_widen (k' := 0) (n' := 0) (by omega) (by omega) ?_
            have hdk0 : 48 ≤ bget t k ∧ bget t k ≤ 57 := of_decide_eq_true (zbI1 (b := sDig (bget t k)) (by omega))
            refine ih (((10 * v) + (bget t k)) - 48) (k + 1) ⟨by omega, by omega, by omega, fun hk => ?_, fun hk => ?_, by omega⟩ (by omega)
            · have e9 := k4 (by omega)
              have e10 : k = E + 1 := by omega
              have e11 := hXF.2.2 (by omega)
              rw [← e10] at e11
              have hdk : 48 ≤ bget t k ∧ bget t k ≤ 57 := of_decide_eq_true (zbI1 (b := sDig (bget t k)) (by omega))
              omega
            · rcases Int.lt_or_le k (exF t E) with c | c
              · have e9 := k4 (by omega)
                have e10 : k = E + 1 := by omega
                have e11 := hXF.2.2 (by omega)
                rw [← e10] at e11
                have hdk : 48 ≤ bget t k ∧ bget t k ≤ 57 := of_decide_eq_true (zbI1 (b := sDig (bget t k)) (by omega))
                omega
              · have hdk : 48 ≤ bget t k ∧ bget t k ≤ 57 := of_decide_eq_true (y3 k c (by omega)).2
                have e9 := k5 c
                rw [slc_snoc (by omega) (by omega) (by omega), pwS_snoc, ← e9]
                rw [if_pos (by omega)]
  have lp : ∀ (fuel : Nat) (pt : Int) (b : Int) (k : Int) (g : Nat → Int32), ((f ≤ k ∧ k ≤ E) ∧ ((k ≤ S ∧ pt = 0 ∧ b = k - f) ∨ (S < k ∧ pt = 1 ∧ b = S - f)) ∧ (∀ j, j < (dsL (slc t f k)).length → g j = zI (zdg (dsL (slc t f k)) j)) ∧ (∀ j, fits .byte (.int (g j)) = true) ∧ (0 ≤ b ∧ b ≤ 127)) → (E - k).toNat < fuel → zZ X zm_MO_read (0) (0) (0) (0) [zObj h 6 [.ref at_, .int (zI (((t.length : Nat) : Int))), .int (zI (r)), .int (zI (lw)), .ref ak, .ref an, .ref ab, .ref aw, .int (zI (lo)), .int (zI (lx)), .int (zI (lu)), .ref ay, .ref af, .ref ad, .int (zI ((((dsL (slc t f k)).length : Nat) : Int))), .int (zI (wh)), .int (zI (y)), .ref ar], zArB at_ (65536) (ft), zArB ad (400) (g)] 13 [(0, .ref h), (1, .int (zI (f))), (2, .int (zI (q))), (3, .int (zI (k))), (4, .int (zI (pt))), (5, .int (zI (b)))] [] := by
    intro fuel
    induction fuel with
    | zero => intro pt b k g g0 hm; exact absurd hm (Nat.not_lt_zero _)
    | succ fuel ih =>
      intro pt b k g g0 hm
      obtain ⟨k1, k2, hg1, hg2, k3⟩ := g0
      have dl := dsL_len (slc t f k)
      rw [show (slc t f k).length = (k - f).toNat by have := slc_len (t := t) (a := f) (b := k) (by omega) (by omega) (by omega); omega] at dl
      refine zw_iload_n 3 rfl zd_MO_read_13 ?_
      refine zw_iload_n 2 rfl zd_MO_read_14 ?_
      refine zw_icmp_ge 103 (by omega) (by omega) zd_MO_read_15 (by decide) (fun c15 => ?_) (fun c15 => ?_)
      · -- 15 -> 103
        have hkE : k = E := by
          rcases Int.lt_or_le k E with c | c
          · exfalso; rcases (show k < S ∨ k = S ∨ S < k by omega) with c2 | c2 | c2
            · have := f3 k (by omega) c2; omega
            · have := f4 (by omega); rw [← c2] at this; omega
            · have := f5 k c2 c; omega
          · omega
        have hkE2 : E = k := hkE.symm
        clear hkE
        subst hkE2
        rw [hds] at hg1
        refine zw_eqL (L' := [zObj h 6 [.ref at_, .int (zI (((t.length : Nat) : Int))), .int (zI (r)), .int (zI (lw)), .ref ak, .ref an, .ref ab, .ref aw, .int (zI (lo)), .int (zI (lx)), .int (zI (lu)), .ref ay, .ref af, .ref ad, .int (zI (((ds.length : Nat) : Int))), .int (zI (wh)), .int (zI (y)), .ref ar], zArB at_ (65536) (ft), zArB ad (400) (g)]) (by rw [hds]) ?_
        refine zw_eqv (lv' := [(0, .ref h), (1, .int (zI (f))), (2, .int (zI (q))), (3, .int (zI (E))), (4, .int (zI (pt))), (5, .int (zI (S - f)))]) (by rw [show b = S - f by omega]) ?_
        refine zw_iconst zd_MO_read_103 ?_
        refine zw_istore (lv' := [(6, .int (zI (0))), (0, .ref h), (1, .int (zI (f))), (2, .int (zI (q))), (3, .int (zI (E))), (4, .int (zI (pt))), (5, .int (zI (S - f)))]) (Nat.le_of_ble_eq_true rfl) rfl zd_MO_read_104 ?_
        refine zw_iload_n 4 rfl zd_MO_read_106 ?_
        refine zw_iload_n 3 rfl zd_MO_read_107 ?_
        refine zw_icmp_ge 127 (by omega) (by omega) zd_MO_read_108 (by decide) (fun c108 => ?_) (fun c108 => ?_)
        · -- 108 -> 127
          refine zw_iconst zd_MO_read_127 ?_
          refine zw_istore (lv' := [(7, .int (zI (0))), (6, .int (zI (0))), (0, .ref h), (1, .int (zI (f))), (2, .int (zI (q))), (3, .int (zI (E))), (4, .int (zI (pt))), (5, .int (zI (S - f)))]) (Nat.le_of_ble_eq_true rfl) rfl zd_MO_read_128 ?_
          refine zw_iload_n 5 rfl zd_MO_read_130 ?_
          refine zw_iconst zd_MO_read_131 ?_
          refine zw_iadd zd_MO_read_132 ?_
          refine zw_istore (lv' := [(8, .int (zI (E + 1))), (7, .int (zI (0))), (6, .int (zI (0))), (0, .ref h), (1, .int (zI (f))), (2, .int (zI (q))), (3, .int (zI (E))), (4, .int (zI (pt))), (5, .int (zI (S - f)))]) (Nat.le_of_ble_eq_true rfl) rfl zd_MO_read_133 ?_
          refine zw_lpick (lv' := [(0, .ref h), (1, .int (zI (f))), (2, .int (zI (q))), (3, .int (zI (E))), (4, .int (zI (pt))), (5, .int (zI (S - f))), (6, .int (zI (0))), (7, .int (zI (0))), (8, .int (zI (E + 1)))]) [3, 4, 5, 6, 7, 8, 2, 1, 0] rfl ?_
          refine zw_widen (k' := 0) (n' := 0) (by omega) (by omega) ?_
          exact lpx g hg1 hg2 pt 0 (by omega) _ 0 (E + 1) ⟨by omega, by omega, by omega, fun _ => rfl, fun h => (by have hF : E + 1 ≤ exF t E := (by unfold exF; split <;> omega); rw [show exF t E = E + 1 by omega, slc_nil]; rfl), by omega⟩ (Nat.lt_succ_self _)
        · -- 108 -> 111
          refine zw_aload_n 1 rfl zd_MO_read_111 ?_
          refine zw_iload_n 4 rfl zd_MO_read_112 ?_
          refine zw_iconst zd_MO_read_113 ?_
          refine zw_iadd zd_MO_read_114 ?_
          refine zw_callV (As := [.int (zI (E + 1))]) (rest := []) (L2 := [zArB ad (400) (g)]) (L' := [zObj h 6 [.ref at_, .int (zI (((t.length : Nat) : Int))), .int (zI (r)), .int (zI (lw)), .ref ak, .ref an, .ref ab, .ref aw, .int (zI (lo)), .int (zI (lx)), .int (zI (lu)), .ref ay, .ref af, .ref ad, .int (zI (((ds.length : Nat) : Int))), .int (zI (wh)), .int (zI (y)), .ref ar], zArB at_ (65536) (ft), zArB ad (400) (g)]) (stk' := [.int (zI (bget t (E + 1)))]) (c_MO_byteAtO h at_ ak an ab aw ay af ad ar r lw lo lx lu (((ds.length : Nat) : Int)) wh y t ft m1 (E + 1) (by omega)) [0, 1] [2] rfl rfl rfl zcal_MO_byteAt zl_MO_51 zin_MO_byteAt zse_MO_byteAt 0 rfl zRv_obj rfl (Nat.le_of_ble_eq_true rfl) (Nat.le_of_ble_eq_true rfl) (by omega) (by omega) rfl (Nat.le_of_ble_eq_true rfl) rfl rfl zd_MO_read_115 ?_
          have rg115 := bget_rg m1.2.1 (E + 1)
          refine zw_bipush rfl zd_MO_read_118 ?_
          refine zw_icmp_ne 127 (by omega) (by omega) zd_MO_read_120 (by decide) (fun c120 => ?_) (fun c120 => ?_)
          · -- 120 -> 127
            refine zw_iconst zd_MO_read_127 ?_
            refine zw_istore (lv' := [(7, .int (zI (0))), (6, .int (zI (0))), (0, .ref h), (1, .int (zI (f))), (2, .int (zI (q))), (3, .int (zI (E))), (4, .int (zI (pt))), (5, .int (zI (S - f)))]) (Nat.le_of_ble_eq_true rfl) rfl zd_MO_read_128 ?_
            refine zw_iload_n 5 rfl zd_MO_read_130 ?_
            refine zw_iconst zd_MO_read_131 ?_
            refine zw_iadd zd_MO_read_132 ?_
            refine zw_istore (lv' := [(8, .int (zI (E + 1))), (7, .int (zI (0))), (6, .int (zI (0))), (0, .ref h), (1, .int (zI (f))), (2, .int (zI (q))), (3, .int (zI (E))), (4, .int (zI (pt))), (5, .int (zI (S - f)))]) (Nat.le_of_ble_eq_true rfl) rfl zd_MO_read_133 ?_
            refine zw_lpick (lv' := [(0, .ref h), (1, .int (zI (f))), (2, .int (zI (q))), (3, .int (zI (E))), (4, .int (zI (pt))), (5, .int (zI (S - f))), (6, .int (zI (0))), (7, .int (zI (0))), (8, .int (zI (E + 1)))]) [3, 4, 5, 6, 7, 8, 2, 1, 0] rfl ?_
            refine zw_widen (k' := 0) (n' := 0) (by omega) (by omega) ?_
            exact lpx g hg1 hg2 pt 0 (by omega) _ 0 (E + 1) ⟨by omega, by omega, by omega, fun _ => rfl, fun h => (by have hF : E + 1 ≤ exF t E := (by unfold exF; split <;> omega); rw [show exF t E = E + 1 by omega, slc_nil]; rfl), by omega⟩ (Nat.lt_succ_self _)
          · -- 120 -> 123
            refine zw_iconst zd_MO_read_123 ?_
            refine zw_goto 128 zd_MO_read_124 (by decide) ?_
            refine zw_istore (lv' := [(7, .int (zI (1))), (6, .int (zI (0))), (0, .ref h), (1, .int (zI (f))), (2, .int (zI (q))), (3, .int (zI (E))), (4, .int (zI (pt))), (5, .int (zI (S - f)))]) (Nat.le_of_ble_eq_true rfl) rfl zd_MO_read_128 ?_
            refine zw_iload_n 5 rfl zd_MO_read_130 ?_
            refine zw_iconst zd_MO_read_131 ?_
            refine zw_iadd zd_MO_read_132 ?_
            refine zw_istore (lv' := [(8, .int (zI (E + 1))), (7, .int (zI (1))), (6, .int (zI (0))), (0, .ref h), (1, .int (zI (f))), (2, .int (zI (q))), (3, .int (zI (E))), (4, .int (zI (pt))), (5, .int (zI (S - f)))]) (Nat.le_of_ble_eq_true rfl) rfl zd_MO_read_133 ?_
            refine zw_lpick (lv' := [(0, .ref h), (1, .int (zI (f))), (2, .int (zI (q))), (3, .int (zI (E))), (4, .int (zI (pt))), (5, .int (zI (S - f))), (6, .int (zI (0))), (7, .int (zI (1))), (8, .int (zI (E + 1)))]) [3, 4, 5, 6, 7, 8, 2, 1, 0] rfl ?_
            refine zw_widen (k' := 0) (n' := 0) (by omega) (by omega) ?_
            exact lpx g hg1 hg2 pt 1 (by omega) _ 0 (E + 1) ⟨by omega, by omega, by omega, fun _ => rfl, fun h => (by have hF : E + 1 ≤ exF t E := (by unfold exF; split <;> omega); rw [show exF t E = E + 1 by omega, slc_nil]; rfl), by omega⟩ (Nat.lt_succ_self _)
      · -- 15 -> 18
        refine zw_aload_n 0 rfl zd_MO_read_18 ?_
        refine zw_iload_n 3 rfl zd_MO_read_19 ?_
        refine zw_callV (As := [.int (zI (k))]) (rest := []) (L2 := [zArB ad (400) (g)]) (L' := [zObj h 6 [.ref at_, .int (zI (((t.length : Nat) : Int))), .int (zI (r)), .int (zI (lw)), .ref ak, .ref an, .ref ab, .ref aw, .int (zI (lo)), .int (zI (lx)), .int (zI (lu)), .ref ay, .ref af, .ref ad, .int (zI ((((dsL (slc t f k)).length : Nat) : Int))), .int (zI (wh)), .int (zI (y)), .ref ar], zArB at_ (65536) (ft), zArB ad (400) (g)]) (stk' := [.int (zI (bget t k))]) (c_MO_byteAtO h at_ ak an ab aw ay af ad ar r lw lo lx lu ((((dsL (slc t f k)).length : Nat) : Int)) wh y t ft m1 k (by omega)) [0, 1] [2] rfl rfl rfl zcal_MO_byteAt zl_MO_51 zin_MO_byteAt zse_MO_byteAt 0 rfl zRv_obj rfl (Nat.le_of_ble_eq_true rfl) (Nat.le_of_ble_eq_true rfl) (by omega) (by omega) rfl (Nat.le_of_ble_eq_true rfl) rfl rfl zd_MO_read_20 ?_
        have rg20 := bget_rg m1.2.1 k
        refine zw_bipush rfl zd_MO_read_23 ?_
        refine zw_icmp_eq 103 (by omega) (by omega) zd_MO_read_25 (by decide) (fun c25 => ?_) (fun c25 => ?_)
        · -- 25 -> 103
          have hkE : k = E := by
            rcases Int.lt_or_le k E with c | c
            · exfalso; rcases (show k < S ∨ k = S ∨ S < k by omega) with c2 | c2 | c2
              · have := f3 k (by omega) c2; omega
              · have := f4 (by omega); rw [← c2] at this; omega
              · have := f5 k c2 c; omega
            · omega
          have hkE2 : E = k := hkE.symm
          clear hkE
          subst hkE2
          rw [hds] at hg1
          refine zw_eqL (L' := [zObj h 6 [.ref at_, .int (zI (((t.length : Nat) : Int))), .int (zI (r)), .int (zI (lw)), .ref ak, .ref an, .ref ab, .ref aw, .int (zI (lo)), .int (zI (lx)), .int (zI (lu)), .ref ay, .ref af, .ref ad, .int (zI (((ds.length : Nat) : Int))), .int (zI (wh)), .int (zI (y)), .ref ar], zArB at_ (65536) (ft), zArB ad (400) (g)]) (by rw [hds]) ?_
          refine zw_eqv (lv' := [(0, .ref h), (1, .int (zI (f))), (2, .int (zI (q))), (3, .int (zI (E))), (4, .int (zI (pt))), (5, .int (zI (S - f)))]) (by rw [show b = S - f by omega]) ?_
          refine zw_iconst zd_MO_read_103 ?_
          refine zw_istore (lv' := [(6, .int (zI (0))), (0, .ref h), (1, .int (zI (f))), (2, .int (zI (q))), (3, .int (zI (E))), (4, .int (zI (pt))), (5, .int (zI (S - f)))]) (Nat.le_of_ble_eq_true rfl) rfl zd_MO_read_104 ?_
          refine zw_iload_n 4 rfl zd_MO_read_106 ?_
          refine zw_iload_n 3 rfl zd_MO_read_107 ?_
          refine zw_icmp_ge 127 (by omega) (by omega) zd_MO_read_108 (by decide) (fun c108 => ?_) (fun c108 => ?_)
          · -- 108 -> 127
            refine zw_iconst zd_MO_read_127 ?_
            refine zw_istore (lv' := [(7, .int (zI (0))), (6, .int (zI (0))), (0, .ref h), (1, .int (zI (f))), (2, .int (zI (q))), (3, .int (zI (E))), (4, .int (zI (pt))), (5, .int (zI (S - f)))]) (Nat.le_of_ble_eq_true rfl) rfl zd_MO_read_128 ?_
            refine zw_iload_n 5 rfl zd_MO_read_130 ?_
            refine zw_iconst zd_MO_read_131 ?_
            refine zw_iadd zd_MO_read_132 ?_
            refine zw_istore (lv' := [(8, .int (zI (E + 1))), (7, .int (zI (0))), (6, .int (zI (0))), (0, .ref h), (1, .int (zI (f))), (2, .int (zI (q))), (3, .int (zI (E))), (4, .int (zI (pt))), (5, .int (zI (S - f)))]) (Nat.le_of_ble_eq_true rfl) rfl zd_MO_read_133 ?_
            refine zw_lpick (lv' := [(0, .ref h), (1, .int (zI (f))), (2, .int (zI (q))), (3, .int (zI (E))), (4, .int (zI (pt))), (5, .int (zI (S - f))), (6, .int (zI (0))), (7, .int (zI (0))), (8, .int (zI (E + 1)))]) [3, 4, 5, 6, 7, 8, 2, 1, 0] rfl ?_
            refine zw_widen (k' := 0) (n' := 0) (by omega) (by omega) ?_
            exact lpx g hg1 hg2 pt 0 (by omega) _ 0 (E + 1) ⟨by omega, by omega, by omega, fun _ => rfl, fun h => (by have hF : E + 1 ≤ exF t E := (by unfold exF; split <;> omega); rw [show exF t E = E + 1 by omega, slc_nil]; rfl), by omega⟩ (Nat.lt_succ_self _)
          · -- 108 -> 111
            refine zw_aload_n 1 rfl zd_MO_read_111 ?_
            refine zw_iload_n 4 rfl zd_MO_read_112 ?_
            refine zw_iconst zd_MO_read_113 ?_
            refine zw_iadd zd_MO_read_114 ?_
            refine zw_callV (As := [.int (zI (E + 1))]) (rest := []) (L2 := [zArB ad (400) (g)]) (L' := [zObj h 6 [.ref at_, .int (zI (((t.length : Nat) : Int))), .int (zI (r)), .int (zI (lw)), .ref ak, .ref an, .ref ab, .ref aw, .int (zI (lo)), .int (zI (lx)), .int (zI (lu)), .ref ay, .ref af, .ref ad, .int (zI (((ds.length : Nat) : Int))), .int (zI (wh)), .int (zI (y)), .ref ar], zArB at_ (65536) (ft), zArB ad (400) (g)]) (stk' := [.int (zI (bget t (E + 1)))]) (c_MO_byteAtO h at_ ak an ab aw ay af ad ar r lw lo lx lu (((ds.length : Nat) : Int)) wh y t ft m1 (E + 1) (by omega)) [0, 1] [2] rfl rfl rfl zcal_MO_byteAt zl_MO_51 zin_MO_byteAt zse_MO_byteAt 0 rfl zRv_obj rfl (Nat.le_of_ble_eq_true rfl) (Nat.le_of_ble_eq_true rfl) (by omega) (by omega) rfl (Nat.le_of_ble_eq_true rfl) rfl rfl zd_MO_read_115 ?_
            have rg115 := bget_rg m1.2.1 (E + 1)
            refine zw_bipush rfl zd_MO_read_118 ?_
            refine zw_icmp_ne 127 (by omega) (by omega) zd_MO_read_120 (by decide) (fun c120 => ?_) (fun c120 => ?_)
            · -- 120 -> 127
              refine zw_iconst zd_MO_read_127 ?_
              refine zw_istore (lv' := [(7, .int (zI (0))), (6, .int (zI (0))), (0, .ref h), (1, .int (zI (f))), (2, .int (zI (q))), (3, .int (zI (E))), (4, .int (zI (pt))), (5, .int (zI (S - f)))]) (Nat.le_of_ble_eq_true rfl) rfl zd_MO_read_128 ?_
              refine zw_iload_n 5 rfl zd_MO_read_130 ?_
              refine zw_iconst zd_MO_read_131 ?_
              refine zw_iadd zd_MO_read_132 ?_
              refine zw_istore (lv' := [(8, .int (zI (E + 1))), (7, .int (zI (0))), (6, .int (zI (0))), (0, .ref h), (1, .int (zI (f))), (2, .int (zI (q))), (3, .int (zI (E))), (4, .int (zI (pt))), (5, .int (zI (S - f)))]) (Nat.le_of_ble_eq_true rfl) rfl zd_MO_read_133 ?_
              refine zw_lpick (lv' := [(0, .ref h), (1, .int (zI (f))), (2, .int (zI (q))), (3, .int (zI (E))), (4, .int (zI (pt))), (5, .int (zI (S - f))), (6, .int (zI (0))), (7, .int (zI (0))), (8, .int (zI (E + 1)))]) [3, 4, 5, 6, 7, 8, 2, 1, 0] rfl ?_
              refine zw_widen (k' := 0) (n' := 0) (by omega) (by omega) ?_
              exact lpx g hg1 hg2 pt 0 (by omega) _ 0 (E + 1) ⟨by omega, by omega, by omega, fun _ => rfl, fun h => (by have hF : E + 1 ≤ exF t E := (by unfold exF; split <;> omega); rw [show exF t E = E + 1 by omega, slc_nil]; rfl), by omega⟩ (Nat.lt_succ_self _)
            · -- 120 -> 123
              refine zw_iconst zd_MO_read_123 ?_
              refine zw_goto 128 zd_MO_read_124 (by decide) ?_
              refine zw_istore (lv' := [(7, .int (zI (1))), (6, .int (zI (0))), (0, .ref h), (1, .int (zI (f))), (2, .int (zI (q))), (3, .int (zI (E))), (4, .int (zI (pt))), (5, .int (zI (S - f)))]) (Nat.le_of_ble_eq_true rfl) rfl zd_MO_read_128 ?_
              refine zw_iload_n 5 rfl zd_MO_read_130 ?_
              refine zw_iconst zd_MO_read_131 ?_
              refine zw_iadd zd_MO_read_132 ?_
              refine zw_istore (lv' := [(8, .int (zI (E + 1))), (7, .int (zI (1))), (6, .int (zI (0))), (0, .ref h), (1, .int (zI (f))), (2, .int (zI (q))), (3, .int (zI (E))), (4, .int (zI (pt))), (5, .int (zI (S - f)))]) (Nat.le_of_ble_eq_true rfl) rfl zd_MO_read_133 ?_
              refine zw_lpick (lv' := [(0, .ref h), (1, .int (zI (f))), (2, .int (zI (q))), (3, .int (zI (E))), (4, .int (zI (pt))), (5, .int (zI (S - f))), (6, .int (zI (0))), (7, .int (zI (1))), (8, .int (zI (E + 1)))]) [3, 4, 5, 6, 7, 8, 2, 1, 0] rfl ?_
              refine zw_widen (k' := 0) (n' := 0) (by omega) (by omega) ?_
              exact lpx g hg1 hg2 pt 1 (by omega) _ 0 (E + 1) ⟨by omega, by omega, by omega, fun _ => rfl, fun h => (by have hF : E + 1 ≤ exF t E := (by unfold exF; split <;> omega); rw [show exF t E = E + 1 by omega, slc_nil]; rfl), by omega⟩ (Nat.lt_succ_self _)
        · -- 25 -> 28
          refine zw_aload_n 0 rfl zd_MO_read_28 ?_
          refine zw_iload_n 3 rfl zd_MO_read_29 ?_
          refine zw_callV (As := [.int (zI (k))]) (rest := []) (L2 := [zArB ad (400) (g)]) (L' := [zObj h 6 [.ref at_, .int (zI (((t.length : Nat) : Int))), .int (zI (r)), .int (zI (lw)), .ref ak, .ref an, .ref ab, .ref aw, .int (zI (lo)), .int (zI (lx)), .int (zI (lu)), .ref ay, .ref af, .ref ad, .int (zI ((((dsL (slc t f k)).length : Nat) : Int))), .int (zI (wh)), .int (zI (y)), .ref ar], zArB at_ (65536) (ft), zArB ad (400) (g)]) (stk' := [.int (zI (bget t k))]) (c_MO_byteAtO h at_ ak an ab aw ay af ad ar r lw lo lx lu ((((dsL (slc t f k)).length : Nat) : Int)) wh y t ft m1 k (by omega)) [0, 1] [2] rfl rfl rfl zcal_MO_byteAt zl_MO_51 zin_MO_byteAt zse_MO_byteAt 0 rfl zRv_obj rfl (Nat.le_of_ble_eq_true rfl) (Nat.le_of_ble_eq_true rfl) (by omega) (by omega) rfl (Nat.le_of_ble_eq_true rfl) rfl rfl zd_MO_read_30 ?_
          have rg30 := bget_rg m1.2.1 k
          refine zw_bipush rfl zd_MO_read_33 ?_
          refine zw_icmp_eq 103 (by omega) (by omega) zd_MO_read_35 (by decide) (fun c35 => ?_) (fun c35 => ?_)
          · -- 35 -> 103
            have hkE : k = E := by
              rcases Int.lt_or_le k E with c | c
              · exfalso; rcases (show k < S ∨ k = S ∨ S < k by omega) with c2 | c2 | c2
                · have := f3 k (by omega) c2; omega
                · have := f4 (by omega); rw [← c2] at this; omega
                · have := f5 k c2 c; omega
              · omega
            have hkE2 : E = k := hkE.symm
            clear hkE
            subst hkE2
            rw [hds] at hg1
            refine zw_eqL (L' := [zObj h 6 [.ref at_, .int (zI (((t.length : Nat) : Int))), .int (zI (r)), .int (zI (lw)), .ref ak, .ref an, .ref ab, .ref aw, .int (zI (lo)), .int (zI (lx)), .int (zI (lu)), .ref ay, .ref af, .ref ad, .int (zI (((ds.length : Nat) : Int))), .int (zI (wh)), .int (zI (y)), .ref ar], zArB at_ (65536) (ft), zArB ad (400) (g)]) (by rw [hds]) ?_
            refine zw_eqv (lv' := [(0, .ref h), (1, .int (zI (f))), (2, .int (zI (q))), (3, .int (zI (E))), (4, .int (zI (pt))), (5, .int (zI (S - f)))]) (by rw [show b = S - f by omega]) ?_
            refine zw_iconst zd_MO_read_103 ?_
            refine zw_istore (lv' := [(6, .int (zI (0))), (0, .ref h), (1, .int (zI (f))), (2, .int (zI (q))), (3, .int (zI (E))), (4, .int (zI (pt))), (5, .int (zI (S - f)))]) (Nat.le_of_ble_eq_true rfl) rfl zd_MO_read_104 ?_
            refine zw_iload_n 4 rfl zd_MO_read_106 ?_
            refine zw_iload_n 3 rfl zd_MO_read_107 ?_
            refine zw_icmp_ge 127 (by omega) (by omega) zd_MO_read_108 (by decide) (fun c108 => ?_) (fun c108 => ?_)
            · -- 108 -> 127
              refine zw_iconst zd_MO_read_127 ?_
              refine zw_istore (lv' := [(7, .int (zI (0))), (6, .int (zI (0))), (0, .ref h), (1, .int (zI (f))), (2, .int (zI (q))), (3, .int (zI (E))), (4, .int (zI (pt))), (5, .int (zI (S - f)))]) (Nat.le_of_ble_eq_true rfl) rfl zd_MO_read_128 ?_
              refine zw_iload_n 5 rfl zd_MO_read_130 ?_
              refine zw_iconst zd_MO_read_131 ?_
              refine zw_iadd zd_MO_read_132 ?_
              refine zw_istore (lv' := [(8, .int (zI (E + 1))), (7, .int (zI (0))), (6, .int (zI (0))), (0, .ref h), (1, .int (zI (f))), (2, .int (zI (q))), (3, .int (zI (E))), (4, .int (zI (pt))), (5, .int (zI (S - f)))]) (Nat.le_of_ble_eq_true rfl) rfl zd_MO_read_133 ?_
              refine zw_lpick (lv' := [(0, .ref h), (1, .int (zI (f))), (2, .int (zI (q))), (3, .int (zI (E))), (4, .int (zI (pt))), (5, .int (zI (S - f))), (6, .int (zI (0))), (7, .int (zI (0))), (8, .int (zI (E + 1)))]) [3, 4, 5, 6, 7, 8, 2, 1, 0] rfl ?_
              refine zw_widen (k' := 0) (n' := 0) (by omega) (by omega) ?_
              exact lpx g hg1 hg2 pt 0 (by omega) _ 0 (E + 1) ⟨by omega, by omega, by omega, fun _ => rfl, fun h => (by have hF : E + 1 ≤ exF t E := (by unfold exF; split <;> omega); rw [show exF t E = E + 1 by omega, slc_nil]; rfl), by omega⟩ (Nat.lt_succ_self _)
            · -- 108 -> 111
              refine zw_aload_n 1 rfl zd_MO_read_111 ?_
              refine zw_iload_n 4 rfl zd_MO_read_112 ?_
              refine zw_iconst zd_MO_read_113 ?_
              refine zw_iadd zd_MO_read_114 ?_
              refine zw_callV (As := [.int (zI (E + 1))]) (rest := []) (L2 := [zArB ad (400) (g)]) (L' := [zObj h 6 [.ref at_, .int (zI (((t.length : Nat) : Int))), .int (zI (r)), .int (zI (lw)), .ref ak, .ref an, .ref ab, .ref aw, .int (zI (lo)), .int (zI (lx)), .int (zI (lu)), .ref ay, .ref af, .ref ad, .int (zI (((ds.length : Nat) : Int))), .int (zI (wh)), .int (zI (y)), .ref ar], zArB at_ (65536) (ft), zArB ad (400) (g)]) (stk' := [.int (zI (bget t (E + 1)))]) (c_MO_byteAtO h at_ ak an ab aw ay af ad ar r lw lo lx lu (((ds.length : Nat) : Int)) wh y t ft m1 (E + 1) (by omega)) [0, 1] [2] rfl rfl rfl zcal_MO_byteAt zl_MO_51 zin_MO_byteAt zse_MO_byteAt 0 rfl zRv_obj rfl (Nat.le_of_ble_eq_true rfl) (Nat.le_of_ble_eq_true rfl) (by omega) (by omega) rfl (Nat.le_of_ble_eq_true rfl) rfl rfl zd_MO_read_115 ?_
              have rg115 := bget_rg m1.2.1 (E + 1)
              refine zw_bipush rfl zd_MO_read_118 ?_
              refine zw_icmp_ne 127 (by omega) (by omega) zd_MO_read_120 (by decide) (fun c120 => ?_) (fun c120 => ?_)
              · -- 120 -> 127
                refine zw_iconst zd_MO_read_127 ?_
                refine zw_istore (lv' := [(7, .int (zI (0))), (6, .int (zI (0))), (0, .ref h), (1, .int (zI (f))), (2, .int (zI (q))), (3, .int (zI (E))), (4, .int (zI (pt))), (5, .int (zI (S - f)))]) (Nat.le_of_ble_eq_true rfl) rfl zd_MO_read_128 ?_
                refine zw_iload_n 5 rfl zd_MO_read_130 ?_
                refine zw_iconst zd_MO_read_131 ?_
                refine zw_iadd zd_MO_read_132 ?_
                refine zw_istore (lv' := [(8, .int (zI (E + 1))), (7, .int (zI (0))), (6, .int (zI (0))), (0, .ref h), (1, .int (zI (f))), (2, .int (zI (q))), (3, .int (zI (E))), (4, .int (zI (pt))), (5, .int (zI (S - f)))]) (Nat.le_of_ble_eq_true rfl) rfl zd_MO_read_133 ?_
                refine zw_lpick (lv' := [(0, .ref h), (1, .int (zI (f))), (2, .int (zI (q))), (3, .int (zI (E))), (4, .int (zI (pt))), (5, .int (zI (S - f))), (6, .int (zI (0))), (7, .int (zI (0))), (8, .int (zI (E + 1)))]) [3, 4, 5, 6, 7, 8, 2, 1, 0] rfl ?_
                refine zw_widen (k' := 0) (n' := 0) (by omega) (by omega) ?_
                exact lpx g hg1 hg2 pt 0 (by omega) _ 0 (E + 1) ⟨by omega, by omega, by omega, fun _ => rfl, fun h => (by have hF : E + 1 ≤ exF t E := (by unfold exF; split <;> omega); rw [show exF t E = E + 1 by omega, slc_nil]; rfl), by omega⟩ (Nat.lt_succ_self _)
              · -- 120 -> 123
                refine zw_iconst zd_MO_read_123 ?_
                refine zw_goto 128 zd_MO_read_124 (by decide) ?_
                refine zw_istore (lv' := [(7, .int (zI (1))), (6, .int (zI (0))), (0, .ref h), (1, .int (zI (f))), (2, .int (zI (q))), (3, .int (zI (E))), (4, .int (zI (pt))), (5, .int (zI (S - f)))]) (Nat.le_of_ble_eq_true rfl) rfl zd_MO_read_128 ?_
                refine zw_iload_n 5 rfl zd_MO_read_130 ?_
                refine zw_iconst zd_MO_read_131 ?_
                refine zw_iadd zd_MO_read_132 ?_
                refine zw_istore (lv' := [(8, .int (zI (E + 1))), (7, .int (zI (1))), (6, .int (zI (0))), (0, .ref h), (1, .int (zI (f))), (2, .int (zI (q))), (3, .int (zI (E))), (4, .int (zI (pt))), (5, .int (zI (S - f)))]) (Nat.le_of_ble_eq_true rfl) rfl zd_MO_read_133 ?_
                refine zw_lpick (lv' := [(0, .ref h), (1, .int (zI (f))), (2, .int (zI (q))), (3, .int (zI (E))), (4, .int (zI (pt))), (5, .int (zI (S - f))), (6, .int (zI (0))), (7, .int (zI (1))), (8, .int (zI (E + 1)))]) [3, 4, 5, 6, 7, 8, 2, 1, 0] rfl ?_
                refine zw_widen (k' := 0) (n' := 0) (by omega) (by omega) ?_
                exact lpx g hg1 hg2 pt 1 (by omega) _ 0 (E + 1) ⟨by omega, by omega, by omega, fun _ => rfl, fun h => (by have hF : E + 1 ≤ exF t E := (by unfold exF; split <;> omega); rw [show exF t E = E + 1 by omega, slc_nil]; rfl), by omega⟩ (Nat.lt_succ_self _)
          · -- 35 -> 38
            refine zw_aload_n 0 rfl zd_MO_read_38 ?_
            refine zw_iload_n 3 rfl zd_MO_read_39 ?_
            refine zw_callV (As := [.int (zI (k))]) (rest := []) (L2 := [zArB ad (400) (g)]) (L' := [zObj h 6 [.ref at_, .int (zI (((t.length : Nat) : Int))), .int (zI (r)), .int (zI (lw)), .ref ak, .ref an, .ref ab, .ref aw, .int (zI (lo)), .int (zI (lx)), .int (zI (lu)), .ref ay, .ref af, .ref ad, .int (zI ((((dsL (slc t f k)).length : Nat) : Int))), .int (zI (wh)), .int (zI (y)), .ref ar], zArB at_ (65536) (ft), zArB ad (400) (g)]) (stk' := [.int (zI (bget t k))]) (c_MO_byteAtO h at_ ak an ab aw ay af ad ar r lw lo lx lu ((((dsL (slc t f k)).length : Nat) : Int)) wh y t ft m1 k (by omega)) [0, 1] [2] rfl rfl rfl zcal_MO_byteAt zl_MO_51 zin_MO_byteAt zse_MO_byteAt 0 rfl zRv_obj rfl (Nat.le_of_ble_eq_true rfl) (Nat.le_of_ble_eq_true rfl) (by omega) (by omega) rfl (Nat.le_of_ble_eq_true rfl) rfl rfl zd_MO_read_40 ?_
            have rg40 := bget_rg m1.2.1 k
            refine zw_bipush rfl zd_MO_read_43 ?_
            refine zw_icmp_ne 54 (by omega) (by omega) zd_MO_read_45 (by decide) (fun c45 => ?_) (fun c45 => ?_)
            · -- 45 -> 54
              have hkE : k < E := by
                rcases Int.lt_or_le k E with c | c
                · exact c
                · exfalso; have : k = E := (by omega); subst this; rcases hx with c2 | ⟨c2, c3⟩ <;> omega
              have hkS : k ≠ S := fun c => by have := f4 (by omega); rw [← c] at this; omega
              have hdk : 48 ≤ bget t k ∧ bget t k ≤ 57 := by
                rcases (show k < S ∨ S < k by omega) with c | c
                · exact f3 k (by omega) c
                · exact f5 k c hkE
              have e7 : dsL (slc t f (k + 1)) = dsL (slc t f k) ++ [bget t k - 48] := by rw [slc_snoc (by omega) (by omega) (by omega), dsL_snoc, if_neg (by omega)]
              have e8 : (((dsL (slc t f k)).length : Nat) : Int) + 1 = (((dsL (slc t f (k + 1))).length : Nat) : Int) := by rw [e7, List.length_append, List.length_singleton]; omega
              refine zw_aload_n 0 rfl zd_MO_read_54 ?_
              refine zw_get zc_MO 0 13 rfl (by decide) zf_MO_34 rfl zd_MO_read_55 ?_
              refine zw_aload_n 0 rfl zd_MO_read_58 ?_
              refine zw_get zc_MO 0 14 rfl (by decide) zf_MO_136 rfl zd_MO_read_59 ?_
              refine zw_aload_n 0 rfl zd_MO_read_62 ?_
              refine zw_iload_n 3 rfl zd_MO_read_63 ?_
              refine zw_callV (As := [.int (zI (k))]) (rest := [.int (zI ((((dsL (slc t f k)).length : Nat) : Int))), .ref ad]) (L2 := [zArB ad (400) (g)]) (L' := [zObj h 6 [.ref at_, .int (zI (((t.length : Nat) : Int))), .int (zI (r)), .int (zI (lw)), .ref ak, .ref an, .ref ab, .ref aw, .int (zI (lo)), .int (zI (lx)), .int (zI (lu)), .ref ay, .ref af, .ref ad, .int (zI ((((dsL (slc t f k)).length : Nat) : Int))), .int (zI (wh)), .int (zI (y)), .ref ar], zArB at_ (65536) (ft), zArB ad (400) (g)]) (stk' := [.int (zI (bget t k)), .int (zI ((((dsL (slc t f k)).length : Nat) : Int))), .ref ad]) (c_MO_byteAtO h at_ ak an ab aw ay af ad ar r lw lo lx lu ((((dsL (slc t f k)).length : Nat) : Int)) wh y t ft m1 k (by omega)) [0, 1] [2] rfl rfl rfl zcal_MO_byteAt zl_MO_51 zin_MO_byteAt zse_MO_byteAt 0 rfl zRv_obj rfl (Nat.le_of_ble_eq_true rfl) (Nat.le_of_ble_eq_true rfl) (by omega) (by omega) rfl (Nat.le_of_ble_eq_true rfl) rfl rfl zd_MO_read_64 ?_
              have rg64 := bget_rg m1.2.1 k
              refine zw_bipush rfl zd_MO_read_67 ?_
              refine zw_isub zd_MO_read_69 ?_
              refine zw_i2bR zd_MO_read_70 ?_
              refine zw_astB (L' := [zObj h 6 [.ref at_, .int (zI (((t.length : Nat) : Int))), .int (zI (r)), .int (zI (lw)), .ref ak, .ref an, .ref ab, .ref aw, .int (zI (lo)), .int (zI (lx)), .int (zI (lu)), .ref ay, .ref af, .ref ad, .int (zI ((((dsL (slc t f k)).length : Nat) : Int))), .int (zI (wh)), .int (zI (y)), .ref ar], zArB at_ (65536) (ft), zArB ad (400) (upd g ((((dsL (slc t f k)).length : Nat) : Int)).toNat (vp_nar .byte ((zI ((bget t k) - 48)).toInt8.toInt32)))]) 2 rfl (by omega) (by omega) rfl zd_MO_read_71 ?_
              refine zw_aload_n 0 rfl zd_MO_read_72 ?_
              refine zw_dup rfl zd_MO_read_73 ?_
              refine zw_get zc_MO 0 14 rfl (by decide) zf_MO_136 rfl zd_MO_read_74 ?_
              refine zw_iconst zd_MO_read_77 ?_
              refine zw_iadd zd_MO_read_78 ?_
              refine zw_put (L' := [zObj h 6 [.ref at_, .int (zI (((t.length : Nat) : Int))), .int (zI (r)), .int (zI (lw)), .ref ak, .ref an, .ref ab, .ref aw, .int (zI (lo)), .int (zI (lx)), .int (zI (lu)), .ref ay, .ref af, .ref ad, .int (zI (((((dsL (slc t f k)).length : Nat) : Int)) + 1)), .int (zI (wh)), .int (zI (y)), .ref ar], zArB at_ (65536) (ft), zArB ad (400) (upd g ((((dsL (slc t f k)).length : Nat) : Int)).toNat (vp_nar .byte ((zI ((bget t k) - 48)).toInt8.toInt32)))]) zc_MO 0 14 rfl (by decide) zf_MO_136 rfl rfl rfl (Nat.le_of_ble_eq_true rfl) rfl zd_MO_read_79 ?_
              refine zw_iload 5 rfl zd_MO_read_82 ?_
              refine zw_iload 4 rfl zd_MO_read_84 ?_
              refine zw_if_eq 93 (by omega) zd_MO_read_86 (by decide) (fun c86 => ?_) (fun c86 => ?_)
              · -- 86 -> 93
                refine zw_iconst zd_MO_read_93 ?_
                refine zw_iadd zd_MO_read_94 ?_
                refine zw_istore (lv' := [(5, .int (zI (b + 1))), (0, .ref h), (1, .int (zI (f))), (2, .int (zI (q))), (3, .int (zI (k))), (4, .int (zI (pt)))]) (Nat.le_of_ble_eq_true rfl) rfl zd_MO_read_95 ?_
                refine zw_iinc (lv' := [(3, .int (zI (k + 1))), (5, .int (zI (b + 1))), (0, .ref h), (1, .int (zI (f))), (2, .int (zI (q))), (4, .int (zI (pt)))]) 4 rfl (Nat.le_of_ble_eq_true rfl) rfl zd_MO_read_97 ?_
                refine zw_goto 13 zd_MO_read_100 (by decide) ?_
                refine zw_lpick (lv' := [(0, .ref h), (1, .int (zI (f))), (2, .int (zI (q))), (3, .int (zI (k + 1))), (4, .int (zI (pt))), (5, .int (zI (b + 1)))]) [2, 3, 4, 0, 5, 1] rfl ?_
                refine zw_widen (k' := 0) (n' := 0) (by omega) (by omega) ?_
                refine zw_eqL (L' := [zObj h 6 [.ref at_, .int (zI (((t.length : Nat) : Int))), .int (zI (r)), .int (zI (lw)), .ref ak, .ref an, .ref ab, .ref aw, .int (zI (lo)), .int (zI (lx)), .int (zI (lu)), .ref ay, .ref af, .ref ad, .int (zI ((((dsL (slc t f (k + 1))).length : Nat) : Int))), .int (zI (wh)), .int (zI (y)), .ref ar], zArB at_ (65536) (ft), zArB ad (400) (upd g ((((dsL (slc t f k)).length : Nat) : Int)).toNat (vp_nar .byte ((zI ((bget t k) - 48)).toInt8.toInt32)))]) (by rw [← e8]) ?_
                refine ih (pt) (b + 1) (k + 1) _ ⟨by omega, by omega, by rw [e7]; exact dq_snoc hg1 (by omega) rfl, zfit_upd hg2, by omega⟩ (by omega)
              · -- 86 -> 89
                refine zw_iconst zd_MO_read_89 ?_
                refine zw_goto 94 zd_MO_read_90 (by decide) ?_
                refine zw_iadd zd_MO_read_94 ?_
                refine zw_istore (lv' := [(5, .int (zI (b + 0))), (0, .ref h), (1, .int (zI (f))), (2, .int (zI (q))), (3, .int (zI (k))), (4, .int (zI (pt)))]) (Nat.le_of_ble_eq_true rfl) rfl zd_MO_read_95 ?_
                refine zw_iinc (lv' := [(3, .int (zI (k + 1))), (5, .int (zI (b + 0))), (0, .ref h), (1, .int (zI (f))), (2, .int (zI (q))), (4, .int (zI (pt)))]) 4 rfl (Nat.le_of_ble_eq_true rfl) rfl zd_MO_read_97 ?_
                refine zw_goto 13 zd_MO_read_100 (by decide) ?_
                refine zw_lpick (lv' := [(0, .ref h), (1, .int (zI (f))), (2, .int (zI (q))), (3, .int (zI (k + 1))), (4, .int (zI (pt))), (5, .int (zI (b + 0)))]) [2, 3, 4, 0, 5, 1] rfl ?_
                refine zw_widen (k' := 0) (n' := 0) (by omega) (by omega) ?_
                refine zw_eqL (L' := [zObj h 6 [.ref at_, .int (zI (((t.length : Nat) : Int))), .int (zI (r)), .int (zI (lw)), .ref ak, .ref an, .ref ab, .ref aw, .int (zI (lo)), .int (zI (lx)), .int (zI (lu)), .ref ay, .ref af, .ref ad, .int (zI ((((dsL (slc t f (k + 1))).length : Nat) : Int))), .int (zI (wh)), .int (zI (y)), .ref ar], zArB at_ (65536) (ft), zArB ad (400) (upd g ((((dsL (slc t f k)).length : Nat) : Int)).toNat (vp_nar .byte ((zI ((bget t k) - 48)).toInt8.toInt32)))]) (by rw [← e8]) ?_
                refine ih (pt) (b + 0) (k + 1) _ ⟨by omega, by omega, by rw [e7]; exact dq_snoc hg1 (by omega) rfl, zfit_upd hg2, by omega⟩ (by omega)
            · -- 45 -> 48
              have hkE : k < E := by
                rcases Int.lt_or_le k E with c | c
                · exact c
                · exfalso; have : k = E := (by omega); subst this; rcases hx with c2 | ⟨c2, c3⟩ <;> omega
              have hkS : k = S := by
                rcases (show k < S ∨ k = S ∨ S < k by omega) with c | c | c
                · have := f3 k (by omega) c; omega
                · exact c
                · have := f5 k c hkE; omega
              have e7 : dsL (slc t f (k + 1)) = dsL (slc t f k) := by rw [slc_snoc (by omega) (by omega) (by omega), dsL_snoc, if_pos (by omega)]
              refine zw_iconst zd_MO_read_48 ?_
              refine zw_istore (lv' := [(4, .int (zI (1))), (0, .ref h), (1, .int (zI (f))), (2, .int (zI (q))), (3, .int (zI (k))), (5, .int (zI (b)))]) (Nat.le_of_ble_eq_true rfl) rfl zd_MO_read_49 ?_
              refine zw_goto 97 zd_MO_read_51 (by decide) ?_
              refine zw_iinc (lv' := [(3, .int (zI (k + 1))), (4, .int (zI (1))), (0, .ref h), (1, .int (zI (f))), (2, .int (zI (q))), (5, .int (zI (b)))]) 4 rfl (Nat.le_of_ble_eq_true rfl) rfl zd_MO_read_97 ?_
              refine zw_goto 13 zd_MO_read_100 (by decide) ?_
              refine zw_lpick (lv' := [(0, .ref h), (1, .int (zI (f))), (2, .int (zI (q))), (3, .int (zI (k + 1))), (4, .int (zI (1))), (5, .int (zI (b)))]) [2, 3, 4, 0, 1, 5] rfl ?_
              refine zw_widen (k' := 0) (n' := 0) (by omega) (by omega) ?_
              refine zw_eqL (L' := [zObj h 6 [.ref at_, .int (zI (((t.length : Nat) : Int))), .int (zI (r)), .int (zI (lw)), .ref ak, .ref an, .ref ab, .ref aw, .int (zI (lo)), .int (zI (lx)), .int (zI (lu)), .ref ay, .ref af, .ref ad, .int (zI ((((dsL (slc t f (k + 1))).length : Nat) : Int))), .int (zI (wh)), .int (zI (y)), .ref ar], zArB at_ (65536) (ft), zArB ad (400) (g)]) (by rw [e7]) ?_
              exact ih (1) (b) (k + 1) _ ⟨by omega, by omega, by rw [e7]; exact hg1, hg2, by omega⟩ (by omega)
  refine zw_aload_n 0 rfl zd_MO_read_0 ?_
  refine zw_iconst zd_MO_read_1 ?_
  refine zw_put (L' := [zObj h 6 [.ref at_, .int (zI (((t.length : Nat) : Int))), .int (zI (r)), .int (zI (lw)), .ref ak, .ref an, .ref ab, .ref aw, .int (zI (lo)), .int (zI (lx)), .int (zI (lu)), .ref ay, .ref af, .ref ad, .int (zI (0)), .int (zI (wh)), .int (zI (y)), .ref ar], zArB at_ (65536) (ft), zArB ad (400) (fd)]) zc_MO 0 14 rfl (by decide) zf_MO_136 rfl rfl rfl (Nat.le_of_ble_eq_true rfl) rfl zd_MO_read_2 ?_
  refine zw_iload_n 1 rfl zd_MO_read_5 ?_
  refine zw_istore_n (lv' := [(3, .int (zI (f))), (0, .ref h), (1, .int (zI (f))), (2, .int (zI (q)))]) (Nat.le_of_ble_eq_true rfl) rfl zd_MO_read_6 ?_
  refine zw_iconst zd_MO_read_7 ?_
  refine zw_istore (lv' := [(4, .int (zI (0))), (3, .int (zI (f))), (0, .ref h), (1, .int (zI (f))), (2, .int (zI (q)))]) (Nat.le_of_ble_eq_true rfl) rfl zd_MO_read_8 ?_
  refine zw_iconst zd_MO_read_10 ?_
  refine zw_istore (lv' := [(5, .int (zI (0))), (4, .int (zI (0))), (3, .int (zI (f))), (0, .ref h), (1, .int (zI (f))), (2, .int (zI (q)))]) (Nat.le_of_ble_eq_true rfl) rfl zd_MO_read_11 ?_
  refine zw_lpick (lv' := [(0, .ref h), (1, .int (zI (f))), (2, .int (zI (q))), (3, .int (zI (f))), (4, .int (zI (0))), (5, .int (zI (0)))]) [3, 4, 5, 2, 1, 0] rfl ?_
  refine zw_widen (k' := 0) (n' := 0) (by omega) (by omega) ?_
  refine zw_eqL (L' := [zObj h 6 [.ref at_, .int (zI (((t.length : Nat) : Int))), .int (zI (r)), .int (zI (lw)), .ref ak, .ref an, .ref ab, .ref aw, .int (zI (lo)), .int (zI (lx)), .int (zI (lu)), .ref ay, .ref af, .ref ad, .int (zI ((((dsL (slc t f f)).length : Nat) : Int))), .int (zI (wh)), .int (zI (y)), .ref ar], zArB at_ (65536) (ft), zArB ad (400) (fd)]) (by rw [slc_nil]; rfl) ?_
  exact lp _ 0 0 f fd ⟨by omega, by omega, fun j hj => by rw [slc_nil] at hj; exact absurd hj (Nat.not_lt_zero _), d1, by omega⟩ (Nat.lt_succ_self _)
set_option maxHeartbeats 4000000 in
set_option maxRecDepth 100000 in
theorem c_MO_twice (h at_ ak an ab aw ay af ad ar : Nat) (r lw lo lx lu ct wh y : Int) (t : List Int) (n : Nat) (d : Nat → Int) (hn : n ≤ 420) : zCT zy_MO_twice zm_MO_twice (0) (0) [.ref h, .int (zI ((n : Nat) : Int))] [zObj h 6 [.ref at_, .int (zI (((t.length : Nat) : Int))), .int (zI (r)), .int (zI (lw)), .ref ak, .ref an, .ref ab, .ref aw, .int (zI (lo)), .int (zI (lx)), .int (zI (lu)), .ref ay, .ref af, .ref ad, .int (zI (ct)), .int (zI (wh)), .int (zI (y)), .ref ar], zFq ar (n) (d)] (some (.int (zI (twS d n n).1))) [zObj h 6 [.ref at_, .int (zI (((t.length : Nat) : Int))), .int (zI (r)), .int (zI (lw)), .ref ak, .ref an, .ref ab, .ref aw, .int (zI (lo)), .int (zI (lx)), .int (zI (lu)), .ref ay, .ref af, .ref ad, .int (zI (ct)), .int (zI (wh)), .int (zI (y)), .ref ar], zFq ar (n) ((twS d n n).2)] := by
  refine zCT.of [(0, .ref h), (1, .int (zI (((n : Nat) : Int))))] rfl (by decide) rfl (fun h => by first | rfl | cases h) (Nat.le_of_ble_eq_true rfl) (fun X hR => ?_)
  refine zw_fact 1 rfl (fun G w h => (h.choose_spec.1.1.2 : ∀ j, j < n → 0 ≤ d j ∧ d j ≤ 9)) (fun hd9 => ?_)
  have lp : ∀ (fuel : Nat) (i : Nat) (x : Int), (i ≤ n ∧ x = (n : Int) - 1 - (i : Int)) → n - i < fuel → zZ X zm_MO_twice (0) (0) (0) (0) [zFq ar (n) ((twS d n i).2), zObj h 6 [.ref at_, .int (zI (((t.length : Nat) : Int))), .int (zI (r)), .int (zI (lw)), .ref ak, .ref an, .ref ab, .ref aw, .int (zI (lo)), .int (zI (lx)), .int (zI (lu)), .ref ay, .ref af, .ref ad, .int (zI (ct)), .int (zI (wh)), .int (zI (y)), .ref ar]] 6 [(0, .ref h), (1, .int (zI (((n : Nat) : Int)))), (2, .int (zI ((twS d n i).1))), (3, .int (zI (x)))] [] := by
    intro fuel
    induction fuel with
    | zero => intro i x g0 hm; exact absurd hm (Nat.not_lt_zero _)
    | succ fuel ih =>
      intro i x g0 hm
      have mr := twS_rg hd9 i (by omega)
      refine zw_iload_n 3 rfl zd_MO_twice_6 ?_
      refine zw_if_lt 46 (by omega) zd_MO_twice_7 (by decide) (fun c7 => ?_) (fun c7 => ?_)
      · -- 7 -> 46
        refine zw_iload_n 2 rfl zd_MO_twice_46 ?_
        have ei : i = n := by omega
        refine zw_sub (L' := [zObj h 6 [.ref at_, .int (zI (((t.length : Nat) : Int))), .int (zI (r)), .int (zI (lw)), .ref ak, .ref an, .ref ab, .ref aw, .int (zI (lo)), .int (zI (lx)), .int (zI (lu)), .ref ay, .ref af, .ref ad, .int (zI (ct)), .int (zI (wh)), .int (zI (y)), .ref ar], zFq ar (n) ((twS d n i).2)]) [1, 0] rfl rfl ?_
        exact zw_iret hR (by rw [ei]) (by rw [ei]) rfl (by omega) (by omega) zd_MO_twice_47
      · -- 7 -> 10
        refine zw_unp (fun G ws h => h) (fun g hq_ => ?_)
        obtain ⟨⟨hg1, hg2⟩, hg3⟩ := hq_
        simp only [List.cons_append, List.nil_append]
        have md := mr.2 (n - 1 - i) (by omega)
        have exx : x.toNat = n - 1 - i := by omega
        refine zw_iconst zd_MO_twice_10 ?_
        refine zw_aload_n 0 rfl zd_MO_twice_11 ?_
        refine zw_get zc_MO 1 17 rfl (by decide) zf_MO_37 rfl zd_MO_twice_12 ?_
        refine zw_iload_n 3 rfl zd_MO_twice_15 ?_
        refine zw_aldB 0 rfl (by omega) (by omega) zd_MO_twice_16 ?_
        refine zw_topE (show g x.toNat = zI ((twS d n i).2 (n - 1 - i)) by rw [exx]; exact hg1 _ (by omega)) ?_
        refine zw_imul zd_MO_twice_17 ?_
        refine zw_iload_n 2 rfl zd_MO_twice_18 ?_
        refine zw_iadd zd_MO_twice_19 ?_
        refine zw_istore (lv' := [(4, .int (zI ((2 * ((twS d n i).2 (n - 1 - i))) + ((twS d n i).1)))), (0, .ref h), (1, .int (zI (((n : Nat) : Int)))), (2, .int (zI ((twS d n i).1))), (3, .int (zI (x)))]) (Nat.le_of_ble_eq_true rfl) rfl zd_MO_twice_20 ?_
        refine zw_aload_n 1 rfl zd_MO_twice_22 ?_
        refine zw_get zc_MO 1 17 rfl (by decide) zf_MO_37 rfl zd_MO_twice_23 ?_
        refine zw_iload_n 4 rfl zd_MO_twice_26 ?_
        refine zw_iload 0 rfl zd_MO_twice_27 ?_
        refine zw_bipush rfl zd_MO_twice_29 ?_
        refine zw_irem (by omega) (by omega) zd_MO_twice_31 ?_
        refine zw_i2bR zd_MO_twice_32 ?_
        refine zw_astB (L' := [zArB ar (420) (upd g (x).toNat (vp_nar .byte ((zI (((2 * ((twS d n i).2 (n - 1 - i))) + ((twS d n i).1)) % 10)).toInt8.toInt32))), zObj h 6 [.ref at_, .int (zI (((t.length : Nat) : Int))), .int (zI (r)), .int (zI (lw)), .ref ak, .ref an, .ref ab, .ref aw, .int (zI (lo)), .int (zI (lx)), .int (zI (lu)), .ref ay, .ref af, .ref ad, .int (zI (ct)), .int (zI (wh)), .int (zI (y)), .ref ar]]) 0 rfl (by omega) (by omega) rfl zd_MO_twice_33 ?_
        refine zw_iload 0 rfl zd_MO_twice_34 ?_
        refine zw_bipush rfl zd_MO_twice_36 ?_
        refine zw_idiv (by omega) (by omega) zd_MO_twice_38 ?_
        refine zw_istore_n (lv' := [(2, .int (zI (((2 * ((twS d n i).2 (n - 1 - i))) + ((twS d n i).1)) / 10))), (4, .int (zI ((2 * ((twS d n i).2 (n - 1 - i))) + ((twS d n i).1)))), (0, .ref h), (1, .int (zI (((n : Nat) : Int)))), (3, .int (zI (x)))]) (Nat.le_of_ble_eq_true rfl) rfl zd_MO_twice_39 ?_
        refine zw_iinc (lv' := [(3, .int (zI (x + (-1)))), (2, .int (zI (((2 * ((twS d n i).2 (n - 1 - i))) + ((twS d n i).1)) / 10))), (4, .int (zI ((2 * ((twS d n i).2 (n - 1 - i))) + ((twS d n i).1)))), (0, .ref h), (1, .int (zI (((n : Nat) : Int))))]) 4 rfl (Nat.le_of_ble_eq_true rfl) rfl zd_MO_twice_40 ?_
        refine zw_goto 6 zd_MO_twice_43 (by decide) ?_
        refine zw_pack (at0 := zFq ar (n) ((twS d n (i + 1)).2)) (Ls := [zArB ar (420) (upd g (x).toNat (vp_nar .byte ((zI (((2 * ((twS d n i).2 (n - 1 - i))) + ((twS d n i).1)) % 10)).toInt8.toInt32)))]) (L2 := [zObj h 6 [.ref at_, .int (zI (((t.length : Nat) : Int))), .int (zI (r)), .int (zI (lw)), .ref ak, .ref an, .ref ab, .ref aw, .int (zI (lo)), .int (zI (lx)), .int (zI (lu)), .ref ay, .ref af, .ref ad, .int (zI (ct)), .int (zI (wh)), .int (zI (y)), .ref ar]]) rfl (fun G w h => ⟨upd g (x).toNat (vp_nar .byte ((zI (((2 * ((twS d n i).2 (n - 1 - i))) + ((twS d n i).1)) % 10)).toInt8.toInt32)), twS_arr hg1 (twS_rg hd9 (i + 1) (by omega)).2 hg3 (by omega) exx, h⟩) ?_
        refine zw_lpick (lv' := [(0, .ref h), (1, .int (zI (((n : Nat) : Int)))), (2, .int (zI (((2 * ((twS d n i).2 (n - 1 - i))) + ((twS d n i).1)) / 10))), (3, .int (zI (x + (-1))))]) [3, 4, 1, 0] rfl ?_
        refine zw_widen (k' := 0) (n' := 0) (by omega) (by omega) ?_
        refine zw_eqv (lv' := [(0, .ref h), (1, .int (zI (((n : Nat) : Int)))), (2, .int (zI ((twS d n (i + 1)).1))), (3, .int (zI (x + -1)))]) rfl ?_
        exact ih (i + 1) _ (by omega) (by omega)
  refine zw_iconst zd_MO_twice_0 ?_
  refine zw_istore_n (lv' := [(2, .int (zI (0))), (0, .ref h), (1, .int (zI (((n : Nat) : Int))))]) (Nat.le_of_ble_eq_true rfl) rfl zd_MO_twice_1 ?_
  refine zw_iload_n 2 rfl zd_MO_twice_2 ?_
  refine zw_iconst zd_MO_twice_3 ?_
  refine zw_isub zd_MO_twice_4 ?_
  refine zw_istore_n (lv' := [(3, .int (zI ((((n : Nat) : Int)) - 1))), (2, .int (zI (0))), (0, .ref h), (1, .int (zI (((n : Nat) : Int))))]) (Nat.le_of_ble_eq_true rfl) rfl zd_MO_twice_5 ?_
  refine zw_sub (L' := [zFq ar (n) (d), zObj h 6 [.ref at_, .int (zI (((t.length : Nat) : Int))), .int (zI (r)), .int (zI (lw)), .ref ak, .ref an, .ref ab, .ref aw, .int (zI (lo)), .int (zI (lx)), .int (zI (lu)), .ref ay, .ref af, .ref ad, .int (zI (ct)), .int (zI (wh)), .int (zI (y)), .ref ar]]) [1, 0] rfl rfl ?_
  refine zw_lpick (lv' := [(0, .ref h), (1, .int (zI (((n : Nat) : Int)))), (2, .int (zI (0))), (3, .int (zI ((((n : Nat) : Int)) - 1)))]) [2, 3, 1, 0] rfl ?_
  refine zw_widen (k' := 0) (n' := 0) (by omega) (by omega) ?_
  refine zw_eqv (lv' := [(0, .ref h), (1, .int (zI (((n : Nat) : Int)))), (2, .int (zI ((twS d n 0).1))), (3, .int (zI (((n : Nat) : Int) - 1)))]) rfl ?_
  exact lp _ 0 _ ⟨by omega, by omega⟩ (Nat.lt_succ_self _)
