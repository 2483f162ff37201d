/-! the static row of tens -/
def tenP (z : Int) : Int := if z = 0 then 1 else if z = 1 then 10 else if z = 2 then 100 else if z = 3 then 1000 else 10000
theorem ten_bd {z x : Int} (hz : 0 ≤ z ∧ z < 5) (hx : 0 ≤ x ∧ x ≤ 9) : 0 ≤ x * tenP z ∧ x * tenP z ≤ 90000 := by
  have h : z = 0 ∨ z = 1 ∨ z = 2 ∨ z = 3 ∨ z = 4 := by omega
  rcases h with rfl | rfl | rfl | rfl | rfl
  · show 0 ≤ x * 1 ∧ x * 1 ≤ 90000; omega
  · show 0 ≤ x * 10 ∧ x * 10 ≤ 90000; omega
  · show 0 ≤ x * 100 ∧ x * 100 ≤ 90000; omega
  · show 0 ≤ x * 1000 ∧ x * 1000 ≤ 90000; omega
  · show 0 ≤ x * 10000 ∧ x * 10000 ≤ 90000; omega
def zTN (X : zX) (tt : Nat) : Prop := match X with
  | (_, _, _, _, s, _, _, _, _, _, _, A, _) => va_T .int tt 5 zTens A s s.heap
section zTensRows
variable {X : zX} {M : zM} {mc ms k n pc : Nat} {L : List zAt} {lv : List (Nat × Value)} {st : List Value}
theorem zw_gets {idx : Nat} (hl1 : Cond.fieldLink M.2.2.1 idx "PageWords$Numeral" "TENS" "[I" ∈ zT) (hd : decode M.1 pc = .ok (.getstatic idx, 3)) (h : ∀ tt : Nat, zTN X tt → zZ X M mc ms k n L (pc + 3) lv (.ref tt :: st)) : zZ X M mc ms k n L pc lv st := by
  obtain ⟨p, l, e, R, s, m, args, below, meth, c, G, A, Q⟩ := X
  intro ok H locs ls hH hS hl
  obtain ⟨⟨hx, hb, hml, ho, hts⟩, hr, hlk, hK, hF, hA, hrm, hin⟩ := id ok
  obtain ⟨⟨t, h1, h2⟩, h3⟩ := id hF
  refine va_gets hx hb h1 hS ho (hts _ hl1) (fun _ q => q) hd ?_
  exact h t h2 ok H locs ls hH hS hl
theorem zw_tlen {tt : Nat} (ht : zTN X tt) (hd : decode M.1 pc = .ok (.arraylength, 1)) (h : zZ X M mc ms k n L (pc + 1) lv (.int (zI 5) :: st)) : zZ X M mc ms k n L pc lv (.ref tt :: st) := by
  obtain ⟨p, l, e, R, s, m, args, below, meth, c, G, A, Q⟩ := X
  intro ok H locs ls hH hS hl
  obtain ⟨⟨hx, hb, hml, ho, hts⟩, hr, hlk, hK, hF, hA, hrm, hin⟩ := id ok
  refine va_tlen (v := zI 5) hx hb ht hS rfl hd ?_
  exact h ok H locs ls hH hS hl
theorem zw_tald {tt : Nat} {z : Int} (ht : zTN X tt) (hz : 0 ≤ z ∧ z < 5) (hd : decode M.1 pc = .ok (.iaload, 1)) (h : zZ X M mc ms k n L (pc + 1) lv (.int (zI (tenP z)) :: st)) : zZ X M mc ms k n L pc lv (.int (zI z) :: .ref tt :: st) := by
  obtain ⟨p, l, e, R, s, m, args, below, meth, c, G, A, Q⟩ := X
  intro ok H locs ls hH hS hl
  obtain ⟨⟨hx, hb, hml, ho, hts⟩, hr, hlk, hK, hF, hA, hrm, hin⟩ := id ok
  have hv : zTens (zI z).toNatClampNeg = .int (zI (tenP z)) := by
    have h5 : z = 0 ∨ z = 1 ∨ z = 2 ∨ z = 3 ∨ z = 4 := by omega
    rcases h5 with rfl | rfl | rfl | rfl | rfl <;> rfl
  refine va_ti hx hb ht hS (zI_in (n := 5) (by omega) (by omega)) hv hd ?_
  exact h ok H locs ls hH hS hl
end zTensRows
/-- a digit is put where its power of ten says: the next power, the whole part, the fraction, whether it fits -/
def plF (s : Int × Int × (Nat → Int) × Int) (c : Int) : Int × Int × (Nat → Int) × Int :=
  if c = 46 then s
  else if 0 ≤ -1 - s.1 ∧ -1 - s.1 < 160 then (s.1 + -1, s.2.1, (fun j => if j = (-1 - s.1).toNat then c - 48 else s.2.2.1 j), s.2.2.2)
  else if 0 ≤ s.1 ∧ s.1 < 5 then (s.1 + -1, s.2.1 + (c - 48) * tenP s.1, s.2.2.1, s.2.2.2)
  else if 0 ≤ s.1 ∧ c - 48 ≠ 0 then (s.1 + -1, s.2.1, s.2.2.1, 0)
  else (s.1 + -1, s.2.1, s.2.2.1, s.2.2.2)
def plS (t : List Int) (db p : Int) (s : Int × Int × (Nat → Int) × Int) : Int × Int × (Nat → Int) × Int := (slc t db p).foldl plF s
theorem plS_snoc {t : List Int} {db p : Int} {s : Int × Int × (Nat → Int) × Int} (h0 : 0 ≤ db) (h1 : db ≤ p) (h2 : p < t.length) : plS t db (p + 1) s = plF (plS t db p s) (bget t p) := by
  unfold plS
  rw [slc_snoc h0 h1 h2, List.foldl_append]
  rfl
theorem plF_rg (l : List Int) : ∀ (s : Int × Int × (Nat → Int) × Int), (∀ c ∈ l, c = 46 ∨ (48 ≤ c ∧ c ≤ 57)) → 0 ≤ s.2.1 → (0 ≤ s.2.2.2 ∧ s.2.2.2 ≤ 1) → (∀ j, j < 160 → 0 ≤ s.2.2.1 j ∧ s.2.2.1 j ≤ 9) →
    (0 ≤ (l.foldl plF s).2.1 ∧ (l.foldl plF s).2.1 ≤ s.2.1 + 90000 * l.length) ∧ (0 ≤ (l.foldl plF s).2.2.2 ∧ (l.foldl plF s).2.2.2 ≤ 1) ∧ ∀ j, j < 160 → 0 ≤ (l.foldl plF s).2.2.1 j ∧ (l.foldl plF s).2.2.1 j ≤ 9 := by
  induction l with
  | nil => intro s h h1 h2 h3; exact ⟨⟨h1, by simp⟩, h2, h3⟩
  | cons c l ih =>
    intro s h h1 h2 h3
    have hc := h c List.mem_cons_self
    have key : 0 ≤ (plF s c).2.1 ∧ (plF s c).2.1 ≤ s.2.1 + 90000 ∧ (0 ≤ (plF s c).2.2.2 ∧ (plF s c).2.2.2 ≤ 1) ∧ ∀ j, j < 160 → 0 ≤ (plF s c).2.2.1 j ∧ (plF s c).2.2.1 j ≤ 9 := by
      unfold plF
      by_cases c1 : c = 46
      · rw [if_pos c1]; exact ⟨h1, by omega, h2, h3⟩
      · rw [if_neg c1]
        by_cases c2 : 0 ≤ -1 - s.1 ∧ -1 - s.1 < 160
        · rw [if_pos c2]
          refine ⟨h1, by show s.2.1 ≤ _; omega, h2, fun j hj => ?_⟩
          show 0 ≤ (if j = (-1 - s.1).toNat then c - 48 else s.2.2.1 j) ∧ (if j = (-1 - s.1).toNat then c - 48 else s.2.2.1 j) ≤ 9
          split
          · omega
          · exact h3 j hj
        · rw [if_neg c2]
          by_cases c3 : 0 ≤ s.1 ∧ s.1 < 5
          · rw [if_pos c3]
            have tb := ten_bd (z := s.1) (x := c - 48) c3 (by omega)
            exact ⟨by show 0 ≤ s.2.1 + (c - 48) * tenP s.1; omega, by show s.2.1 + (c - 48) * tenP s.1 ≤ _; omega, h2, h3⟩
          · rw [if_neg c3]
            by_cases c4 : 0 ≤ s.1 ∧ c - 48 ≠ 0
            · rw [if_pos c4]
              exact ⟨h1, by show s.2.1 ≤ _; omega, ⟨Int.le_refl 0, (show (0 : Int) ≤ 1 by decide)⟩, h3⟩
            · rw [if_neg c4]
              exact ⟨h1, by show s.2.1 ≤ _; omega, h2, h3⟩
    obtain ⟨r1, r2, r3⟩ := ih (plF s c) (fun x hx => h x (List.mem_cons_of_mem _ hx)) key.1 key.2.2.1 key.2.2.2
    refine ⟨⟨r1.1, ?_⟩, r2, r3⟩
    have := r1.2
    simp only [List.length_cons]
    show (l.foldl plF (plF s c)).2.1 ≤ _
    omega
theorem plS_rg {t : List Int} {db de : Int} (pw : Int) (h0 : 0 ≤ db) (h1 : db ≤ de) (h2 : de ≤ t.length) (hdd : ∀ j, db ≤ j → j < de → bget t j = 46 ∨ (48 ≤ bget t j ∧ bget t j ≤ 57)) :
    (0 ≤ (plS t db de (pw, 0, (fun _ => 0), 1)).2.1 ∧ (plS t db de (pw, 0, (fun _ => 0), 1)).2.1 ≤ 90000 * (de - db)) ∧ (0 ≤ (plS t db de (pw, 0, (fun _ => 0), 1)).2.2.2 ∧ (plS t db de (pw, 0, (fun _ => 0), 1)).2.2.2 ≤ 1) ∧ ∀ j, j < 160 → 0 ≤ (plS t db de (pw, 0, (fun _ => 0), 1)).2.2.1 j ∧ (plS t db de (pw, 0, (fun _ => 0), 1)).2.2.1 j ≤ 9 := by
  have hl := slc_len h0 h1 h2
  obtain ⟨r1, r2, r3⟩ := plF_rg (slc t db de) (pw, 0, (fun _ => 0), 1) (fun c hc => by obtain ⟨j, j1, j2, j3, rfl⟩ := slc_mem h0 hc; exact hdd j j1 j2) (Int.le_refl 0) ⟨(show (0 : Int) ≤ 1 by decide), (show (1 : Int) ≤ 1 by decide)⟩ (fun j _ => ⟨Int.le_refl 0, (show (0 : Int) ≤ 9 by decide)⟩)
  refine ⟨⟨r1.1, ?_⟩, r2, r3⟩
  have := r1.2
  show (List.foldl plF _ _).2.1 ≤ _
  rw [← hl]
  simpa using this
theorem fr_put {g : Nat → Int32} {d : Nat → Int} {k : Nat} {x : Int} (h1 : ∀ j, j < 160 → g j = zI (d j)) (h2 : ∀ j, j < 160 → 0 ≤ d j ∧ d j ≤ 9) (hx : 0 ≤ x ∧ x ≤ 9) : (∀ j, j < 160 → upd g k (zI x) j = zI ((fun j => if j = k then x else d j) j)) ∧ ∀ j, j < 160 → 0 ≤ (fun j => if j = k then x else d j) j ∧ (fun j => if j = k then x else d j) j ≤ 9 := by
  refine ⟨fun j hj => ?_, fun j hj => ?_⟩
  · by_cases e : j = k
    · subst e
      rw [pk_us]
      show zI x = zI (if j = j then x else d j)
      rw [if_pos rfl]
    · rw [pk_un e]
      show g j = zI (if j = k then x else d j)
      rw [if_neg e]
      exact h1 j hj
  · show 0 ≤ (if j = k then x else d j) ∧ (if j = k then x else d j) ≤ 9
    split
    · exact hx
    · exact h2 j hj
theorem cmpH_rg (d : Nat → Int) : -1 ≤ cmpH d ∧ cmpH d ≤ 1 := by
  unfold cmpH
  repeat' split
  all_goals omega
/-- a real's 65536ths without its sign -/
noncomputable def realSum (ng : Int) (P : Int × Int × (Nat → Int) × Int) : Int := P.2.1 * 65536 + (mulS P.2.2.1 160).1 + (if 0 < cmpH (mulS P.2.2.1 160).2 ∨ (cmpH (mulS P.2.2.1 160).2 = 0 ∧ ng = 0) then 1 else 0)
noncomputable def realF (ng : Int) (P : Int × Int × (Nat → Int) × Int) : Int := if P.2.2.2 ≠ 0 ∧ realSum ng P < 2147483648 then 1 else 0
set_option maxHeartbeats 4000000 in
set_option maxRecDepth 100000 in
theorem c_NU_place (h fa : Nat) (g : Nat → Int32) (ng db de wd ex : Int) (v : Int32) (ft : Int) (ht : Nat) (t : List Int) (nt : Nat) (hf : 0 ≤ db ∧ db ≤ de ∧ de ≤ t.length) (hwd : 0 ≤ wd ∧ wd ≤ 70000) (hex : -1000 ≤ ex ∧ ex ≤ 1000) (hdd : ∀ j, db ≤ j → j < de → bget t j = 46 ∨ (48 ≤ bget t j ∧ bget t j ≤ 57)) : zCT zy_NU_placeDigits zm_NU_placeDigits (0) (0) [.ref h, .ref ht] [zObj h 5 [.ref fa, .int (zI (ng)), .int (zI (db)), .int (zI (de)), .int (zI (wd)), .int (zI (ex)), .int (v), .int (zI (ft))], zBRow ht (t) (nt), zArI fa (160) (g)] (some (.long (zJ (plS t db de (wd - 1 + ex, 0, (fun _ => 0), ft)).2.1))) [zObj h 5 [.ref fa, .int (zI (ng)), .int (zI (db)), .int (zI (de)), .int (zI (wd)), .int (zI (ex)), .int (v), .int (zI ((plS t db de (wd - 1 + ex, 0, (fun _ => 0), ft)).2.2.2))], zBRow ht (t) (nt), zFr fa ((plS t db de (wd - 1 + ex, 0, (fun _ => 0), ft)).2.2.1)] := by
  refine zCT.of [(0, .ref h), (1, .ref ht)] rfl (by decide) rfl (fun h => by first | rfl | cases h) (Nat.le_of_ble_eq_true rfl) (fun X hR => ?_)
  refine zw_fact 1 rfl (fun G w h => zBR_fact h) (fun hbr => ?_)
  obtain ⟨⟨ht1, ht2, ht3⟩, hby⟩ := hbr
  have lp : ∀ (fuel : Nat) (p : Int) (pw : Int) (wh : Int) (d : Nat → Int) (f1 : Int), ((db ≤ p ∧ p ≤ de) ∧ (wd - 1 + ex - (p - db) ≤ pw ∧ pw ≤ wd - 1 + ex) ∧ plS t db p (wd - 1 + ex, 0, (fun _ => 0), ft) = (pw, wh, d, f1)) → (de - p).toNat < fuel → zZ X zm_NU_placeDigits (0) (0) (0) (0) [zFr fa (d), zObj h 5 [.ref fa, .int (zI (ng)), .int (zI (db)), .int (zI (de)), .int (zI (wd)), .int (zI (ex)), .int (v), .int (zI (f1))], zBRow ht (t) (nt)] 29 [(0, .ref h), (1, .ref ht), (2, .long (zJ (wh))), (4, .int (zI (pw))), (5, .int (zI (p)))] [] := by
    intro fuel
    induction fuel with
    | zero => intro p pw wh d f1 g0 hm; exact absurd hm (Nat.not_lt_zero _)
    | succ fuel ih =>
      intro p pw wh d f1 g0 hm
      obtain ⟨i1, i2, i3⟩ := g0
      refine zw_iload 4 rfl zd_NU_placeDigits_29 ?_
      refine zw_aload_n 0 rfl zd_NU_placeDigits_31 ?_
      refine zw_get zc_NU 1 3 rfl (by decide) zf_NU_43 rfl zd_NU_placeDigits_32 ?_
      refine zw_icmp_ge 150 (by omega) (by omega) zd_NU_placeDigits_35 (by decide) (fun c35 => ?_) (fun c35 => ?_)
      · -- 35 -> 150
        refine zw_lload_n 2 rfl zd_NU_placeDigits_150 ?_
        have ep : p = de := by omega
        rw [ep] at i3
        refine zw_sub (L' := [zObj h 5 [.ref fa, .int (zI (ng)), .int (zI (db)), .int (zI (de)), .int (zI (wd)), .int (zI (ex)), .int (v), .int (zI (f1))], zBRow ht (t) (nt), zFr fa (d)]) [1, 2, 0] rfl rfl ?_
        exact zw_lret hR (by rw [i3]) (by rw [i3]) rfl (by omega) (by omega) zd_NU_placeDigits_151
      · -- 35 -> 38
        have hc := hdd p (by omega) (by omega)
        refine zw_aload_n 1 rfl zd_NU_placeDigits_38 ?_
        refine zw_iload 4 rfl zd_NU_placeDigits_39 ?_
        refine zw_callV (As := [.int (zI (p))]) (rest := []) (L2 := [zFr fa (d), zObj h 5 [.ref fa, .int (zI (ng)), .int (zI (db)), .int (zI (de)), .int (zI (wd)), .int (zI (ex)), .int (v), .int (zI (f1))]]) (L' := [zBRow ht (t) (nt), zFr fa (d), zObj h 5 [.ref fa, .int (zI (ng)), .int (zI (db)), .int (zI (de)), .int (zI (wd)), .int (zI (ex)), .int (v), .int (zI (f1))]]) (stk' := [.int (zI (bget t p))]) (c_BR_get ht (t) (nt) (p) (by omega)) [2] [0, 1] rfl rfl rfl zcal_BR_get zl_NU_23 zin_BR_get zse_BR_get 0 rfl zRv_BRow rfl (Nat.le_of_ble_eq_true rfl) (Nat.le_of_ble_eq_true rfl) (by omega) (by omega) rfl (Nat.le_of_ble_eq_true rfl) rfl rfl zd_NU_placeDigits_41 ?_
        have rg41 := bget_rg hby (p)
        refine zw_bipush rfl zd_NU_placeDigits_44 ?_
        refine zw_icmp_ne 52 (by omega) (by omega) zd_NU_placeDigits_46 (by decide) (fun c46 => ?_) (fun c46 => ?_)
        · -- 46 -> 52
          refine zw_aload_n 1 rfl zd_NU_placeDigits_52 ?_
          refine zw_iload 4 rfl zd_NU_placeDigits_53 ?_
          refine zw_callV (As := [.int (zI (p))]) (rest := []) (L2 := [zFr fa (d), zObj h 5 [.ref fa, .int (zI (ng)), .int (zI (db)), .int (zI (de)), .int (zI (wd)), .int (zI (ex)), .int (v), .int (zI (f1))]]) (L' := [zBRow ht (t) (nt), zFr fa (d), zObj h 5 [.ref fa, .int (zI (ng)), .int (zI (db)), .int (zI (de)), .int (zI (wd)), .int (zI (ex)), .int (v), .int (zI (f1))]]) (stk' := [.int (zI (bget t p))]) (c_BR_get ht (t) (nt) (p) (by omega)) [0] [1, 2] rfl rfl rfl zcal_BR_get zl_NU_23 zin_BR_get zse_BR_get 0 rfl zRv_BRow rfl (Nat.le_of_ble_eq_true rfl) (Nat.le_of_ble_eq_true rfl) (by omega) (by omega) rfl (Nat.le_of_ble_eq_true rfl) rfl rfl zd_NU_placeDigits_55 ?_
          have rg55 := bget_rg hby (p)
          refine zw_bipush rfl zd_NU_placeDigits_58 ?_
          refine zw_isub zd_NU_placeDigits_60 ?_
          refine zw_istore (lv' := [(6, .int (zI ((bget t p) - 48))), (0, .ref h), (1, .ref ht), (2, .long (zJ (wh))), (4, .int (zI (pw))), (5, .int (zI (p)))]) (Nat.le_of_ble_eq_true rfl) rfl zd_NU_placeDigits_61 ?_
          refine zw_iconst zd_NU_placeDigits_63 ?_
          refine zw_iload 4 rfl zd_NU_placeDigits_64 ?_
          refine zw_isub zd_NU_placeDigits_66 ?_
          refine zw_istore (lv' := [(7, .int (zI ((-1) - pw))), (6, .int (zI ((bget t p) - 48))), (0, .ref h), (1, .ref ht), (2, .long (zJ (wh))), (4, .int (zI (pw))), (5, .int (zI (p)))]) (Nat.le_of_ble_eq_true rfl) rfl zd_NU_placeDigits_67 ?_
          refine zw_iload 0 rfl zd_NU_placeDigits_69 ?_
          refine zw_if_lt 96 (by omega) zd_NU_placeDigits_71 (by decide) (fun c71 => ?_) (fun c71 => ?_)
          · -- 71 -> 96
            refine zw_iload 5 rfl zd_NU_placeDigits_96 ?_
            refine zw_if_lt 126 (by omega) zd_NU_placeDigits_98 (by decide) (fun c98 => ?_) (fun c98 => ?_)
            · -- 98 -> 126
              refine zw_iload 5 rfl zd_NU_placeDigits_126 ?_
              refine zw_if_lt 141 (by omega) zd_NU_placeDigits_128 (by decide) (fun c128 => ?_) (fun c128 => ?_)
              · -- 128 -> 141
                have e7 : plS t db (p + 1) (wd - 1 + ex, 0, (fun _ => 0), ft) = (pw + -1, wh, d, f1) := by rw [plS_snoc (by omega) (by omega) (by omega), i3, plF, if_neg (by omega), if_neg (by omega), if_neg (by omega), if_neg (by omega)]
                refine zw_iinc (lv' := [(4, .int (zI (pw + (-1)))), (7, .int (zI ((-1) - pw))), (6, .int (zI ((bget t p) - 48))), (0, .ref h), (1, .ref ht), (2, .long (zJ (wh))), (5, .int (zI (p)))]) 5 rfl (Nat.le_of_ble_eq_true rfl) rfl zd_NU_placeDigits_141 ?_
                refine zw_iinc (lv' := [(5, .int (zI (p + 1))), (4, .int (zI (pw + (-1)))), (7, .int (zI ((-1) - pw))), (6, .int (zI ((bget t p) - 48))), (0, .ref h), (1, .ref ht), (2, .long (zJ (wh)))]) 6 rfl (Nat.le_of_ble_eq_true rfl) rfl zd_NU_placeDigits_144 ?_
                refine zw_goto 29 zd_NU_placeDigits_147 (by decide) ?_
                refine zw_sub (L' := [zFr fa (d), zObj h 5 [.ref fa, .int (zI (ng)), .int (zI (db)), .int (zI (de)), .int (zI (wd)), .int (zI (ex)), .int (v), .int (zI (f1))], zBRow ht (t) (nt)]) [1, 2, 0] rfl rfl ?_
                refine zw_lpick (lv' := [(0, .ref h), (1, .ref ht), (2, .long (zJ (wh))), (4, .int (zI (pw + (-1)))), (5, .int (zI (p + 1)))]) [4, 5, 6, 1, 0] rfl ?_
                refine zw_widen (k' := 0) (n' := 0) (by omega) (by omega) ?_
                exact ih (p + 1) _ _ _ _ ⟨by omega, by omega, e7⟩ (by omega)
              · -- 128 -> 131
                refine zw_iload 1 rfl zd_NU_placeDigits_131 ?_
                refine zw_if_eq 141 (by omega) zd_NU_placeDigits_133 (by decide) (fun c133 => ?_) (fun c133 => ?_)
                · -- 133 -> 141
                  have e7 : plS t db (p + 1) (wd - 1 + ex, 0, (fun _ => 0), ft) = (pw + -1, wh, d, f1) := by rw [plS_snoc (by omega) (by omega) (by omega), i3, plF, if_neg (by omega), if_neg (by omega), if_neg (by omega), if_neg (by omega)]
                  refine zw_iinc (lv' := [(4, .int (zI (pw + (-1)))), (7, .int (zI ((-1) - pw))), (6, .int (zI ((bget t p) - 48))), (0, .ref h), (1, .ref ht), (2, .long (zJ (wh))), (5, .int (zI (p)))]) 5 rfl (Nat.le_of_ble_eq_true rfl) rfl zd_NU_placeDigits_141 ?_
                  refine zw_iinc (lv' := [(5, .int (zI (p + 1))), (4, .int (zI (pw + (-1)))), (7, .int (zI ((-1) - pw))), (6, .int (zI ((bget t p) - 48))), (0, .ref h), (1, .ref ht), (2, .long (zJ (wh)))]) 6 rfl (Nat.le_of_ble_eq_true rfl) rfl zd_NU_placeDigits_144 ?_
                  refine zw_goto 29 zd_NU_placeDigits_147 (by decide) ?_
                  refine zw_sub (L' := [zFr fa (d), zObj h 5 [.ref fa, .int (zI (ng)), .int (zI (db)), .int (zI (de)), .int (zI (wd)), .int (zI (ex)), .int (v), .int (zI (f1))], zBRow ht (t) (nt)]) [1, 2, 0] rfl rfl ?_
                  refine zw_lpick (lv' := [(0, .ref h), (1, .ref ht), (2, .long (zJ (wh))), (4, .int (zI (pw + (-1)))), (5, .int (zI (p + 1)))]) [4, 5, 6, 1, 0] rfl ?_
                  refine zw_widen (k' := 0) (n' := 0) (by omega) (by omega) ?_
                  exact ih (p + 1) _ _ _ _ ⟨by omega, by omega, e7⟩ (by omega)
                · -- 133 -> 136
                  have e7 : plS t db (p + 1) (wd - 1 + ex, 0, (fun _ => 0), ft) = (pw + -1, wh, d, 0) := by rw [plS_snoc (by omega) (by omega) (by omega), i3, plF, if_neg (by omega), if_neg (by omega), if_neg (by omega), if_pos (by omega)]
                  refine zw_aload_n 2 rfl zd_NU_placeDigits_136 ?_
                  refine zw_iconst zd_NU_placeDigits_137 ?_
                  refine zw_put (L' := [zBRow ht (t) (nt), zFr fa (d), zObj h 5 [.ref fa, .int (zI (ng)), .int (zI (db)), .int (zI (de)), .int (zI (wd)), .int (zI (ex)), .int (v), .int (zI (0))]]) zc_NU 2 7 rfl (by decide) zf_NU_19 rfl rfl rfl (Nat.le_of_ble_eq_true rfl) rfl zd_NU_placeDigits_138 ?_
                  refine zw_iinc (lv' := [(4, .int (zI (pw + (-1)))), (7, .int (zI ((-1) - pw))), (6, .int (zI ((bget t p) - 48))), (0, .ref h), (1, .ref ht), (2, .long (zJ (wh))), (5, .int (zI (p)))]) 5 rfl (Nat.le_of_ble_eq_true rfl) rfl zd_NU_placeDigits_141 ?_
                  refine zw_iinc (lv' := [(5, .int (zI (p + 1))), (4, .int (zI (pw + (-1)))), (7, .int (zI ((-1) - pw))), (6, .int (zI ((bget t p) - 48))), (0, .ref h), (1, .ref ht), (2, .long (zJ (wh)))]) 6 rfl (Nat.le_of_ble_eq_true rfl) rfl zd_NU_placeDigits_144 ?_
                  refine zw_goto 29 zd_NU_placeDigits_147 (by decide) ?_
                  refine zw_sub (L' := [zFr fa (d), zObj h 5 [.ref fa, .int (zI (ng)), .int (zI (db)), .int (zI (de)), .int (zI (wd)), .int (zI (ex)), .int (v), .int (zI (0))], zBRow ht (t) (nt)]) [1, 2, 0] rfl rfl ?_
                  refine zw_lpick (lv' := [(0, .ref h), (1, .ref ht), (2, .long (zJ (wh))), (4, .int (zI (pw + (-1)))), (5, .int (zI (p + 1)))]) [4, 5, 6, 1, 0] rfl ?_
                  refine zw_widen (k' := 0) (n' := 0) (by omega) (by omega) ?_
                  exact ih (p + 1) _ _ _ _ ⟨by omega, by omega, e7⟩ (by omega)
            · -- 98 -> 101
              refine zw_iload 5 rfl zd_NU_placeDigits_101 ?_
              refine zw_gets zf_NU_111 zd_NU_placeDigits_103 (fun tt103 htt103 => ?_)
              refine zw_tlen htt103 zd_NU_placeDigits_106 ?_
              refine zw_icmp_ge 126 (by omega) (by omega) zd_NU_placeDigits_107 (by decide) (fun c107 => ?_) (fun c107 => ?_)
              · -- 107 -> 126
                refine zw_iload 5 rfl zd_NU_placeDigits_126 ?_
                refine zw_if_lt 141 (by omega) zd_NU_placeDigits_128 (by decide) (fun c128 => ?_) (fun c128 => ?_)
                · -- 128 -> 141
                  have e7 : plS t db (p + 1) (wd - 1 + ex, 0, (fun _ => 0), ft) = (pw + -1, wh, d, f1) := by rw [plS_snoc (by omega) (by omega) (by omega), i3, plF, if_neg (by omega), if_neg (by omega), if_neg (by omega), if_neg (by omega)]
                  refine zw_iinc (lv' := [(4, .int (zI (pw + (-1)))), (7, .int (zI ((-1) - pw))), (6, .int (zI ((bget t p) - 48))), (0, .ref h), (1, .ref ht), (2, .long (zJ (wh))), (5, .int (zI (p)))]) 5 rfl (Nat.le_of_ble_eq_true rfl) rfl zd_NU_placeDigits_141 ?_
                  refine zw_iinc (lv' := [(5, .int (zI (p + 1))), (4, .int (zI (pw + (-1)))), (7, .int (zI ((-1) - pw))), (6, .int (zI ((bget t p) - 48))), (0, .ref h), (1, .ref ht), (2, .long (zJ (wh)))]) 6 rfl (Nat.le_of_ble_eq_true rfl) rfl zd_NU_placeDigits_144 ?_
                  refine zw_goto 29 zd_NU_placeDigits_147 (by decide) ?_
                  refine zw_sub (L' := [zFr fa (d), zObj h 5 [.ref fa, .int (zI (ng)), .int (zI (db)), .int (zI (de)), .int (zI (wd)), .int (zI (ex)), .int (v), .int (zI (f1))], zBRow ht (t) (nt)]) [1, 2, 0] rfl rfl ?_
                  refine zw_lpick (lv' := [(0, .ref h), (1, .ref ht), (2, .long (zJ (wh))), (4, .int (zI (pw + (-1)))), (5, .int (zI (p + 1)))]) [4, 5, 6, 1, 0] rfl ?_
                  refine zw_widen (k' := 0) (n' := 0) (by omega) (by omega) ?_
                  exact ih (p + 1) _ _ _ _ ⟨by omega, by omega, e7⟩ (by omega)
                · -- 128 -> 131
                  refine zw_iload 1 rfl zd_NU_placeDigits_131 ?_
                  refine zw_if_eq 141 (by omega) zd_NU_placeDigits_133 (by decide) (fun c133 => ?_) (fun c133 => ?_)
                  · -- 133 -> 141
                    have e7 : plS t db (p + 1) (wd - 1 + ex, 0, (fun _ => 0), ft) = (pw + -1, wh, d, f1) := by rw [plS_snoc (by omega) (by omega) (by omega), i3, plF, if_neg (by omega), if_neg (by omega), if_neg (by omega), if_neg (by omega)]
                    refine zw_iinc (lv' := [(4, .int (zI (pw + (-1)))), (7, .int (zI ((-1) - pw))), (6, .int (zI ((bget t p) - 48))), (0, .ref h), (1, .ref ht), (2, .long (zJ (wh))), (5, .int (zI (p)))]) 5 rfl (Nat.le_of_ble_eq_true rfl) rfl zd_NU_placeDigits_141 ?_
                    refine zw_iinc (lv' := [(5, .int (zI (p + 1))), (4, .int (zI (pw + (-1)))), (7, .int (zI ((-1) - pw))), (6, .int (zI ((bget t p) - 48))), (0, .ref h), (1, .ref ht), (2, .long (zJ (wh)))]) 6 rfl (Nat.le_of_ble_eq_true rfl) rfl zd_NU_placeDigits_144 ?_
                    refine zw_goto 29 zd_NU_placeDigits_147 (by decide) ?_
                    refine zw_sub (L' := [zFr fa (d), zObj h 5 [.ref fa, .int (zI (ng)), .int (zI (db)), .int (zI (de)), .int (zI (wd)), .int (zI (ex)), .int (v), .int (zI (f1))], zBRow ht (t) (nt)]) [1, 2, 0] rfl rfl ?_
                    refine zw_lpick (lv' := [(0, .ref h), (1, .ref ht), (2, .long (zJ (wh))), (4, .int (zI (pw + (-1)))), (5, .int (zI (p + 1)))]) [4, 5, 6, 1, 0] rfl ?_
                    refine zw_widen (k' := 0) (n' := 0) (by omega) (by omega) ?_
                    exact ih (p + 1) _ _ _ _ ⟨by omega, by omega, e7⟩ (by omega)
                  · -- 133 -> 136
                    have e7 : plS t db (p + 1) (wd - 1 + ex, 0, (fun _ => 0), ft) = (pw + -1, wh, d, 0) := by rw [plS_snoc (by omega) (by omega) (by omega), i3, plF, if_neg (by omega), if_neg (by omega), if_neg (by omega), if_pos (by omega)]
                    refine zw_aload_n 2 rfl zd_NU_placeDigits_136 ?_
                    refine zw_iconst zd_NU_placeDigits_137 ?_
                    refine zw_put (L' := [zBRow ht (t) (nt), zFr fa (d), zObj h 5 [.ref fa, .int (zI (ng)), .int (zI (db)), .int (zI (de)), .int (zI (wd)), .int (zI (ex)), .int (v), .int (zI (0))]]) zc_NU 2 7 rfl (by decide) zf_NU_19 rfl rfl rfl (Nat.le_of_ble_eq_true rfl) rfl zd_NU_placeDigits_138 ?_
                    refine zw_iinc (lv' := [(4, .int (zI (pw + (-1)))), (7, .int (zI ((-1) - pw))), (6, .int (zI ((bget t p) - 48))), (0, .ref h), (1, .ref ht), (2, .long (zJ (wh))), (5, .int (zI (p)))]) 5 rfl (Nat.le_of_ble_eq_true rfl) rfl zd_NU_placeDigits_141 ?_
                    refine zw_iinc (lv' := [(5, .int (zI (p + 1))), (4, .int (zI (pw + (-1)))), (7, .int (zI ((-1) - pw))), (6, .int (zI ((bget t p) - 48))), (0, .ref h), (1, .ref ht), (2, .long (zJ (wh)))]) 6 rfl (Nat.le_of_ble_eq_true rfl) rfl zd_NU_placeDigits_144 ?_
                    refine zw_goto 29 zd_NU_placeDigits_147 (by decide) ?_
                    refine zw_sub (L' := [zFr fa (d), zObj h 5 [.ref fa, .int (zI (ng)), .int (zI (db)), .int (zI (de)), .int (zI (wd)), .int (zI (ex)), .int (v), .int (zI (0))], zBRow ht (t) (nt)]) [1, 2, 0] rfl rfl ?_
                    refine zw_lpick (lv' := [(0, .ref h), (1, .ref ht), (2, .long (zJ (wh))), (4, .int (zI (pw + (-1)))), (5, .int (zI (p + 1)))]) [4, 5, 6, 1, 0] rfl ?_
                    refine zw_widen (k' := 0) (n' := 0) (by omega) (by omega) ?_
                    exact ih (p + 1) _ _ _ _ ⟨by omega, by omega, e7⟩ (by omega)
              · -- 107 -> 110
                have e7 : plS t db (p + 1) (wd - 1 + ex, 0, (fun _ => 0), ft) = (pw + -1, wh + (bget t p - 48) * tenP pw, d, f1) := by rw [plS_snoc (by omega) (by omega) (by omega), i3, plF, if_neg (by omega), if_neg (by omega), if_pos (by omega)]
                have tb := ten_bd (z := pw) (x := bget t p - 48) (by omega) (by omega)
                refine zw_lload_n 4 rfl zd_NU_placeDigits_110 ?_
                refine zw_iload 1 rfl zd_NU_placeDigits_111 ?_
                refine zw_gets zf_NU_111 zd_NU_placeDigits_113 (fun tt113 htt113 => ?_)
                refine zw_iload 5 rfl zd_NU_placeDigits_116 ?_
                refine zw_tald htt113 (by omega) zd_NU_placeDigits_118 ?_
                refine zw_imul zd_NU_placeDigits_119 ?_
                refine zw_i2l (by omega) zd_NU_placeDigits_120 ?_
                refine zw_ladd zd_NU_placeDigits_121 ?_
                refine zw_lstore_n (lv' := [(2, .long (zJ (wh + (((bget t p) - 48) * (tenP pw))))), (7, .int (zI ((-1) - pw))), (6, .int (zI ((bget t p) - 48))), (0, .ref h), (1, .ref ht), (4, .int (zI (pw))), (5, .int (zI (p)))]) (Nat.le_of_ble_eq_true rfl) rfl zd_NU_placeDigits_122 ?_
                refine zw_goto 141 zd_NU_placeDigits_123 (by decide) ?_
                refine zw_iinc (lv' := [(4, .int (zI (pw + (-1)))), (2, .long (zJ (wh + (((bget t p) - 48) * (tenP pw))))), (7, .int (zI ((-1) - pw))), (6, .int (zI ((bget t p) - 48))), (0, .ref h), (1, .ref ht), (5, .int (zI (p)))]) 5 rfl (Nat.le_of_ble_eq_true rfl) rfl zd_NU_placeDigits_141 ?_
                refine zw_iinc (lv' := [(5, .int (zI (p + 1))), (4, .int (zI (pw + (-1)))), (2, .long (zJ (wh + (((bget t p) - 48) * (tenP pw))))), (7, .int (zI ((-1) - pw))), (6, .int (zI ((bget t p) - 48))), (0, .ref h), (1, .ref ht)]) 6 rfl (Nat.le_of_ble_eq_true rfl) rfl zd_NU_placeDigits_144 ?_
                refine zw_goto 29 zd_NU_placeDigits_147 (by decide) ?_
                refine zw_sub (L' := [zFr fa (d), zObj h 5 [.ref fa, .int (zI (ng)), .int (zI (db)), .int (zI (de)), .int (zI (wd)), .int (zI (ex)), .int (v), .int (zI (f1))], zBRow ht (t) (nt)]) [1, 2, 0] rfl rfl ?_
                refine zw_lpick (lv' := [(0, .ref h), (1, .ref ht), (2, .long (zJ (wh + (((bget t p) - 48) * (tenP pw))))), (4, .int (zI (pw + (-1)))), (5, .int (zI (p + 1)))]) [5, 6, 2, 1, 0] rfl ?_
                refine zw_widen (k' := 0) (n' := 0) (by omega) (by omega) ?_
                exact ih (p + 1) _ _ _ _ ⟨by omega, by omega, e7⟩ (by omega)
          · -- 71 -> 74
            refine zw_iload 0 rfl zd_NU_placeDigits_74 ?_
            refine zw_sub (L' := [zFr fa (d), zBRow ht (t) (nt), zObj h 5 [.ref fa, .int (zI (ng)), .int (zI (db)), .int (zI (de)), .int (zI (wd)), .int (zI (ex)), .int (v), .int (zI (f1))]]) [1, 0, 2] rfl rfl ?_
            refine zw_unp (fun G ws h => h) (fun g hg => ?_)
            obtain ⟨hg1, hg2⟩ := hg
            simp only [List.cons_append, List.nil_append]
            refine zw_aload_n 2 rfl zd_NU_placeDigits_76 ?_
            refine zw_get zc_NU 2 0 rfl (by decide) zf_NU_11 rfl zd_NU_placeDigits_77 ?_
            refine zw_alenI 0 rfl zd_NU_placeDigits_80 ?_
            refine zw_pack (at0 := zFr fa (d)) (Ls := [zArI fa (160) (g)]) (L2 := [zBRow ht (t) (nt), zObj h 5 [.ref fa, .int (zI (ng)), .int (zI (db)), .int (zI (de)), .int (zI (wd)), .int (zI (ex)), .int (v), .int (zI (f1))]]) rfl (fun G w h => ⟨g, ⟨hg1, hg2⟩, h⟩) ?_
            refine zw_icmp_ge 96 (by omega) (by omega) zd_NU_placeDigits_81 (by decide) (fun c81 => ?_) (fun c81 => ?_)
            · -- 81 -> 96
              refine zw_iload 5 rfl zd_NU_placeDigits_96 ?_
              refine zw_if_lt 126 (by omega) zd_NU_placeDigits_98 (by decide) (fun c98 => ?_) (fun c98 => ?_)
              · -- 98 -> 126
                refine zw_iload 5 rfl zd_NU_placeDigits_126 ?_
                refine zw_if_lt 141 (by omega) zd_NU_placeDigits_128 (by decide) (fun c128 => ?_) (fun c128 => ?_)
                · -- 128 -> 141
                  have e7 : plS t db (p + 1) (wd - 1 + ex, 0, (fun _ => 0), ft) = (pw + -1, wh, d, f1) := by rw [plS_snoc (by omega) (by omega) (by omega), i3, plF, if_neg (by omega), if_neg (by omega), if_neg (by omega), if_neg (by omega)]
                  refine zw_iinc (lv' := [(4, .int (zI (pw + (-1)))), (7, .int (zI ((-1) - pw))), (6, .int (zI ((bget t p) - 48))), (0, .ref h), (1, .ref ht), (2, .long (zJ (wh))), (5, .int (zI (p)))]) 5 rfl (Nat.le_of_ble_eq_true rfl) rfl zd_NU_placeDigits_141 ?_
                  refine zw_iinc (lv' := [(5, .int (zI (p + 1))), (4, .int (zI (pw + (-1)))), (7, .int (zI ((-1) - pw))), (6, .int (zI ((bget t p) - 48))), (0, .ref h), (1, .ref ht), (2, .long (zJ (wh)))]) 6 rfl (Nat.le_of_ble_eq_true rfl) rfl zd_NU_placeDigits_144 ?_
                  refine zw_goto 29 zd_NU_placeDigits_147 (by decide) ?_
                  refine zw_sub (L' := [zFr fa (d), zObj h 5 [.ref fa, .int (zI (ng)), .int (zI (db)), .int (zI (de)), .int (zI (wd)), .int (zI (ex)), .int (v), .int (zI (f1))], zBRow ht (t) (nt)]) [0, 2, 1] rfl rfl ?_
                  refine zw_lpick (lv' := [(0, .ref h), (1, .ref ht), (2, .long (zJ (wh))), (4, .int (zI (pw + (-1)))), (5, .int (zI (p + 1)))]) [4, 5, 6, 1, 0] rfl ?_
                  refine zw_widen (k' := 0) (n' := 0) (by omega) (by omega) ?_
                  exact ih (p + 1) _ _ _ _ ⟨by omega, by omega, e7⟩ (by omega)
                · -- 128 -> 131
                  refine zw_iload 1 rfl zd_NU_placeDigits_131 ?_
                  refine zw_if_eq 141 (by omega) zd_NU_placeDigits_133 (by decide) (fun c133 => ?_) (fun c133 => ?_)
                  · -- 133 -> 141
                    have e7 : plS t db (p + 1) (wd - 1 + ex, 0, (fun _ => 0), ft) = (pw + -1, wh, d, f1) := by rw [plS_snoc (by omega) (by omega) (by omega), i3, plF, if_neg (by omega), if_neg (by omega), if_neg (by omega), if_neg (by omega)]
                    refine zw_iinc (lv' := [(4, .int (zI (pw + (-1)))), (7, .int (zI ((-1) - pw))), (6, .int (zI ((bget t p) - 48))), (0, .ref h), (1, .ref ht), (2, .long (zJ (wh))), (5, .int (zI (p)))]) 5 rfl (Nat.le_of_ble_eq_true rfl) rfl zd_NU_placeDigits_141 ?_
                    refine zw_iinc (lv' := [(5, .int (zI (p + 1))), (4, .int (zI (pw + (-1)))), (7, .int (zI ((-1) - pw))), (6, .int (zI ((bget t p) - 48))), (0, .ref h), (1, .ref ht), (2, .long (zJ (wh)))]) 6 rfl (Nat.le_of_ble_eq_true rfl) rfl zd_NU_placeDigits_144 ?_
                    refine zw_goto 29 zd_NU_placeDigits_147 (by decide) ?_
                    refine zw_sub (L' := [zFr fa (d), zObj h 5 [.ref fa, .int (zI (ng)), .int (zI (db)), .int (zI (de)), .int (zI (wd)), .int (zI (ex)), .int (v), .int (zI (f1))], zBRow ht (t) (nt)]) [0, 2, 1] rfl rfl ?_
                    refine zw_lpick (lv' := [(0, .ref h), (1, .ref ht), (2, .long (zJ (wh))), (4, .int (zI (pw + (-1)))), (5, .int (zI (p + 1)))]) [4, 5, 6, 1, 0] rfl ?_
                    refine zw_widen (k' := 0) (n' := 0) (by omega) (by omega) ?_
                    exact ih (p + 1) _ _ _ _ ⟨by omega, by omega, e7⟩ (by omega)
                  · -- 133 -> 136
                    have e7 : plS t db (p + 1) (wd - 1 + ex, 0, (fun _ => 0), ft) = (pw + -1, wh, d, 0) := by rw [plS_snoc (by omega) (by omega) (by omega), i3, plF, if_neg (by omega), if_neg (by omega), if_neg (by omega), if_pos (by omega)]
                    refine zw_aload_n 2 rfl zd_NU_placeDigits_136 ?_
                    refine zw_iconst zd_NU_placeDigits_137 ?_
                    refine zw_put (L' := [zFr fa (d), zBRow ht (t) (nt), zObj h 5 [.ref fa, .int (zI (ng)), .int (zI (db)), .int (zI (de)), .int (zI (wd)), .int (zI (ex)), .int (v), .int (zI (0))]]) zc_NU 2 7 rfl (by decide) zf_NU_19 rfl rfl rfl (Nat.le_of_ble_eq_true rfl) rfl zd_NU_placeDigits_138 ?_
                    refine zw_iinc (lv' := [(4, .int (zI (pw + (-1)))), (7, .int (zI ((-1) - pw))), (6, .int (zI ((bget t p) - 48))), (0, .ref h), (1, .ref ht), (2, .long (zJ (wh))), (5, .int (zI (p)))]) 5 rfl (Nat.le_of_ble_eq_true rfl) rfl zd_NU_placeDigits_141 ?_
                    refine zw_iinc (lv' := [(5, .int (zI (p + 1))), (4, .int (zI (pw + (-1)))), (7, .int (zI ((-1) - pw))), (6, .int (zI ((bget t p) - 48))), (0, .ref h), (1, .ref ht), (2, .long (zJ (wh)))]) 6 rfl (Nat.le_of_ble_eq_true rfl) rfl zd_NU_placeDigits_144 ?_
                    refine zw_goto 29 zd_NU_placeDigits_147 (by decide) ?_
                    refine zw_sub (L' := [zFr fa (d), zObj h 5 [.ref fa, .int (zI (ng)), .int (zI (db)), .int (zI (de)), .int (zI (wd)), .int (zI (ex)), .int (v), .int (zI (0))], zBRow ht (t) (nt)]) [0, 2, 1] rfl rfl ?_
                    refine zw_lpick (lv' := [(0, .ref h), (1, .ref ht), (2, .long (zJ (wh))), (4, .int (zI (pw + (-1)))), (5, .int (zI (p + 1)))]) [4, 5, 6, 1, 0] rfl ?_
                    refine zw_widen (k' := 0) (n' := 0) (by omega) (by omega) ?_
                    exact ih (p + 1) _ _ _ _ ⟨by omega, by omega, e7⟩ (by omega)
              · -- 98 -> 101
                refine zw_iload 5 rfl zd_NU_placeDigits_101 ?_
                refine zw_gets zf_NU_111 zd_NU_placeDigits_103 (fun tt103 htt103 => ?_)
                refine zw_tlen htt103 zd_NU_placeDigits_106 ?_
                refine zw_icmp_ge 126 (by omega) (by omega) zd_NU_placeDigits_107 (by decide) (fun c107 => ?_) (fun c107 => ?_)
                · -- 107 -> 126
                  refine zw_iload 5 rfl zd_NU_placeDigits_126 ?_
                  refine zw_if_lt 141 (by omega) zd_NU_placeDigits_128 (by decide) (fun c128 => ?_) (fun c128 => ?_)
                  · -- 128 -> 141
                    have e7 : plS t db (p + 1) (wd - 1 + ex, 0, (fun _ => 0), ft) = (pw + -1, wh, d, f1) := by rw [plS_snoc (by omega) (by omega) (by omega), i3, plF, if_neg (by omega), if_neg (by omega), if_neg (by omega), if_neg (by omega)]
                    refine zw_iinc (lv' := [(4, .int (zI (pw + (-1)))), (7, .int (zI ((-1) - pw))), (6, .int (zI ((bget t p) - 48))), (0, .ref h), (1, .ref ht), (2, .long (zJ (wh))), (5, .int (zI (p)))]) 5 rfl (Nat.le_of_ble_eq_true rfl) rfl zd_NU_placeDigits_141 ?_
                    refine zw_iinc (lv' := [(5, .int (zI (p + 1))), (4, .int (zI (pw + (-1)))), (7, .int (zI ((-1) - pw))), (6, .int (zI ((bget t p) - 48))), (0, .ref h), (1, .ref ht), (2, .long (zJ (wh)))]) 6 rfl (Nat.le_of_ble_eq_true rfl) rfl zd_NU_placeDigits_144 ?_
                    refine zw_goto 29 zd_NU_placeDigits_147 (by decide) ?_
                    refine zw_sub (L' := [zFr fa (d), zObj h 5 [.ref fa, .int (zI (ng)), .int (zI (db)), .int (zI (de)), .int (zI (wd)), .int (zI (ex)), .int (v), .int (zI (f1))], zBRow ht (t) (nt)]) [0, 2, 1] rfl rfl ?_
                    refine zw_lpick (lv' := [(0, .ref h), (1, .ref ht), (2, .long (zJ (wh))), (4, .int (zI (pw + (-1)))), (5, .int (zI (p + 1)))]) [4, 5, 6, 1, 0] rfl ?_
                    refine zw_widen (k' := 0) (n' := 0) (by omega) (by omega) ?_
                    exact ih (p + 1) _ _ _ _ ⟨by omega, by omega, e7⟩ (by omega)
                  · -- 128 -> 131
                    refine zw_iload 1 rfl zd_NU_placeDigits_131 ?_
                    refine zw_if_eq 141 (by omega) zd_NU_placeDigits_133 (by decide) (fun c133 => ?_) (fun c133 => ?_)
                    · -- 133 -> 141
                      have e7 : plS t db (p + 1) (wd - 1 + ex, 0, (fun _ => 0), ft) = (pw + -1, wh, d, f1) := by rw [plS_snoc (by omega) (by omega) (by omega), i3, plF, if_neg (by omega), if_neg (by omega), if_neg (by omega), if_neg (by omega)]
                      refine zw_iinc (lv' := [(4, .int (zI (pw + (-1)))), (7, .int (zI ((-1) - pw))), (6, .int (zI ((bget t p) - 48))), (0, .ref h), (1, .ref ht), (2, .long (zJ (wh))), (5, .int (zI (p)))]) 5 rfl (Nat.le_of_ble_eq_true rfl) rfl zd_NU_placeDigits_141 ?_
                      refine zw_iinc (lv' := [(5, .int (zI (p + 1))), (4, .int (zI (pw + (-1)))), (7, .int (zI ((-1) - pw))), (6, .int (zI ((bget t p) - 48))), (0, .ref h), (1, .ref ht), (2, .long (zJ (wh)))]) 6 rfl (Nat.le_of_ble_eq_true rfl) rfl zd_NU_placeDigits_144 ?_
                      refine zw_goto 29 zd_NU_placeDigits_147 (by decide) ?_
                      refine zw_sub (L' := [zFr fa (d), zObj h 5 [.ref fa, .int (zI (ng)), .int (zI (db)), .int (zI (de)), .int (zI (wd)), .int (zI (ex)), .int (v), .int (zI (f1))], zBRow ht (t) (nt)]) [0, 2, 1] rfl rfl ?_
                      refine zw_lpick (lv' := [(0, .ref h), (1, .ref ht), (2, .long (zJ (wh))), (4, .int (zI (pw + (-1)))), (5, .int (zI (p + 1)))]) [4, 5, 6, 1, 0] rfl ?_
                      refine zw_widen (k' := 0) (n' := 0) (by omega) (by omega) ?_
                      exact ih (p + 1) _ _ _ _ ⟨by omega, by omega, e7⟩ (by omega)
                    · -- 133 -> 136
                      have e7 : plS t db (p + 1) (wd - 1 + ex, 0, (fun _ => 0), ft) = (pw + -1, wh, d, 0) := by rw [plS_snoc (by omega) (by omega) (by omega), i3, plF, if_neg (by omega), if_neg (by omega), if_neg (by omega), if_pos (by omega)]
                      refine zw_aload_n 2 rfl zd_NU_placeDigits_136 ?_
                      refine zw_iconst zd_NU_placeDigits_137 ?_
                      refine zw_put (L' := [zFr fa (d), zBRow ht (t) (nt), zObj h 5 [.ref fa, .int (zI (ng)), .int (zI (db)), .int (zI (de)), .int (zI (wd)), .int (zI (ex)), .int (v), .int (zI (0))]]) zc_NU 2 7 rfl (by decide) zf_NU_19 rfl rfl rfl (Nat.le_of_ble_eq_true rfl) rfl zd_NU_placeDigits_138 ?_
                      refine zw_iinc (lv' := [(4, .int (zI (pw + (-1)))), (7, .int (zI ((-1) - pw))), (6, .int (zI ((bget t p) - 48))), (0, .ref h), (1, .ref ht), (2, .long (zJ (wh))), (5, .int (zI (p)))]) 5 rfl (Nat.le_of_ble_eq_true rfl) rfl zd_NU_placeDigits_141 ?_
                      refine zw_iinc (lv' := [(5, .int (zI (p + 1))), (4, .int (zI (pw + (-1)))), (7, .int (zI ((-1) - pw))), (6, .int (zI ((bget t p) - 48))), (0, .ref h), (1, .ref ht), (2, .long (zJ (wh)))]) 6 rfl (Nat.le_of_ble_eq_true rfl) rfl zd_NU_placeDigits_144 ?_
                      refine zw_goto 29 zd_NU_placeDigits_147 (by decide) ?_
                      refine zw_sub (L' := [zFr fa (d), zObj h 5 [.ref fa, .int (zI (ng)), .int (zI (db)), .int (zI (de)), .int (zI (wd)), .int (zI (ex)), .int (v), .int (zI (0))], zBRow ht (t) (nt)]) [0, 2, 1] rfl rfl ?_
                      refine zw_lpick (lv' := [(0, .ref h), (1, .ref ht), (2, .long (zJ (wh))), (4, .int (zI (pw + (-1)))), (5, .int (zI (p + 1)))]) [4, 5, 6, 1, 0] rfl ?_
                      refine zw_widen (k' := 0) (n' := 0) (by omega) (by omega) ?_
                      exact ih (p + 1) _ _ _ _ ⟨by omega, by omega, e7⟩ (by omega)
                · -- 107 -> 110
                  have e7 : plS t db (p + 1) (wd - 1 + ex, 0, (fun _ => 0), ft) = (pw + -1, wh + (bget t p - 48) * tenP pw, d, f1) := by rw [plS_snoc (by omega) (by omega) (by omega), i3, plF, if_neg (by omega), if_neg (by omega), if_pos (by omega)]
                  have tb := ten_bd (z := pw) (x := bget t p - 48) (by omega) (by omega)
                  refine zw_lload_n 4 rfl zd_NU_placeDigits_110 ?_
                  refine zw_iload 1 rfl zd_NU_placeDigits_111 ?_
                  refine zw_gets zf_NU_111 zd_NU_placeDigits_113 (fun tt113 htt113 => ?_)
                  refine zw_iload 5 rfl zd_NU_placeDigits_116 ?_
                  refine zw_tald htt113 (by omega) zd_NU_placeDigits_118 ?_
                  refine zw_imul zd_NU_placeDigits_119 ?_
                  refine zw_i2l (by omega) zd_NU_placeDigits_120 ?_
                  refine zw_ladd zd_NU_placeDigits_121 ?_
                  refine zw_lstore_n (lv' := [(2, .long (zJ (wh + (((bget t p) - 48) * (tenP pw))))), (7, .int (zI ((-1) - pw))), (6, .int (zI ((bget t p) - 48))), (0, .ref h), (1, .ref ht), (4, .int (zI (pw))), (5, .int (zI (p)))]) (Nat.le_of_ble_eq_true rfl) rfl zd_NU_placeDigits_122 ?_
                  refine zw_goto 141 zd_NU_placeDigits_123 (by decide) ?_
                  refine zw_iinc (lv' := [(4, .int (zI (pw + (-1)))), (2, .long (zJ (wh + (((bget t p) - 48) * (tenP pw))))), (7, .int (zI ((-1) - pw))), (6, .int (zI ((bget t p) - 48))), (0, .ref h), (1, .ref ht), (5, .int (zI (p)))]) 5 rfl (Nat.le_of_ble_eq_true rfl) rfl zd_NU_placeDigits_141 ?_
                  refine zw_iinc (lv' := [(5, .int (zI (p + 1))), (4, .int (zI (pw + (-1)))), (2, .long (zJ (wh + (((bget t p) - 48) * (tenP pw))))), (7, .int (zI ((-1) - pw))), (6, .int (zI ((bget t p) - 48))), (0, .ref h), (1, .ref ht)]) 6 rfl (Nat.le_of_ble_eq_true rfl) rfl zd_NU_placeDigits_144 ?_
                  refine zw_goto 29 zd_NU_placeDigits_147 (by decide) ?_
                  refine zw_sub (L' := [zFr fa (d), zObj h 5 [.ref fa, .int (zI (ng)), .int (zI (db)), .int (zI (de)), .int (zI (wd)), .int (zI (ex)), .int (v), .int (zI (f1))], zBRow ht (t) (nt)]) [0, 2, 1] rfl rfl ?_
                  refine zw_lpick (lv' := [(0, .ref h), (1, .ref ht), (2, .long (zJ (wh + (((bget t p) - 48) * (tenP pw))))), (4, .int (zI (pw + (-1)))), (5, .int (zI (p + 1)))]) [5, 6, 2, 1, 0] rfl ?_
                  refine zw_widen (k' := 0) (n' := 0) (by omega) (by omega) ?_
                  exact ih (p + 1) _ _ _ _ ⟨by omega, by omega, e7⟩ (by omega)
            · -- 81 -> 84
              have e7 : plS t db (p + 1) (wd - 1 + ex, 0, (fun _ => 0), ft) = (pw + -1, wh, fun j => if j = (-1 - pw).toNat then bget t p - 48 else d j, f1) := by rw [plS_snoc (by omega) (by omega) (by omega), i3, plF, if_neg (by omega), if_pos (by omega)]
              refine zw_unp (fun G ws h => h) (fun g hg => ?_)
              obtain ⟨hg1, hg2⟩ := hg
              simp only [List.cons_append, List.nil_append]
              refine zw_aload_n 2 rfl zd_NU_placeDigits_84 ?_
              refine zw_get zc_NU 2 0 rfl (by decide) zf_NU_11 rfl zd_NU_placeDigits_85 ?_
              refine zw_iload 0 rfl zd_NU_placeDigits_88 ?_
              refine zw_iload 1 rfl zd_NU_placeDigits_90 ?_
              refine zw_astI (L' := [zArI fa (160) (upd g ((-1) - pw).toNat (zI ((bget t p) - 48))), zBRow ht (t) (nt), zObj h 5 [.ref fa, .int (zI (ng)), .int (zI (db)), .int (zI (de)), .int (zI (wd)), .int (zI (ex)), .int (v), .int (zI (f1))]]) 0 rfl (by omega) (by omega) rfl zd_NU_placeDigits_92 ?_
              refine zw_pack (at0 := zFr fa (fun j => if j = (-1 - pw).toNat then bget t p - 48 else d j)) (Ls := [zArI fa (160) (upd g ((-1) - pw).toNat (zI ((bget t p) - 48)))]) (L2 := [zBRow ht (t) (nt), zObj h 5 [.ref fa, .int (zI (ng)), .int (zI (db)), .int (zI (de)), .int (zI (wd)), .int (zI (ex)), .int (v), .int (zI (f1))]]) rfl (fun G w h => ⟨upd g ((-1) - pw).toNat (zI ((bget t p) - 48)), fr_put hg1 hg2 (by omega), h⟩) ?_
              refine zw_goto 141 zd_NU_placeDigits_93 (by decide) ?_
              refine zw_iinc (lv' := [(4, .int (zI (pw + (-1)))), (7, .int (zI ((-1) - pw))), (6, .int (zI ((bget t p) - 48))), (0, .ref h), (1, .ref ht), (2, .long (zJ (wh))), (5, .int (zI (p)))]) 5 rfl (Nat.le_of_ble_eq_true rfl) rfl zd_NU_placeDigits_141 ?_
              refine zw_iinc (lv' := [(5, .int (zI (p + 1))), (4, .int (zI (pw + (-1)))), (7, .int (zI ((-1) - pw))), (6, .int (zI ((bget t p) - 48))), (0, .ref h), (1, .ref ht), (2, .long (zJ (wh)))]) 6 rfl (Nat.le_of_ble_eq_true rfl) rfl zd_NU_placeDigits_144 ?_
              refine zw_goto 29 zd_NU_placeDigits_147 (by decide) ?_
              refine zw_sub (L' := [zFr fa (fun j => if j = (-1 - pw).toNat then bget t p - 48 else d j), zObj h 5 [.ref fa, .int (zI (ng)), .int (zI (db)), .int (zI (de)), .int (zI (wd)), .int (zI (ex)), .int (v), .int (zI (f1))], zBRow ht (t) (nt)]) [0, 2, 1] rfl rfl ?_
              refine zw_lpick (lv' := [(0, .ref h), (1, .ref ht), (2, .long (zJ (wh))), (4, .int (zI (pw + (-1)))), (5, .int (zI (p + 1)))]) [4, 5, 6, 1, 0] rfl ?_
              refine zw_widen (k' := 0) (n' := 0) (by omega) (by omega) ?_
              exact ih (p + 1) _ _ _ _ ⟨by omega, by omega, e7⟩ (by omega)
        · -- 46 -> 49
          have e7 : plS t db (p + 1) (wd - 1 + ex, 0, (fun _ => 0), ft) = (pw, wh, d, f1) := by rw [plS_snoc (by omega) (by omega) (by omega), i3, plF, if_pos (by omega)]
          refine zw_goto 144 zd_NU_placeDigits_49 (by decide) ?_
          refine zw_iinc (lv' := [(5, .int (zI (p + 1))), (0, .ref h), (1, .ref ht), (2, .long (zJ (wh))), (4, .int (zI (pw)))]) 4 rfl (Nat.le_of_ble_eq_true rfl) rfl zd_NU_placeDigits_144 ?_
          refine zw_goto 29 zd_NU_placeDigits_147 (by decide) ?_
          refine zw_sub (L' := [zFr fa (d), zObj h 5 [.ref fa, .int (zI (ng)), .int (zI (db)), .int (zI (de)), .int (zI (wd)), .int (zI (ex)), .int (v), .int (zI (f1))], zBRow ht (t) (nt)]) [1, 2, 0] rfl rfl ?_
          refine zw_lpick (lv' := [(0, .ref h), (1, .ref ht), (2, .long (zJ (wh))), (4, .int (zI (pw))), (5, .int (zI (p + 1)))]) [1, 2, 3, 4, 0] rfl ?_
          refine zw_widen (k' := 0) (n' := 0) (by omega) (by omega) ?_
          exact ih (p + 1) _ _ _ _ ⟨by omega, by omega, e7⟩ (by omega)
  refine zw_aload_n 0 rfl zd_NU_placeDigits_0 ?_
  refine zw_get zc_NU 0 0 rfl (by decide) zf_NU_11 rfl zd_NU_placeDigits_1 ?_
  refine zw_iconst zd_NU_placeDigits_4 ?_
  refine zw_callS (a := 0) (As := [.ref fa, .int (zI (0))]) (rest := []) (L2 := [zObj h 5 [.ref fa, .int (zI (ng)), .int (zI (db)), .int (zI (de)), .int (zI (wd)), .int (zI (ex)), .int (v), .int (zI (ft))], zBRow ht (t) (nt)]) (L' := [zArI fa (160) (fun j => if j < 160 then (zI (0)) else (g) j), zObj h 5 [.ref fa, .int (zI (ng)), .int (zI (db)), .int (zI (de)), .int (zI (wd)), .int (zI (ex)), .int (v), .int (zI (ft))], zBRow ht (t) (nt)]) (stk' := []) (c_AR_fill fa 160 (g) (zI (0)) (by omega)) [2] [0, 1] rfl rfl rfl zcal_AR_fill zl_NU_105 zst_AR_fill (Nat.le_of_ble_eq_true rfl) (Nat.le_of_ble_eq_true rfl) (by omega) (by omega) rfl (Nat.le_of_ble_eq_true rfl) rfl rfl zd_NU_placeDigits_5 ?_
  refine zw_lconst (a := 0) rfl zd_NU_placeDigits_8 ?_
  refine zw_lstore_n (lv' := [(2, .long (zJ (0))), (0, .ref h), (1, .ref ht)]) (Nat.le_of_ble_eq_true rfl) rfl zd_NU_placeDigits_9 ?_
  refine zw_aload_n 1 rfl zd_NU_placeDigits_10 ?_
  refine zw_get zc_NU 1 4 rfl (by decide) zf_NU_46 rfl zd_NU_placeDigits_11 ?_
  refine zw_iconst zd_NU_placeDigits_14 ?_
  refine zw_isub zd_NU_placeDigits_15 ?_
  refine zw_aload_n 1 rfl zd_NU_placeDigits_16 ?_
  refine zw_get zc_NU 1 5 rfl (by decide) zf_NU_87 rfl zd_NU_placeDigits_17 ?_
  refine zw_iadd zd_NU_placeDigits_20 ?_
  refine zw_istore (lv' := [(4, .int (zI ((wd - 1) + ex))), (2, .long (zJ (0))), (0, .ref h), (1, .ref ht)]) (Nat.le_of_ble_eq_true rfl) rfl zd_NU_placeDigits_21 ?_
  refine zw_aload_n 2 rfl zd_NU_placeDigits_23 ?_
  refine zw_get zc_NU 1 2 rfl (by decide) zf_NU_36 rfl zd_NU_placeDigits_24 ?_
  refine zw_istore (lv' := [(5, .int (zI (db))), (4, .int (zI ((wd - 1) + ex))), (2, .long (zJ (0))), (0, .ref h), (1, .ref ht)]) (Nat.le_of_ble_eq_true rfl) rfl zd_NU_placeDigits_27 ?_
  refine zw_pack (at0 := zFr fa (fun _ => 0)) (Ls := [zArI fa (160) (fun j => if j < 160 then (zI (0)) else (g) j)]) (L2 := [zObj h 5 [.ref fa, .int (zI (ng)), .int (zI (db)), .int (zI (de)), .int (zI (wd)), .int (zI (ex)), .int (v), .int (zI (ft))], zBRow ht (t) (nt)]) rfl (fun G w h => ⟨fun j => if j < 160 then (zI (0)) else (g) j, ⟨fun j hj => if_pos hj, fun j hj => ⟨Int.le_refl 0, (show (0 : Int) ≤ 9 by decide)⟩⟩, h⟩) ?_
  refine zw_lpick (lv' := [(0, .ref h), (1, .ref ht), (2, .long (zJ (0))), (4, .int (zI ((wd - 1) + ex))), (5, .int (zI (db)))]) [3, 4, 2, 1, 0] rfl ?_
  refine zw_widen (k' := 0) (n' := 0) (by omega) (by omega) ?_
  exact lp _ db (wd - 1 + ex) 0 (fun _ => 0) ft ⟨by omega, by omega, by rw [plS, slc_nil]; rfl⟩ (Nat.lt_succ_self _)
set_option maxHeartbeats 4000000 in
set_option maxRecDepth 100000 in
theorem c_NU_readReal (h fa : Nat) (g : Nat → Int32) (ng db de wd ex : Int) (v : Int32) (ft : Int) (ht : Nat) (t : List Int) (nt : Nat) (hf : 0 ≤ db ∧ db ≤ de ∧ de ≤ t.length) (hwd : 0 ≤ wd ∧ wd ≤ 70000) (hex : -1000 ≤ ex ∧ ex ≤ 1000) (hdd : ∀ j, db ≤ j → j < de → bget t j = 46 ∨ (48 ≤ bget t j ∧ bget t j ≤ 57)) (hng : 0 ≤ ng ∧ ng ≤ 1) : zCT zy_NU_readReal zm_NU_readReal (0) (0) [.ref h, .ref ht] [zObj h 5 [.ref fa, .int (zI (ng)), .int (zI (db)), .int (zI (de)), .int (zI (wd)), .int (zI (ex)), .int (v), .int (zI (ft))], zBRow ht (t) (nt), zArI fa (160) (g)] (some (.int (zI 2))) [zObj h 5 [.ref fa, .int (zI (ng)), .int (zI (db)), .int (zI (de)), .int (zI (wd)), .int (zI (ex)), .int (zI (wholeV ng (realSum ng (plS t db de (wd - 1 + ex, 0, (fun _ => 0), 1))))), .int (zI (realF ng (plS t db de (wd - 1 + ex, 0, (fun _ => 0), 1))))], zBRow ht (t) (nt), zFr fa ((mulS (plS t db de (wd - 1 + ex, 0, (fun _ => 0), 1)).2.2.1 160).2)] := by
  refine zCT.of [(0, .ref h), (1, .ref ht)] rfl (by decide) rfl (fun h => by first | rfl | cases h) (Nat.le_of_ble_eq_true rfl) (fun X hR => ?_)
  refine zw_fact 1 rfl (fun G w h => zBR_fact h) (fun hbr => ?_)
  obtain ⟨⟨ht1, ht2, ht3⟩, hby⟩ := hbr
  refine zw_aload_n 0 rfl zd_NU_readReal_0 ?_
  refine zw_iconst zd_NU_readReal_1 ?_
  refine zw_put (L' := [zObj h 5 [.ref fa, .int (zI (ng)), .int (zI (db)), .int (zI (de)), .int (zI (wd)), .int (zI (ex)), .int (v), .int (zI (1))], zBRow ht (t) (nt), zArI fa (160) (g)]) zc_NU 0 7 rfl (by decide) zf_NU_19 rfl rfl rfl (Nat.le_of_ble_eq_true rfl) rfl zd_NU_readReal_2 ?_
  refine zw_aload_n 0 rfl zd_NU_readReal_5 ?_
  refine zw_aload_n 1 rfl zd_NU_readReal_6 ?_
  refine zw_callV (As := [.ref ht]) (rest := []) (L2 := []) (L' := [zObj h 5 [.ref fa, .int (zI (ng)), .int (zI (db)), .int (zI (de)), .int (zI (wd)), .int (zI (ex)), .int (v), .int (zI ((plS t db de (wd - 1 + ex, 0, (fun _ => 0), 1)).2.2.2))], zBRow ht (t) (nt), zFr fa ((plS t db de (wd - 1 + ex, 0, (fun _ => 0), 1)).2.2.1)]) (stk' := [.long (zJ ((plS t db de (wd - 1 + ex, 0, (fun _ => 0), 1)).2.1))]) (c_NU_place h fa g ng db de wd ex v 1 ht t nt (by omega) (by omega) (by omega) hdd) [0, 1, 2] [] rfl rfl rfl zcal_NU_placeDigits zl_NU_92 zin_NU_placeDigits zse_NU_placeDigits 0 rfl zRv_obj rfl (Nat.le_of_ble_eq_true rfl) (Nat.le_of_ble_eq_true rfl) (by omega) (by omega) rfl (Nat.le_of_ble_eq_true rfl) rfl rfl zd_NU_readReal_7 ?_
  have pr := plS_rg (t := t) (db := db) (de := de) (wd - 1 + ex) hf.1 hf.2.1 hf.2.2 hdd
  refine zw_lstore_n (lv' := [(2, .long (zJ ((plS t db de (wd - 1 + ex, 0, (fun _ => 0), 1)).2.1))), (0, .ref h), (1, .ref ht)]) (Nat.le_of_ble_eq_true rfl) rfl zd_NU_readReal_10 ?_
  refine zw_lload_n 0 rfl zd_NU_readReal_11 ?_
  refine zw_ldc2 zk_NU_96 65536 rfl zd_NU_readReal_12 ?_
  refine zw_lmul zd_NU_readReal_15 ?_
  refine zw_aload_n 1 rfl zd_NU_readReal_16 ?_
  refine zw_callV (As := []) (rest := [.long (zJ (((plS t db de (wd - 1 + ex, 0, (fun _ => 0), 1)).2.1) * 65536))]) (L2 := [zBRow ht (t) (nt)]) (L' := [zObj h 5 [.ref fa, .int (zI (ng)), .int (zI (db)), .int (zI (de)), .int (zI (wd)), .int (zI (ex)), .int (v), .int (zI ((plS t db de (wd - 1 + ex, 0, (fun _ => 0), 1)).2.2.2))], zFr fa ((mulS ((plS t db de (wd - 1 + ex, 0, (fun _ => 0), 1)).2.2.1) 160).2), zBRow ht (t) (nt)]) (stk' := [.int (zI ((mulS ((plS t db de (wd - 1 + ex, 0, (fun _ => 0), 1)).2.2.1) 160).1)), .long (zJ (((plS t db de (wd - 1 + ex, 0, (fun _ => 0), 1)).2.1) * 65536))]) (c_NU_mul h fa ng db de wd ex v ((plS t db de (wd - 1 + ex, 0, (fun _ => 0), 1)).2.2.2) ((plS t db de (wd - 1 + ex, 0, (fun _ => 0), 1)).2.2.1)) [0, 2] [1] rfl rfl rfl zcal_NU_multiplyFraction zl_NU_98 zin_NU_multiplyFraction zse_NU_multiplyFraction 0 rfl zRv_obj rfl (Nat.le_of_ble_eq_true rfl) (Nat.le_of_ble_eq_true rfl) (by omega) (by omega) rfl (Nat.le_of_ble_eq_true rfl) rfl rfl zd_NU_readReal_17 ?_
  have mr := mulS_rg (d := (plS t db de (wd - 1 + ex, 0, (fun _ => 0), 1)).2.2.1) pr.2.2 160 (by omega)
  refine zw_i2l (by omega) zd_NU_readReal_20 ?_
  refine zw_ladd zd_NU_readReal_21 ?_
  refine zw_lstore (lv' := [(4, .long (zJ ((((plS t db de (wd - 1 + ex, 0, (fun _ => 0), 1)).2.1) * 65536) + ((mulS ((plS t db de (wd - 1 + ex, 0, (fun _ => 0), 1)).2.2.1) 160).1)))), (2, .long (zJ ((plS t db de (wd - 1 + ex, 0, (fun _ => 0), 1)).2.1))), (0, .ref h), (1, .ref ht)]) (Nat.le_of_ble_eq_true rfl) rfl zd_NU_readReal_22 ?_
  refine zw_aload_n 2 rfl zd_NU_readReal_24 ?_
  refine zw_callV (As := []) (rest := []) (L2 := [zBRow ht (t) (nt)]) (L' := [zObj h 5 [.ref fa, .int (zI (ng)), .int (zI (db)), .int (zI (de)), .int (zI (wd)), .int (zI (ex)), .int (v), .int (zI ((plS t db de (wd - 1 + ex, 0, (fun _ => 0), 1)).2.2.2))], zFr fa ((mulS ((plS t db de (wd - 1 + ex, 0, (fun _ => 0), 1)).2.2.1) 160).2), zBRow ht (t) (nt)]) (stk' := [.int (zI (cmpH ((mulS ((plS t db de (wd - 1 + ex, 0, (fun _ => 0), 1)).2.2.1) 160).2)))]) (c_NU_cmp h fa ng db de wd ex v ((plS t db de (wd - 1 + ex, 0, (fun _ => 0), 1)).2.2.2) ((mulS ((plS t db de (wd - 1 + ex, 0, (fun _ => 0), 1)).2.2.1) 160).2)) [0, 1] [2] rfl rfl rfl zcal_NU_compareFractionToHalf zl_NU_102 zin_NU_compareFractionToHalf zse_NU_compareFractionToHalf 0 rfl zRv_obj rfl (Nat.le_of_ble_eq_true rfl) (Nat.le_of_ble_eq_true rfl) (by omega) (by omega) rfl (Nat.le_of_ble_eq_true rfl) rfl rfl zd_NU_readReal_25 ?_
  have cr := cmpH_rg ((mulS ((plS t db de (wd - 1 + ex, 0, (fun _ => 0), 1)).2.2.1) 160).2)
  refine zw_istore (lv' := [(6, .int (zI (cmpH ((mulS ((plS t db de (wd - 1 + ex, 0, (fun _ => 0), 1)).2.2.1) 160).2)))), (4, .long (zJ ((((plS t db de (wd - 1 + ex, 0, (fun _ => 0), 1)).2.1) * 65536) + ((mulS ((plS t db de (wd - 1 + ex, 0, (fun _ => 0), 1)).2.2.1) 160).1)))), (2, .long (zJ ((plS t db de (wd - 1 + ex, 0, (fun _ => 0), 1)).2.1))), (0, .ref h), (1, .ref ht)]) (Nat.le_of_ble_eq_true rfl) rfl zd_NU_readReal_28 ?_
  refine zw_iload 0 rfl zd_NU_readReal_30 ?_
  refine zw_if_gt 47 (by omega) zd_NU_readReal_32 (by decide) (fun c32 => ?_) (fun c32 => ?_)
  · -- 32 -> 47
    refine zw_lload 1 rfl zd_NU_readReal_47 ?_
    refine zw_lconst (a := 1) rfl zd_NU_readReal_49 ?_
    refine zw_ladd zd_NU_readReal_50 ?_
    refine zw_lstore (lv' := [(4, .long (zJ (((((plS t db de (wd - 1 + ex, 0, (fun _ => 0), 1)).2.1) * 65536) + ((mulS ((plS t db de (wd - 1 + ex, 0, (fun _ => 0), 1)).2.2.1) 160).1)) + 1))), (6, .int (zI (cmpH ((mulS ((plS t db de (wd - 1 + ex, 0, (fun _ => 0), 1)).2.2.1) 160).2)))), (2, .long (zJ ((plS t db de (wd - 1 + ex, 0, (fun _ => 0), 1)).2.1))), (0, .ref h), (1, .ref ht)]) (Nat.le_of_ble_eq_true rfl) rfl zd_NU_readReal_51 ?_
    refine zw_aload_n 3 rfl zd_NU_readReal_53 ?_
    refine zw_aload_n 3 rfl zd_NU_readReal_54 ?_
    refine zw_get zc_NU 0 7 rfl (by decide) zf_NU_19 rfl zd_NU_readReal_55 ?_
    refine zw_if_eq 74 (by omega) zd_NU_readReal_58 (by decide) (fun c58 => ?_) (fun c58 => ?_)
    · -- 58 -> 74
      refine zw_iconst zd_NU_readReal_74 ?_
      refine zw_put (L' := [zObj h 5 [.ref fa, .int (zI (ng)), .int (zI (db)), .int (zI (de)), .int (zI (wd)), .int (zI (ex)), .int (v), .int (zI (0))], zFr fa ((mulS ((plS t db de (wd - 1 + ex, 0, (fun _ => 0), 1)).2.2.1) 160).2), zBRow ht (t) (nt)]) zc_NU 0 7 rfl (by decide) zf_NU_19 rfl rfl rfl (Nat.le_of_ble_eq_true rfl) rfl zd_NU_readReal_75 ?_
      refine zw_aload_n 3 rfl zd_NU_readReal_78 ?_
      refine zw_aload_n 3 rfl zd_NU_readReal_79 ?_
      refine zw_get zc_NU 0 1 rfl (by decide) zf_NU_29 rfl zd_NU_readReal_80 ?_
      refine zw_if_eq 92 (by omega) zd_NU_readReal_83 (by decide) (fun c83 => ?_) (fun c83 => ?_)
      · -- 83 -> 92
        refine zw_lload 0 rfl zd_NU_readReal_92 ?_
        refine zw_l2i zd_NU_readReal_94 ?_
        refine zw_put (L' := [zObj h 5 [.ref fa, .int (zI (ng)), .int (zI (db)), .int (zI (de)), .int (zI (wd)), .int (zI (ex)), .int (zI (((((plS t db de (wd - 1 + ex, 0, (fun _ => 0), 1)).2.1) * 65536) + ((mulS ((plS t db de (wd - 1 + ex, 0, (fun _ => 0), 1)).2.2.1) 160).1)) + 1)), .int (zI (0))], zFr fa ((mulS ((plS t db de (wd - 1 + ex, 0, (fun _ => 0), 1)).2.2.1) 160).2), zBRow ht (t) (nt)]) zc_NU 0 6 rfl (by decide) zf_NU_15 rfl rfl rfl (Nat.le_of_ble_eq_true rfl) rfl zd_NU_readReal_95 ?_
        refine zw_iconst zd_NU_readReal_98 ?_
        refine zw_sub (L' := [zObj h 5 [.ref fa, .int (zI (ng)), .int (zI (db)), .int (zI (de)), .int (zI (wd)), .int (zI (ex)), .int (zI (((((plS t db de (wd - 1 + ex, 0, (fun _ => 0), 1)).2.1) * 65536) + ((mulS ((plS t db de (wd - 1 + ex, 0, (fun _ => 0), 1)).2.2.1) 160).1)) + 1)), .int (zI (0))], zBRow ht (t) (nt), zFr fa ((mulS ((plS t db de (wd - 1 + ex, 0, (fun _ => 0), 1)).2.2.1) 160).2)]) [0, 2, 1] rfl rfl ?_
        first | (exfalso; omega) | (have s1 : realSum ng (plS t db de (wd - 1 + ex, 0, (fun _ => 0), 1)) = ((((plS t db de (wd - 1 + ex, 0, (fun _ => 0), 1)).2.1) * 65536) + ((mulS ((plS t db de (wd - 1 + ex, 0, (fun _ => 0), 1)).2.2.1) 160).1)) + 1 := (by unfold realSum; (first | rw [if_pos (by omega)] | rw [if_neg (by omega), Int.add_zero])); exact zw_iret hR rfl (by rw [realF, s1, show wholeV ng (((((plS t db de (wd - 1 + ex, 0, (fun _ => 0), 1)).2.1) * 65536) + ((mulS ((plS t db de (wd - 1 + ex, 0, (fun _ => 0), 1)).2.2.1) 160).1)) + 1) = ((((plS t db de (wd - 1 + ex, 0, (fun _ => 0), 1)).2.1) * 65536) + ((mulS ((plS t db de (wd - 1 + ex, 0, (fun _ => 0), 1)).2.2.1) 160).1)) + 1 by unfold wholeV; split <;> omega]; first | rw [if_pos (by omega)] | rw [if_neg (by omega)]) rfl (by omega) (by omega) zd_NU_readReal_99)
      · -- 83 -> 86
        refine zw_lload 0 rfl zd_NU_readReal_86 ?_
        refine zw_lneg zd_NU_readReal_88 ?_
        refine zw_goto 94 zd_NU_readReal_89 (by decide) ?_
        refine zw_l2i zd_NU_readReal_94 ?_
        refine zw_put (L' := [zObj h 5 [.ref fa, .int (zI (ng)), .int (zI (db)), .int (zI (de)), .int (zI (wd)), .int (zI (ex)), .int (zI (-(((((plS t db de (wd - 1 + ex, 0, (fun _ => 0), 1)).2.1) * 65536) + ((mulS ((plS t db de (wd - 1 + ex, 0, (fun _ => 0), 1)).2.2.1) 160).1)) + 1))), .int (zI (0))], zFr fa ((mulS ((plS t db de (wd - 1 + ex, 0, (fun _ => 0), 1)).2.2.1) 160).2), zBRow ht (t) (nt)]) zc_NU 0 6 rfl (by decide) zf_NU_15 rfl rfl rfl (Nat.le_of_ble_eq_true rfl) rfl zd_NU_readReal_95 ?_
        refine zw_iconst zd_NU_readReal_98 ?_
        refine zw_sub (L' := [zObj h 5 [.ref fa, .int (zI (ng)), .int (zI (db)), .int (zI (de)), .int (zI (wd)), .int (zI (ex)), .int (zI (-(((((plS t db de (wd - 1 + ex, 0, (fun _ => 0), 1)).2.1) * 65536) + ((mulS ((plS t db de (wd - 1 + ex, 0, (fun _ => 0), 1)).2.2.1) 160).1)) + 1))), .int (zI (0))], zBRow ht (t) (nt), zFr fa ((mulS ((plS t db de (wd - 1 + ex, 0, (fun _ => 0), 1)).2.2.1) 160).2)]) [0, 2, 1] rfl rfl ?_
        first | (exfalso; omega) | (have s1 : realSum ng (plS t db de (wd - 1 + ex, 0, (fun _ => 0), 1)) = ((((plS t db de (wd - 1 + ex, 0, (fun _ => 0), 1)).2.1) * 65536) + ((mulS ((plS t db de (wd - 1 + ex, 0, (fun _ => 0), 1)).2.2.1) 160).1)) + 1 := (by unfold realSum; (first | rw [if_pos (by omega)] | rw [if_neg (by omega), Int.add_zero])); exact zw_iret hR rfl (by rw [realF, s1, show wholeV ng (((((plS t db de (wd - 1 + ex, 0, (fun _ => 0), 1)).2.1) * 65536) + ((mulS ((plS t db de (wd - 1 + ex, 0, (fun _ => 0), 1)).2.2.1) 160).1)) + 1) = -(((((plS t db de (wd - 1 + ex, 0, (fun _ => 0), 1)).2.1) * 65536) + ((mulS ((plS t db de (wd - 1 + ex, 0, (fun _ => 0), 1)).2.2.1) 160).1)) + 1) by unfold wholeV; split <;> omega]; first | rw [if_pos (by omega)] | rw [if_neg (by omega)]) rfl (by omega) (by omega) zd_NU_readReal_99)
    · -- 58 -> 61
      refine zw_lload 0 rfl zd_NU_readReal_61 ?_
      refine zw_ldc2 zk_NU_74 2147483648 rfl zd_NU_readReal_63 ?_
      refine zw_lcmpR zd_NU_readReal_66 ?_
      refine zw_lif_ge 74 (by omega) (by omega) zd_NU_readReal_67 (by decide) (fun c67 => ?_) (fun c67 => ?_)
      · -- 67 -> 74
        refine zw_iconst zd_NU_readReal_74 ?_
        refine zw_put (L' := [zObj h 5 [.ref fa, .int (zI (ng)), .int (zI (db)), .int (zI (de)), .int (zI (wd)), .int (zI (ex)), .int (v), .int (zI (0))], zFr fa ((mulS ((plS t db de (wd - 1 + ex, 0, (fun _ => 0), 1)).2.2.1) 160).2), zBRow ht (t) (nt)]) zc_NU 0 7 rfl (by decide) zf_NU_19 rfl rfl rfl (Nat.le_of_ble_eq_true rfl) rfl zd_NU_readReal_75 ?_
        refine zw_aload_n 3 rfl zd_NU_readReal_78 ?_
        refine zw_aload_n 3 rfl zd_NU_readReal_79 ?_
        refine zw_get zc_NU 0 1 rfl (by decide) zf_NU_29 rfl zd_NU_readReal_80 ?_
        refine zw_if_eq 92 (by omega) zd_NU_readReal_83 (by decide) (fun c83 => ?_) (fun c83 => ?_)
        · -- 83 -> 92
          refine zw_lload 0 rfl zd_NU_readReal_92 ?_
          refine zw_l2i zd_NU_readReal_94 ?_
          refine zw_put (L' := [zObj h 5 [.ref fa, .int (zI (ng)), .int (zI (db)), .int (zI (de)), .int (zI (wd)), .int (zI (ex)), .int (zI (((((plS t db de (wd - 1 + ex, 0, (fun _ => 0), 1)).2.1) * 65536) + ((mulS ((plS t db de (wd - 1 + ex, 0, (fun _ => 0), 1)).2.2.1) 160).1)) + 1)), .int (zI (0))], zFr fa ((mulS ((plS t db de (wd - 1 + ex, 0, (fun _ => 0), 1)).2.2.1) 160).2), zBRow ht (t) (nt)]) zc_NU 0 6 rfl (by decide) zf_NU_15 rfl rfl rfl (Nat.le_of_ble_eq_true rfl) rfl zd_NU_readReal_95 ?_
          refine zw_iconst zd_NU_readReal_98 ?_
          refine zw_sub (L' := [zObj h 5 [.ref fa, .int (zI (ng)), .int (zI (db)), .int (zI (de)), .int (zI (wd)), .int (zI (ex)), .int (zI (((((plS t db de (wd - 1 + ex, 0, (fun _ => 0), 1)).2.1) * 65536) + ((mulS ((plS t db de (wd - 1 + ex, 0, (fun _ => 0), 1)).2.2.1) 160).1)) + 1)), .int (zI (0))], zBRow ht (t) (nt), zFr fa ((mulS ((plS t db de (wd - 1 + ex, 0, (fun _ => 0), 1)).2.2.1) 160).2)]) [0, 2, 1] rfl rfl ?_
          first | (exfalso; omega) | (have s1 : realSum ng (plS t db de (wd - 1 + ex, 0, (fun _ => 0), 1)) = ((((plS t db de (wd - 1 + ex, 0, (fun _ => 0), 1)).2.1) * 65536) + ((mulS ((plS t db de (wd - 1 + ex, 0, (fun _ => 0), 1)).2.2.1) 160).1)) + 1 := (by unfold realSum; (first | rw [if_pos (by omega)] | rw [if_neg (by omega), Int.add_zero])); exact zw_iret hR rfl (by rw [realF, s1, show wholeV ng (((((plS t db de (wd - 1 + ex, 0, (fun _ => 0), 1)).2.1) * 65536) + ((mulS ((plS t db de (wd - 1 + ex, 0, (fun _ => 0), 1)).2.2.1) 160).1)) + 1) = ((((plS t db de (wd - 1 + ex, 0, (fun _ => 0), 1)).2.1) * 65536) + ((mulS ((plS t db de (wd - 1 + ex, 0, (fun _ => 0), 1)).2.2.1) 160).1)) + 1 by unfold wholeV; split <;> omega]; first | rw [if_pos (by omega)] | rw [if_neg (by omega)]) rfl (by omega) (by omega) zd_NU_readReal_99)
        · -- 83 -> 86
          refine zw_lload 0 rfl zd_NU_readReal_86 ?_
          refine zw_lneg zd_NU_readReal_88 ?_
          refine zw_goto 94 zd_NU_readReal_89 (by decide) ?_
          refine zw_l2i zd_NU_readReal_94 ?_
          refine zw_put (L' := [zObj h 5 [.ref fa, .int (zI (ng)), .int (zI (db)), .int (zI (de)), .int (zI (wd)), .int (zI (ex)), .int (zI (-(((((plS t db de (wd - 1 + ex, 0, (fun _ => 0), 1)).2.1) * 65536) + ((mulS ((plS t db de (wd - 1 + ex, 0, (fun _ => 0), 1)).2.2.1) 160).1)) + 1))), .int (zI (0))], zFr fa ((mulS ((plS t db de (wd - 1 + ex, 0, (fun _ => 0), 1)).2.2.1) 160).2), zBRow ht (t) (nt)]) zc_NU 0 6 rfl (by decide) zf_NU_15 rfl rfl rfl (Nat.le_of_ble_eq_true rfl) rfl zd_NU_readReal_95 ?_
          refine zw_iconst zd_NU_readReal_98 ?_
          refine zw_sub (L' := [zObj h 5 [.ref fa, .int (zI (ng)), .int (zI (db)), .int (zI (de)), .int (zI (wd)), .int (zI (ex)), .int (zI (-(((((plS t db de (wd - 1 + ex, 0, (fun _ => 0), 1)).2.1) * 65536) + ((mulS ((plS t db de (wd - 1 + ex, 0, (fun _ => 0), 1)).2.2.1) 160).1)) + 1))), .int (zI (0))], zBRow ht (t) (nt), zFr fa ((mulS ((plS t db de (wd - 1 + ex, 0, (fun _ => 0), 1)).2.2.1) 160).2)]) [0, 2, 1] rfl rfl ?_
          first | (exfalso; omega) | (have s1 : realSum ng (plS t db de (wd - 1 + ex, 0, (fun _ => 0), 1)) = ((((plS t db de (wd - 1 + ex, 0, (fun _ => 0), 1)).2.1) * 65536) + ((mulS ((plS t db de (wd - 1 + ex, 0, (fun _ => 0), 1)).2.2.1) 160).1)) + 1 := (by unfold realSum; (first | rw [if_pos (by omega)] | rw [if_neg (by omega), Int.add_zero])); exact zw_iret hR rfl (by rw [realF, s1, show wholeV ng (((((plS t db de (wd - 1 + ex, 0, (fun _ => 0), 1)).2.1) * 65536) + ((mulS ((plS t db de (wd - 1 + ex, 0, (fun _ => 0), 1)).2.2.1) 160).1)) + 1) = -(((((plS t db de (wd - 1 + ex, 0, (fun _ => 0), 1)).2.1) * 65536) + ((mulS ((plS t db de (wd - 1 + ex, 0, (fun _ => 0), 1)).2.2.1) 160).1)) + 1) by unfold wholeV; split <;> omega]; first | rw [if_pos (by omega)] | rw [if_neg (by omega)]) rfl (by omega) (by omega) zd_NU_readReal_99)
      · -- 67 -> 70
        refine zw_iconst zd_NU_readReal_70 ?_
        refine zw_goto 75 zd_NU_readReal_71 (by decide) ?_
        refine zw_put (L' := [zObj h 5 [.ref fa, .int (zI (ng)), .int (zI (db)), .int (zI (de)), .int (zI (wd)), .int (zI (ex)), .int (v), .int (zI (1))], zFr fa ((mulS ((plS t db de (wd - 1 + ex, 0, (fun _ => 0), 1)).2.2.1) 160).2), zBRow ht (t) (nt)]) zc_NU 0 7 rfl (by decide) zf_NU_19 rfl rfl rfl (Nat.le_of_ble_eq_true rfl) rfl zd_NU_readReal_75 ?_
        refine zw_aload_n 3 rfl zd_NU_readReal_78 ?_
        refine zw_aload_n 3 rfl zd_NU_readReal_79 ?_
        refine zw_get zc_NU 0 1 rfl (by decide) zf_NU_29 rfl zd_NU_readReal_80 ?_
        refine zw_if_eq 92 (by omega) zd_NU_readReal_83 (by decide) (fun c83 => ?_) (fun c83 => ?_)
        · -- 83 -> 92
          refine zw_lload 0 rfl zd_NU_readReal_92 ?_
          refine zw_l2i zd_NU_readReal_94 ?_
          refine zw_put (L' := [zObj h 5 [.ref fa, .int (zI (ng)), .int (zI (db)), .int (zI (de)), .int (zI (wd)), .int (zI (ex)), .int (zI (((((plS t db de (wd - 1 + ex, 0, (fun _ => 0), 1)).2.1) * 65536) + ((mulS ((plS t db de (wd - 1 + ex, 0, (fun _ => 0), 1)).2.2.1) 160).1)) + 1)), .int (zI (1))], zFr fa ((mulS ((plS t db de (wd - 1 + ex, 0, (fun _ => 0), 1)).2.2.1) 160).2), zBRow ht (t) (nt)]) zc_NU 0 6 rfl (by decide) zf_NU_15 rfl rfl rfl (Nat.le_of_ble_eq_true rfl) rfl zd_NU_readReal_95 ?_
          refine zw_iconst zd_NU_readReal_98 ?_
          refine zw_sub (L' := [zObj h 5 [.ref fa, .int (zI (ng)), .int (zI (db)), .int (zI (de)), .int (zI (wd)), .int (zI (ex)), .int (zI (((((plS t db de (wd - 1 + ex, 0, (fun _ => 0), 1)).2.1) * 65536) + ((mulS ((plS t db de (wd - 1 + ex, 0, (fun _ => 0), 1)).2.2.1) 160).1)) + 1)), .int (zI (1))], zBRow ht (t) (nt), zFr fa ((mulS ((plS t db de (wd - 1 + ex, 0, (fun _ => 0), 1)).2.2.1) 160).2)]) [0, 2, 1] rfl rfl ?_
          first | (exfalso; omega) | (have s1 : realSum ng (plS t db de (wd - 1 + ex, 0, (fun _ => 0), 1)) = ((((plS t db de (wd - 1 + ex, 0, (fun _ => 0), 1)).2.1) * 65536) + ((mulS ((plS t db de (wd - 1 + ex, 0, (fun _ => 0), 1)).2.2.1) 160).1)) + 1 := (by unfold realSum; (first | rw [if_pos (by omega)] | rw [if_neg (by omega), Int.add_zero])); exact zw_iret hR rfl (by rw [realF, s1, show wholeV ng (((((plS t db de (wd - 1 + ex, 0, (fun _ => 0), 1)).2.1) * 65536) + ((mulS ((plS t db de (wd - 1 + ex, 0, (fun _ => 0), 1)).2.2.1) 160).1)) + 1) = ((((plS t db de (wd - 1 + ex, 0, (fun _ => 0), 1)).2.1) * 65536) + ((mulS ((plS t db de (wd - 1 + ex, 0, (fun _ => 0), 1)).2.2.1) 160).1)) + 1 by unfold wholeV; split <;> omega]; first | rw [if_pos (by omega)] | rw [if_neg (by omega)]) rfl (by omega) (by omega) zd_NU_readReal_99)
        · -- 83 -> 86
          refine zw_lload 0 rfl zd_NU_readReal_86 ?_
          refine zw_lneg zd_NU_readReal_88 ?_
          refine zw_goto 94 zd_NU_readReal_89 (by decide) ?_
          refine zw_l2i zd_NU_readReal_94 ?_
          refine zw_put (L' := [zObj h 5 [.ref fa, .int (zI (ng)), .int (zI (db)), .int (zI (de)), .int (zI (wd)), .int (zI (ex)), .int (zI (-(((((plS t db de (wd - 1 + ex, 0, (fun _ => 0), 1)).2.1) * 65536) + ((mulS ((plS t db de (wd - 1 + ex, 0, (fun _ => 0), 1)).2.2.1) 160).1)) + 1))), .int (zI (1))], zFr fa ((mulS ((plS t db de (wd - 1 + ex, 0, (fun _ => 0), 1)).2.2.1) 160).2), zBRow ht (t) (nt)]) zc_NU 0 6 rfl (by decide) zf_NU_15 rfl rfl rfl (Nat.le_of_ble_eq_true rfl) rfl zd_NU_readReal_95 ?_
          refine zw_iconst zd_NU_readReal_98 ?_
          refine zw_sub (L' := [zObj h 5 [.ref fa, .int (zI (ng)), .int (zI (db)), .int (zI (de)), .int (zI (wd)), .int (zI (ex)), .int (zI (-(((((plS t db de (wd - 1 + ex, 0, (fun _ => 0), 1)).2.1) * 65536) + ((mulS ((plS t db de (wd - 1 + ex, 0, (fun _ => 0), 1)).2.2.1) 160).1)) + 1))), .int (zI (1))], zBRow ht (t) (nt), zFr fa ((mulS ((plS t db de (wd - 1 + ex, 0, (fun _ => 0), 1)).2.2.1) 160).2)]) [0, 2, 1] rfl rfl ?_
          first | (exfalso; omega) | (have s1 : realSum ng (plS t db de (wd - 1 + ex, 0, (fun _ => 0), 1)) = ((((plS t db de (wd - 1 + ex, 0, (fun _ => 0), 1)).2.1) * 65536) + ((mulS ((plS t db de (wd - 1 + ex, 0, (fun _ => 0), 1)).2.2.1) 160).1)) + 1 := (by unfold realSum; (first | rw [if_pos (by omega)] | rw [if_neg (by omega), Int.add_zero])); exact zw_iret hR rfl (by rw [realF, s1, show wholeV ng (((((plS t db de (wd - 1 + ex, 0, (fun _ => 0), 1)).2.1) * 65536) + ((mulS ((plS t db de (wd - 1 + ex, 0, (fun _ => 0), 1)).2.2.1) 160).1)) + 1) = -(((((plS t db de (wd - 1 + ex, 0, (fun _ => 0), 1)).2.1) * 65536) + ((mulS ((plS t db de (wd - 1 + ex, 0, (fun _ => 0), 1)).2.2.1) 160).1)) + 1) by unfold wholeV; split <;> omega]; first | rw [if_pos (by omega)] | rw [if_neg (by omega)]) rfl (by omega) (by omega) zd_NU_readReal_99)
  · -- 32 -> 35
    refine zw_iload 0 rfl zd_NU_readReal_35 ?_
    refine zw_if_ne 53 (by omega) zd_NU_readReal_37 (by decide) (fun c37 => ?_) (fun c37 => ?_)
    · -- 37 -> 53
      refine zw_aload_n 3 rfl zd_NU_readReal_53 ?_
      refine zw_aload_n 3 rfl zd_NU_readReal_54 ?_
      refine zw_get zc_NU 0 7 rfl (by decide) zf_NU_19 rfl zd_NU_readReal_55 ?_
      refine zw_if_eq 74 (by omega) zd_NU_readReal_58 (by decide) (fun c58 => ?_) (fun c58 => ?_)
      · -- 58 -> 74
        refine zw_iconst zd_NU_readReal_74 ?_
        refine zw_put (L' := [zObj h 5 [.ref fa, .int (zI (ng)), .int (zI (db)), .int (zI (de)), .int (zI (wd)), .int (zI (ex)), .int (v), .int (zI (0))], zFr fa ((mulS ((plS t db de (wd - 1 + ex, 0, (fun _ => 0), 1)).2.2.1) 160).2), zBRow ht (t) (nt)]) zc_NU 0 7 rfl (by decide) zf_NU_19 rfl rfl rfl (Nat.le_of_ble_eq_true rfl) rfl zd_NU_readReal_75 ?_
        refine zw_aload_n 3 rfl zd_NU_readReal_78 ?_
        refine zw_aload_n 3 rfl zd_NU_readReal_79 ?_
        refine zw_get zc_NU 0 1 rfl (by decide) zf_NU_29 rfl zd_NU_readReal_80 ?_
        refine zw_if_eq 92 (by omega) zd_NU_readReal_83 (by decide) (fun c83 => ?_) (fun c83 => ?_)
        · -- 83 -> 92
          refine zw_lload 1 rfl zd_NU_readReal_92 ?_
          refine zw_l2i zd_NU_readReal_94 ?_
          refine zw_put (L' := [zObj h 5 [.ref fa, .int (zI (ng)), .int (zI (db)), .int (zI (de)), .int (zI (wd)), .int (zI (ex)), .int (zI ((((plS t db de (wd - 1 + ex, 0, (fun _ => 0), 1)).2.1) * 65536) + ((mulS ((plS t db de (wd - 1 + ex, 0, (fun _ => 0), 1)).2.2.1) 160).1))), .int (zI (0))], zFr fa ((mulS ((plS t db de (wd - 1 + ex, 0, (fun _ => 0), 1)).2.2.1) 160).2), zBRow ht (t) (nt)]) zc_NU 0 6 rfl (by decide) zf_NU_15 rfl rfl rfl (Nat.le_of_ble_eq_true rfl) rfl zd_NU_readReal_95 ?_
          refine zw_iconst zd_NU_readReal_98 ?_
          refine zw_sub (L' := [zObj h 5 [.ref fa, .int (zI (ng)), .int (zI (db)), .int (zI (de)), .int (zI (wd)), .int (zI (ex)), .int (zI ((((plS t db de (wd - 1 + ex, 0, (fun _ => 0), 1)).2.1) * 65536) + ((mulS ((plS t db de (wd - 1 + ex, 0, (fun _ => 0), 1)).2.2.1) 160).1))), .int (zI (0))], zBRow ht (t) (nt), zFr fa ((mulS ((plS t db de (wd - 1 + ex, 0, (fun _ => 0), 1)).2.2.1) 160).2)]) [0, 2, 1] rfl rfl ?_
          first | (exfalso; omega) | (have s1 : realSum ng (plS t db de (wd - 1 + ex, 0, (fun _ => 0), 1)) = (((plS t db de (wd - 1 + ex, 0, (fun _ => 0), 1)).2.1) * 65536) + ((mulS ((plS t db de (wd - 1 + ex, 0, (fun _ => 0), 1)).2.2.1) 160).1) := (by unfold realSum; (first | rw [if_pos (by omega)] | rw [if_neg (by omega), Int.add_zero])); exact zw_iret hR rfl (by rw [realF, s1, show wholeV ng ((((plS t db de (wd - 1 + ex, 0, (fun _ => 0), 1)).2.1) * 65536) + ((mulS ((plS t db de (wd - 1 + ex, 0, (fun _ => 0), 1)).2.2.1) 160).1)) = (((plS t db de (wd - 1 + ex, 0, (fun _ => 0), 1)).2.1) * 65536) + ((mulS ((plS t db de (wd - 1 + ex, 0, (fun _ => 0), 1)).2.2.1) 160).1) by unfold wholeV; split <;> omega]; first | rw [if_pos (by omega)] | rw [if_neg (by omega)]) rfl (by omega) (by omega) zd_NU_readReal_99)
        · -- 83 -> 86
          refine zw_lload 1 rfl zd_NU_readReal_86 ?_
          refine zw_lneg zd_NU_readReal_88 ?_
          refine zw_goto 94 zd_NU_readReal_89 (by decide) ?_
          refine zw_l2i zd_NU_readReal_94 ?_
          refine zw_put (L' := [zObj h 5 [.ref fa, .int (zI (ng)), .int (zI (db)), .int (zI (de)), .int (zI (wd)), .int (zI (ex)), .int (zI (-((((plS t db de (wd - 1 + ex, 0, (fun _ => 0), 1)).2.1) * 65536) + ((mulS ((plS t db de (wd - 1 + ex, 0, (fun _ => 0), 1)).2.2.1) 160).1)))), .int (zI (0))], zFr fa ((mulS ((plS t db de (wd - 1 + ex, 0, (fun _ => 0), 1)).2.2.1) 160).2), zBRow ht (t) (nt)]) zc_NU 0 6 rfl (by decide) zf_NU_15 rfl rfl rfl (Nat.le_of_ble_eq_true rfl) rfl zd_NU_readReal_95 ?_
          refine zw_iconst zd_NU_readReal_98 ?_
          refine zw_sub (L' := [zObj h 5 [.ref fa, .int (zI (ng)), .int (zI (db)), .int (zI (de)), .int (zI (wd)), .int (zI (ex)), .int (zI (-((((plS t db de (wd - 1 + ex, 0, (fun _ => 0), 1)).2.1) * 65536) + ((mulS ((plS t db de (wd - 1 + ex, 0, (fun _ => 0), 1)).2.2.1) 160).1)))), .int (zI (0))], zBRow ht (t) (nt), zFr fa ((mulS ((plS t db de (wd - 1 + ex, 0, (fun _ => 0), 1)).2.2.1) 160).2)]) [0, 2, 1] rfl rfl ?_
          first | (exfalso; omega) | (have s1 : realSum ng (plS t db de (wd - 1 + ex, 0, (fun _ => 0), 1)) = (((plS t db de (wd - 1 + ex, 0, (fun _ => 0), 1)).2.1) * 65536) + ((mulS ((plS t db de (wd - 1 + ex, 0, (fun _ => 0), 1)).2.2.1) 160).1) := (by unfold realSum; (first | rw [if_pos (by omega)] | rw [if_neg (by omega), Int.add_zero])); exact zw_iret hR rfl (by rw [realF, s1, show wholeV ng ((((plS t db de (wd - 1 + ex, 0, (fun _ => 0), 1)).2.1) * 65536) + ((mulS ((plS t db de (wd - 1 + ex, 0, (fun _ => 0), 1)).2.2.1) 160).1)) = -((((plS t db de (wd - 1 + ex, 0, (fun _ => 0), 1)).2.1) * 65536) + ((mulS ((plS t db de (wd - 1 + ex, 0, (fun _ => 0), 1)).2.2.1) 160).1)) by unfold wholeV; split <;> omega]; first | rw [if_pos (by omega)] | rw [if_neg (by omega)]) rfl (by omega) (by omega) zd_NU_readReal_99)
      · -- 58 -> 61
        refine zw_lload 1 rfl zd_NU_readReal_61 ?_
        refine zw_ldc2 zk_NU_74 2147483648 rfl zd_NU_readReal_63 ?_
        refine zw_lcmpR zd_NU_readReal_66 ?_
        refine zw_lif_ge 74 (by omega) (by omega) zd_NU_readReal_67 (by decide) (fun c67 => ?_) (fun c67 => ?_)
        · -- 67 -> 74
          refine zw_iconst zd_NU_readReal_74 ?_
          refine zw_put (L' := [zObj h 5 [.ref fa, .int (zI (ng)), .int (zI (db)), .int (zI (de)), .int (zI (wd)), .int (zI (ex)), .int (v), .int (zI (0))], zFr fa ((mulS ((plS t db de (wd - 1 + ex, 0, (fun _ => 0), 1)).2.2.1) 160).2), zBRow ht (t) (nt)]) zc_NU 0 7 rfl (by decide) zf_NU_19 rfl rfl rfl (Nat.le_of_ble_eq_true rfl) rfl zd_NU_readReal_75 ?_
          refine zw_aload_n 3 rfl zd_NU_readReal_78 ?_
          refine zw_aload_n 3 rfl zd_NU_readReal_79 ?_
          refine zw_get zc_NU 0 1 rfl (by decide) zf_NU_29 rfl zd_NU_readReal_80 ?_
          refine zw_if_eq 92 (by omega) zd_NU_readReal_83 (by decide) (fun c83 => ?_) (fun c83 => ?_)
          · -- 83 -> 92
            refine zw_lload 1 rfl zd_NU_readReal_92 ?_
            refine zw_l2i zd_NU_readReal_94 ?_
            refine zw_put (L' := [zObj h 5 [.ref fa, .int (zI (ng)), .int (zI (db)), .int (zI (de)), .int (zI (wd)), .int (zI (ex)), .int (zI ((((plS t db de (wd - 1 + ex, 0, (fun _ => 0), 1)).2.1) * 65536) + ((mulS ((plS t db de (wd - 1 + ex, 0, (fun _ => 0), 1)).2.2.1) 160).1))), .int (zI (0))], zFr fa ((mulS ((plS t db de (wd - 1 + ex, 0, (fun _ => 0), 1)).2.2.1) 160).2), zBRow ht (t) (nt)]) zc_NU 0 6 rfl (by decide) zf_NU_15 rfl rfl rfl (Nat.le_of_ble_eq_true rfl) rfl zd_NU_readReal_95 ?_
            refine zw_iconst zd_NU_readReal_98 ?_
            refine zw_sub (L' := [zObj h 5 [.ref fa, .int (zI (ng)), .int (zI (db)), .int (zI (de)), .int (zI (wd)), .int (zI (ex)), .int (zI ((((plS t db de (wd - 1 + ex, 0, (fun _ => 0), 1)).2.1) * 65536) + ((mulS ((plS t db de (wd - 1 + ex, 0, (fun _ => 0), 1)).2.2.1) 160).1))), .int (zI (0))], zBRow ht (t) (nt), zFr fa ((mulS ((plS t db de (wd - 1 + ex, 0, (fun _ => 0), 1)).2.2.1) 160).2)]) [0, 2, 1] rfl rfl ?_
            first | (exfalso; omega) | (have s1 : realSum ng (plS t db de (wd - 1 + ex, 0, (fun _ => 0), 1)) = (((plS t db de (wd - 1 + ex, 0, (fun _ => 0), 1)).2.1) * 65536) + ((mulS ((plS t db de (wd - 1 + ex, 0, (fun _ => 0), 1)).2.2.1) 160).1) := (by unfold realSum; (first | rw [if_pos (by omega)] | rw [if_neg (by omega), Int.add_zero])); exact zw_iret hR rfl (by rw [realF, s1, show wholeV ng ((((plS t db de (wd - 1 + ex, 0, (fun _ => 0), 1)).2.1) * 65536) + ((mulS ((plS t db de (wd - 1 + ex, 0, (fun _ => 0), 1)).2.2.1) 160).1)) = (((plS t db de (wd - 1 + ex, 0, (fun _ => 0), 1)).2.1) * 65536) + ((mulS ((plS t db de (wd - 1 + ex, 0, (fun _ => 0), 1)).2.2.1) 160).1) by unfold wholeV; split <;> omega]; first | rw [if_pos (by omega)] | rw [if_neg (by omega)]) rfl (by omega) (by omega) zd_NU_readReal_99)
          · -- 83 -> 86
            refine zw_lload 1 rfl zd_NU_readReal_86 ?_
            refine zw_lneg zd_NU_readReal_88 ?_
            refine zw_goto 94 zd_NU_readReal_89 (by decide) ?_
            refine zw_l2i zd_NU_readReal_94 ?_
            refine zw_put (L' := [zObj h 5 [.ref fa, .int (zI (ng)), .int (zI (db)), .int (zI (de)), .int (zI (wd)), .int (zI (ex)), .int (zI (-((((plS t db de (wd - 1 + ex, 0, (fun _ => 0), 1)).2.1) * 65536) + ((mulS ((plS t db de (wd - 1 + ex, 0, (fun _ => 0), 1)).2.2.1) 160).1)))), .int (zI (0))], zFr fa ((mulS ((plS t db de (wd - 1 + ex, 0, (fun _ => 0), 1)).2.2.1) 160).2), zBRow ht (t) (nt)]) zc_NU 0 6 rfl (by decide) zf_NU_15 rfl rfl rfl (Nat.le_of_ble_eq_true rfl) rfl zd_NU_readReal_95 ?_
            refine zw_iconst zd_NU_readReal_98 ?_
            refine zw_sub (L' := [zObj h 5 [.ref fa, .int (zI (ng)), .int (zI (db)), .int (zI (de)), .int (zI (wd)), .int (zI (ex)), .int (zI (-((((plS t db de (wd - 1 + ex, 0, (fun _ => 0), 1)).2.1) * 65536) + ((mulS ((plS t db de (wd - 1 + ex, 0, (fun _ => 0), 1)).2.2.1) 160).1)))), .int (zI (0))], zBRow ht (t) (nt), zFr fa ((mulS ((plS t db de (wd - 1 + ex, 0, (fun _ => 0), 1)).2.2.1) 160).2)]) [0, 2, 1] rfl rfl ?_
            first | (exfalso; omega) | (have s1 : realSum ng (plS t db de (wd - 1 + ex, 0, (fun _ => 0), 1)) = (((plS t db de (wd - 1 + ex, 0, (fun _ => 0), 1)).2.1) * 65536) + ((mulS ((plS t db de (wd - 1 + ex, 0, (fun _ => 0), 1)).2.2.1) 160).1) := (by unfold realSum; (first | rw [if_pos (by omega)] | rw [if_neg (by omega), Int.add_zero])); exact zw_iret hR rfl (by rw [realF, s1, show wholeV ng ((((plS t db de (wd - 1 + ex, 0, (fun _ => 0), 1)).2.1) * 65536) + ((mulS ((plS t db de (wd - 1 + ex, 0, (fun _ => 0), 1)).2.2.1) 160).1)) = -((((plS t db de (wd - 1 + ex, 0, (fun _ => 0), 1)).2.1) * 65536) + ((mulS ((plS t db de (wd - 1 + ex, 0, (fun _ => 0), 1)).2.2.1) 160).1)) by unfold wholeV; split <;> omega]; first | rw [if_pos (by omega)] | rw [if_neg (by omega)]) rfl (by omega) (by omega) zd_NU_readReal_99)
        · -- 67 -> 70
          refine zw_iconst zd_NU_readReal_70 ?_
          refine zw_goto 75 zd_NU_readReal_71 (by decide) ?_
          refine zw_put (L' := [zObj h 5 [.ref fa, .int (zI (ng)), .int (zI (db)), .int (zI (de)), .int (zI (wd)), .int (zI (ex)), .int (v), .int (zI (1))], zFr fa ((mulS ((plS t db de (wd - 1 + ex, 0, (fun _ => 0), 1)).2.2.1) 160).2), zBRow ht (t) (nt)]) zc_NU 0 7 rfl (by decide) zf_NU_19 rfl rfl rfl (Nat.le_of_ble_eq_true rfl) rfl zd_NU_readReal_75 ?_
          refine zw_aload_n 3 rfl zd_NU_readReal_78 ?_
          refine zw_aload_n 3 rfl zd_NU_readReal_79 ?_
          refine zw_get zc_NU 0 1 rfl (by decide) zf_NU_29 rfl zd_NU_readReal_80 ?_
          refine zw_if_eq 92 (by omega) zd_NU_readReal_83 (by decide) (fun c83 => ?_) (fun c83 => ?_)
          · -- 83 -> 92
            refine zw_lload 1 rfl zd_NU_readReal_92 ?_
            refine zw_l2i zd_NU_readReal_94 ?_
            refine zw_put (L' := [zObj h 5 [.ref fa, .int (zI (ng)), .int (zI (db)), .int (zI (de)), .int (zI (wd)), .int (zI (ex)), .int (zI ((((plS t db de (wd - 1 + ex, 0, (fun _ => 0), 1)).2.1) * 65536) + ((mulS ((plS t db de (wd - 1 + ex, 0, (fun _ => 0), 1)).2.2.1) 160).1))), .int (zI (1))], zFr fa ((mulS ((plS t db de (wd - 1 + ex, 0, (fun _ => 0), 1)).2.2.1) 160).2), zBRow ht (t) (nt)]) zc_NU 0 6 rfl (by decide) zf_NU_15 rfl rfl rfl (Nat.le_of_ble_eq_true rfl) rfl zd_NU_readReal_95 ?_
            refine zw_iconst zd_NU_readReal_98 ?_
            refine zw_sub (L' := [zObj h 5 [.ref fa, .int (zI (ng)), .int (zI (db)), .int (zI (de)), .int (zI (wd)), .int (zI (ex)), .int (zI ((((plS t db de (wd - 1 + ex, 0, (fun _ => 0), 1)).2.1) * 65536) + ((mulS ((plS t db de (wd - 1 + ex, 0, (fun _ => 0), 1)).2.2.1) 160).1))), .int (zI (1))], zBRow ht (t) (nt), zFr fa ((mulS ((plS t db de (wd - 1 + ex, 0, (fun _ => 0), 1)).2.2.1) 160).2)]) [0, 2, 1] rfl rfl ?_
            first | (exfalso; omega) | (have s1 : realSum ng (plS t db de (wd - 1 + ex, 0, (fun _ => 0), 1)) = (((plS t db de (wd - 1 + ex, 0, (fun _ => 0), 1)).2.1) * 65536) + ((mulS ((plS t db de (wd - 1 + ex, 0, (fun _ => 0), 1)).2.2.1) 160).1) := (by unfold realSum; (first | rw [if_pos (by omega)] | rw [if_neg (by omega), Int.add_zero])); exact zw_iret hR rfl (by rw [realF, s1, show wholeV ng ((((plS t db de (wd - 1 + ex, 0, (fun _ => 0), 1)).2.1) * 65536) + ((mulS ((plS t db de (wd - 1 + ex, 0, (fun _ => 0), 1)).2.2.1) 160).1)) = (((plS t db de (wd - 1 + ex, 0, (fun _ => 0), 1)).2.1) * 65536) + ((mulS ((plS t db de (wd - 1 + ex, 0, (fun _ => 0), 1)).2.2.1) 160).1) by unfold wholeV; split <;> omega]; first | rw [if_pos (by omega)] | rw [if_neg (by omega)]) rfl (by omega) (by omega) zd_NU_readReal_99)
          · -- 83 -> 86
            refine zw_lload 1 rfl zd_NU_readReal_86 ?_
            refine zw_lneg zd_NU_readReal_88 ?_
            refine zw_goto 94 zd_NU_readReal_89 (by decide) ?_
            refine zw_l2i zd_NU_readReal_94 ?_
            refine zw_put (L' := [zObj h 5 [.ref fa, .int (zI (ng)), .int (zI (db)), .int (zI (de)), .int (zI (wd)), .int (zI (ex)), .int (zI (-((((plS t db de (wd - 1 + ex, 0, (fun _ => 0), 1)).2.1) * 65536) + ((mulS ((plS t db de (wd - 1 + ex, 0, (fun _ => 0), 1)).2.2.1) 160).1)))), .int (zI (1))], zFr fa ((mulS ((plS t db de (wd - 1 + ex, 0, (fun _ => 0), 1)).2.2.1) 160).2), zBRow ht (t) (nt)]) zc_NU 0 6 rfl (by decide) zf_NU_15 rfl rfl rfl (Nat.le_of_ble_eq_true rfl) rfl zd_NU_readReal_95 ?_
            refine zw_iconst zd_NU_readReal_98 ?_
            refine zw_sub (L' := [zObj h 5 [.ref fa, .int (zI (ng)), .int (zI (db)), .int (zI (de)), .int (zI (wd)), .int (zI (ex)), .int (zI (-((((plS t db de (wd - 1 + ex, 0, (fun _ => 0), 1)).2.1) * 65536) + ((mulS ((plS t db de (wd - 1 + ex, 0, (fun _ => 0), 1)).2.2.1) 160).1)))), .int (zI (1))], zBRow ht (t) (nt), zFr fa ((mulS ((plS t db de (wd - 1 + ex, 0, (fun _ => 0), 1)).2.2.1) 160).2)]) [0, 2, 1] rfl rfl ?_
            first | (exfalso; omega) | (have s1 : realSum ng (plS t db de (wd - 1 + ex, 0, (fun _ => 0), 1)) = (((plS t db de (wd - 1 + ex, 0, (fun _ => 0), 1)).2.1) * 65536) + ((mulS ((plS t db de (wd - 1 + ex, 0, (fun _ => 0), 1)).2.2.1) 160).1) := (by unfold realSum; (first | rw [if_pos (by omega)] | rw [if_neg (by omega), Int.add_zero])); exact zw_iret hR rfl (by rw [realF, s1, show wholeV ng ((((plS t db de (wd - 1 + ex, 0, (fun _ => 0), 1)).2.1) * 65536) + ((mulS ((plS t db de (wd - 1 + ex, 0, (fun _ => 0), 1)).2.2.1) 160).1)) = -((((plS t db de (wd - 1 + ex, 0, (fun _ => 0), 1)).2.1) * 65536) + ((mulS ((plS t db de (wd - 1 + ex, 0, (fun _ => 0), 1)).2.2.1) 160).1)) by unfold wholeV; split <;> omega]; first | rw [if_pos (by omega)] | rw [if_neg (by omega)]) rfl (by omega) (by omega) zd_NU_readReal_99)
    · -- 37 -> 40
      refine zw_aload_n 3 rfl zd_NU_readReal_40 ?_
      refine zw_get zc_NU 0 1 rfl (by decide) zf_NU_29 rfl zd_NU_readReal_41 ?_
      refine zw_if_ne 53 (by omega) zd_NU_readReal_44 (by decide) (fun c44 => ?_) (fun c44 => ?_)
      · -- 44 -> 53
        refine zw_aload_n 3 rfl zd_NU_readReal_53 ?_
        refine zw_aload_n 3 rfl zd_NU_readReal_54 ?_
        refine zw_get zc_NU 0 7 rfl (by decide) zf_NU_19 rfl zd_NU_readReal_55 ?_
        refine zw_if_eq 74 (by omega) zd_NU_readReal_58 (by decide) (fun c58 => ?_) (fun c58 => ?_)
        · -- 58 -> 74
          refine zw_iconst zd_NU_readReal_74 ?_
          refine zw_put (L' := [zObj h 5 [.ref fa, .int (zI (ng)), .int (zI (db)), .int (zI (de)), .int (zI (wd)), .int (zI (ex)), .int (v), .int (zI (0))], zFr fa ((mulS ((plS t db de (wd - 1 + ex, 0, (fun _ => 0), 1)).2.2.1) 160).2), zBRow ht (t) (nt)]) zc_NU 0 7 rfl (by decide) zf_NU_19 rfl rfl rfl (Nat.le_of_ble_eq_true rfl) rfl zd_NU_readReal_75 ?_
          refine zw_aload_n 3 rfl zd_NU_readReal_78 ?_
          refine zw_aload_n 3 rfl zd_NU_readReal_79 ?_
          refine zw_get zc_NU 0 1 rfl (by decide) zf_NU_29 rfl zd_NU_readReal_80 ?_
          refine zw_if_eq 92 (by omega) zd_NU_readReal_83 (by decide) (fun c83 => ?_) (fun c83 => ?_)
          · -- 83 -> 92
            refine zw_lload 1 rfl zd_NU_readReal_92 ?_
            refine zw_l2i zd_NU_readReal_94 ?_
            refine zw_put (L' := [zObj h 5 [.ref fa, .int (zI (ng)), .int (zI (db)), .int (zI (de)), .int (zI (wd)), .int (zI (ex)), .int (zI ((((plS t db de (wd - 1 + ex, 0, (fun _ => 0), 1)).2.1) * 65536) + ((mulS ((plS t db de (wd - 1 + ex, 0, (fun _ => 0), 1)).2.2.1) 160).1))), .int (zI (0))], zFr fa ((mulS ((plS t db de (wd - 1 + ex, 0, (fun _ => 0), 1)).2.2.1) 160).2), zBRow ht (t) (nt)]) zc_NU 0 6 rfl (by decide) zf_NU_15 rfl rfl rfl (Nat.le_of_ble_eq_true rfl) rfl zd_NU_readReal_95 ?_
            refine zw_iconst zd_NU_readReal_98 ?_
            refine zw_sub (L' := [zObj h 5 [.ref fa, .int (zI (ng)), .int (zI (db)), .int (zI (de)), .int (zI (wd)), .int (zI (ex)), .int (zI ((((plS t db de (wd - 1 + ex, 0, (fun _ => 0), 1)).2.1) * 65536) + ((mulS ((plS t db de (wd - 1 + ex, 0, (fun _ => 0), 1)).2.2.1) 160).1))), .int (zI (0))], zBRow ht (t) (nt), zFr fa ((mulS ((plS t db de (wd - 1 + ex, 0, (fun _ => 0), 1)).2.2.1) 160).2)]) [0, 2, 1] rfl rfl ?_
            first | (exfalso; omega) | (have s1 : realSum ng (plS t db de (wd - 1 + ex, 0, (fun _ => 0), 1)) = (((plS t db de (wd - 1 + ex, 0, (fun _ => 0), 1)).2.1) * 65536) + ((mulS ((plS t db de (wd - 1 + ex, 0, (fun _ => 0), 1)).2.2.1) 160).1) := (by unfold realSum; (first | rw [if_pos (by omega)] | rw [if_neg (by omega), Int.add_zero])); exact zw_iret hR rfl (by rw [realF, s1, show wholeV ng ((((plS t db de (wd - 1 + ex, 0, (fun _ => 0), 1)).2.1) * 65536) + ((mulS ((plS t db de (wd - 1 + ex, 0, (fun _ => 0), 1)).2.2.1) 160).1)) = (((plS t db de (wd - 1 + ex, 0, (fun _ => 0), 1)).2.1) * 65536) + ((mulS ((plS t db de (wd - 1 + ex, 0, (fun _ => 0), 1)).2.2.1) 160).1) by unfold wholeV; split <;> omega]; first | rw [if_pos (by omega)] | rw [if_neg (by omega)]) rfl (by omega) (by omega) zd_NU_readReal_99)
          · -- 83 -> 86
            refine zw_lload 1 rfl zd_NU_readReal_86 ?_
            refine zw_lneg zd_NU_readReal_88 ?_
            refine zw_goto 94 zd_NU_readReal_89 (by decide) ?_
            refine zw_l2i zd_NU_readReal_94 ?_
            refine zw_put (L' := [zObj h 5 [.ref fa, .int (zI (ng)), .int (zI (db)), .int (zI (de)), .int (zI (wd)), .int (zI (ex)), .int (zI (-((((plS t db de (wd - 1 + ex, 0, (fun _ => 0), 1)).2.1) * 65536) + ((mulS ((plS t db de (wd - 1 + ex, 0, (fun _ => 0), 1)).2.2.1) 160).1)))), .int (zI (0))], zFr fa ((mulS ((plS t db de (wd - 1 + ex, 0, (fun _ => 0), 1)).2.2.1) 160).2), zBRow ht (t) (nt)]) zc_NU 0 6 rfl (by decide) zf_NU_15 rfl rfl rfl (Nat.le_of_ble_eq_true rfl) rfl zd_NU_readReal_95 ?_
            refine zw_iconst zd_NU_readReal_98 ?_
            refine zw_sub (L' := [zObj h 5 [.ref fa, .int (zI (ng)), .int (zI (db)), .int (zI (de)), .int (zI (wd)), .int (zI (ex)), .int (zI (-((((plS t db de (wd - 1 + ex, 0, (fun _ => 0), 1)).2.1) * 65536) + ((mulS ((plS t db de (wd - 1 + ex, 0, (fun _ => 0), 1)).2.2.1) 160).1)))), .int (zI (0))], zBRow ht (t) (nt), zFr fa ((mulS ((plS t db de (wd - 1 + ex, 0, (fun _ => 0), 1)).2.2.1) 160).2)]) [0, 2, 1] rfl rfl ?_
            first | (exfalso; omega) | (have s1 : realSum ng (plS t db de (wd - 1 + ex, 0, (fun _ => 0), 1)) = (((plS t db de (wd - 1 + ex, 0, (fun _ => 0), 1)).2.1) * 65536) + ((mulS ((plS t db de (wd - 1 + ex, 0, (fun _ => 0), 1)).2.2.1) 160).1) := (by unfold realSum; (first | rw [if_pos (by omega)] | rw [if_neg (by omega), Int.add_zero])); exact zw_iret hR rfl (by rw [realF, s1, show wholeV ng ((((plS t db de (wd - 1 + ex, 0, (fun _ => 0), 1)).2.1) * 65536) + ((mulS ((plS t db de (wd - 1 + ex, 0, (fun _ => 0), 1)).2.2.1) 160).1)) = -((((plS t db de (wd - 1 + ex, 0, (fun _ => 0), 1)).2.1) * 65536) + ((mulS ((plS t db de (wd - 1 + ex, 0, (fun _ => 0), 1)).2.2.1) 160).1)) by unfold wholeV; split <;> omega]; first | rw [if_pos (by omega)] | rw [if_neg (by omega)]) rfl (by omega) (by omega) zd_NU_readReal_99)
        · -- 58 -> 61
          refine zw_lload 1 rfl zd_NU_readReal_61 ?_
          refine zw_ldc2 zk_NU_74 2147483648 rfl zd_NU_readReal_63 ?_
          refine zw_lcmpR zd_NU_readReal_66 ?_
          refine zw_lif_ge 74 (by omega) (by omega) zd_NU_readReal_67 (by decide) (fun c67 => ?_) (fun c67 => ?_)
          · -- 67 -> 74
            refine zw_iconst zd_NU_readReal_74 ?_
            refine zw_put (L' := [zObj h 5 [.ref fa, .int (zI (ng)), .int (zI (db)), .int (zI (de)), .int (zI (wd)), .int (zI (ex)), .int (v), .int (zI (0))], zFr fa ((mulS ((plS t db de (wd - 1 + ex, 0, (fun _ => 0), 1)).2.2.1) 160).2), zBRow ht (t) (nt)]) zc_NU 0 7 rfl (by decide) zf_NU_19 rfl rfl rfl (Nat.le_of_ble_eq_true rfl) rfl zd_NU_readReal_75 ?_
            refine zw_aload_n 3 rfl zd_NU_readReal_78 ?_
            refine zw_aload_n 3 rfl zd_NU_readReal_79 ?_
            refine zw_get zc_NU 0 1 rfl (by decide) zf_NU_29 rfl zd_NU_readReal_80 ?_
            refine zw_if_eq 92 (by omega) zd_NU_readReal_83 (by decide) (fun c83 => ?_) (fun c83 => ?_)
            · -- 83 -> 92
              refine zw_lload 1 rfl zd_NU_readReal_92 ?_
              refine zw_l2i zd_NU_readReal_94 ?_
              refine zw_put (L' := [zObj h 5 [.ref fa, .int (zI (ng)), .int (zI (db)), .int (zI (de)), .int (zI (wd)), .int (zI (ex)), .int (zI ((((plS t db de (wd - 1 + ex, 0, (fun _ => 0), 1)).2.1) * 65536) + ((mulS ((plS t db de (wd - 1 + ex, 0, (fun _ => 0), 1)).2.2.1) 160).1))), .int (zI (0))], zFr fa ((mulS ((plS t db de (wd - 1 + ex, 0, (fun _ => 0), 1)).2.2.1) 160).2), zBRow ht (t) (nt)]) zc_NU 0 6 rfl (by decide) zf_NU_15 rfl rfl rfl (Nat.le_of_ble_eq_true rfl) rfl zd_NU_readReal_95 ?_
              refine zw_iconst zd_NU_readReal_98 ?_
              refine zw_sub (L' := [zObj h 5 [.ref fa, .int (zI (ng)), .int (zI (db)), .int (zI (de)), .int (zI (wd)), .int (zI (ex)), .int (zI ((((plS t db de (wd - 1 + ex, 0, (fun _ => 0), 1)).2.1) * 65536) + ((mulS ((plS t db de (wd - 1 + ex, 0, (fun _ => 0), 1)).2.2.1) 160).1))), .int (zI (0))], zBRow ht (t) (nt), zFr fa ((mulS ((plS t db de (wd - 1 + ex, 0, (fun _ => 0), 1)).2.2.1) 160).2)]) [0, 2, 1] rfl rfl ?_
              first | (exfalso; omega) | (have s1 : realSum ng (plS t db de (wd - 1 + ex, 0, (fun _ => 0), 1)) = (((plS t db de (wd - 1 + ex, 0, (fun _ => 0), 1)).2.1) * 65536) + ((mulS ((plS t db de (wd - 1 + ex, 0, (fun _ => 0), 1)).2.2.1) 160).1) := (by unfold realSum; (first | rw [if_pos (by omega)] | rw [if_neg (by omega), Int.add_zero])); exact zw_iret hR rfl (by rw [realF, s1, show wholeV ng ((((plS t db de (wd - 1 + ex, 0, (fun _ => 0), 1)).2.1) * 65536) + ((mulS ((plS t db de (wd - 1 + ex, 0, (fun _ => 0), 1)).2.2.1) 160).1)) = (((plS t db de (wd - 1 + ex, 0, (fun _ => 0), 1)).2.1) * 65536) + ((mulS ((plS t db de (wd - 1 + ex, 0, (fun _ => 0), 1)).2.2.1) 160).1) by unfold wholeV; split <;> omega]; first | rw [if_pos (by omega)] | rw [if_neg (by omega)]) rfl (by omega) (by omega) zd_NU_readReal_99)
            · -- 83 -> 86
              refine zw_lload 1 rfl zd_NU_readReal_86 ?_
              refine zw_lneg zd_NU_readReal_88 ?_
              refine zw_goto 94 zd_NU_readReal_89 (by decide) ?_
              refine zw_l2i zd_NU_readReal_94 ?_
              refine zw_put (L' := [zObj h 5 [.ref fa, .int (zI (ng)), .int (zI (db)), .int (zI (de)), .int (zI (wd)), .int (zI (ex)), .int (zI (-((((plS t db de (wd - 1 + ex, 0, (fun _ => 0), 1)).2.1) * 65536) + ((mulS ((plS t db de (wd - 1 + ex, 0, (fun _ => 0), 1)).2.2.1) 160).1)))), .int (zI (0))], zFr fa ((mulS ((plS t db de (wd - 1 + ex, 0, (fun _ => 0), 1)).2.2.1) 160).2), zBRow ht (t) (nt)]) zc_NU 0 6 rfl (by decide) zf_NU_15 rfl rfl rfl (Nat.le_of_ble_eq_true rfl) rfl zd_NU_readReal_95 ?_
              refine zw_iconst zd_NU_readReal_98 ?_
              refine zw_sub (L' := [zObj h 5 [.ref fa, .int (zI (ng)), .int (zI (db)), .int (zI (de)), .int (zI (wd)), .int (zI (ex)), .int (zI (-((((plS t db de (wd - 1 + ex, 0, (fun _ => 0), 1)).2.1) * 65536) + ((mulS ((plS t db de (wd - 1 + ex, 0, (fun _ => 0), 1)).2.2.1) 160).1)))), .int (zI (0))], zBRow ht (t) (nt), zFr fa ((mulS ((plS t db de (wd - 1 + ex, 0, (fun _ => 0), 1)).2.2.1) 160).2)]) [0, 2, 1] rfl rfl ?_
              first | (exfalso; omega) | (have s1 : realSum ng (plS t db de (wd - 1 + ex, 0, (fun _ => 0), 1)) = (((plS t db de (wd - 1 + ex, 0, (fun _ => 0), 1)).2.1) * 65536) + ((mulS ((plS t db de (wd - 1 + ex, 0, (fun _ => 0), 1)).2.2.1) 160).1) := (by unfold realSum; (first | rw [if_pos (by omega)] | rw [if_neg (by omega), Int.add_zero])); exact zw_iret hR rfl (by rw [realF, s1, show wholeV ng ((((plS t db de (wd - 1 + ex, 0, (fun _ => 0), 1)).2.1) * 65536) + ((mulS ((plS t db de (wd - 1 + ex, 0, (fun _ => 0), 1)).2.2.1) 160).1)) = -((((plS t db de (wd - 1 + ex, 0, (fun _ => 0), 1)).2.1) * 65536) + ((mulS ((plS t db de (wd - 1 + ex, 0, (fun _ => 0), 1)).2.2.1) 160).1)) by unfold wholeV; split <;> omega]; first | rw [if_pos (by omega)] | rw [if_neg (by omega)]) rfl (by omega) (by omega) zd_NU_readReal_99)
          · -- 67 -> 70
            refine zw_iconst zd_NU_readReal_70 ?_
            refine zw_goto 75 zd_NU_readReal_71 (by decide) ?_
            refine zw_put (L' := [zObj h 5 [.ref fa, .int (zI (ng)), .int (zI (db)), .int (zI (de)), .int (zI (wd)), .int (zI (ex)), .int (v), .int (zI (1))], zFr fa ((mulS ((plS t db de (wd - 1 + ex, 0, (fun _ => 0), 1)).2.2.1) 160).2), zBRow ht (t) (nt)]) zc_NU 0 7 rfl (by decide) zf_NU_19 rfl rfl rfl (Nat.le_of_ble_eq_true rfl) rfl zd_NU_readReal_75 ?_
            refine zw_aload_n 3 rfl zd_NU_readReal_78 ?_
            refine zw_aload_n 3 rfl zd_NU_readReal_79 ?_
            refine zw_get zc_NU 0 1 rfl (by decide) zf_NU_29 rfl zd_NU_readReal_80 ?_
            refine zw_if_eq 92 (by omega) zd_NU_readReal_83 (by decide) (fun c83 => ?_) (fun c83 => ?_)
            · -- 83 -> 92
              refine zw_lload 1 rfl zd_NU_readReal_92 ?_
              refine zw_l2i zd_NU_readReal_94 ?_
              refine zw_put (L' := [zObj h 5 [.ref fa, .int (zI (ng)), .int (zI (db)), .int (zI (de)), .int (zI (wd)), .int (zI (ex)), .int (zI ((((plS t db de (wd - 1 + ex, 0, (fun _ => 0), 1)).2.1) * 65536) + ((mulS ((plS t db de (wd - 1 + ex, 0, (fun _ => 0), 1)).2.2.1) 160).1))), .int (zI (1))], zFr fa ((mulS ((plS t db de (wd - 1 + ex, 0, (fun _ => 0), 1)).2.2.1) 160).2), zBRow ht (t) (nt)]) zc_NU 0 6 rfl (by decide) zf_NU_15 rfl rfl rfl (Nat.le_of_ble_eq_true rfl) rfl zd_NU_readReal_95 ?_
              refine zw_iconst zd_NU_readReal_98 ?_
              refine zw_sub (L' := [zObj h 5 [.ref fa, .int (zI (ng)), .int (zI (db)), .int (zI (de)), .int (zI (wd)), .int (zI (ex)), .int (zI ((((plS t db de (wd - 1 + ex, 0, (fun _ => 0), 1)).2.1) * 65536) + ((mulS ((plS t db de (wd - 1 + ex, 0, (fun _ => 0), 1)).2.2.1) 160).1))), .int (zI (1))], zBRow ht (t) (nt), zFr fa ((mulS ((plS t db de (wd - 1 + ex, 0, (fun _ => 0), 1)).2.2.1) 160).2)]) [0, 2, 1] rfl rfl ?_
              first | (exfalso; omega) | (have s1 : realSum ng (plS t db de (wd - 1 + ex, 0, (fun _ => 0), 1)) = (((plS t db de (wd - 1 + ex, 0, (fun _ => 0), 1)).2.1) * 65536) + ((mulS ((plS t db de (wd - 1 + ex, 0, (fun _ => 0), 1)).2.2.1) 160).1) := (by unfold realSum; (first | rw [if_pos (by omega)] | rw [if_neg (by omega), Int.add_zero])); exact zw_iret hR rfl (by rw [realF, s1, show wholeV ng ((((plS t db de (wd - 1 + ex, 0, (fun _ => 0), 1)).2.1) * 65536) + ((mulS ((plS t db de (wd - 1 + ex, 0, (fun _ => 0), 1)).2.2.1) 160).1)) = (((plS t db de (wd - 1 + ex, 0, (fun _ => 0), 1)).2.1) * 65536) + ((mulS ((plS t db de (wd - 1 + ex, 0, (fun _ => 0), 1)).2.2.1) 160).1) by unfold wholeV; split <;> omega]; first | rw [if_pos (by omega)] | rw [if_neg (by omega)]) rfl (by omega) (by omega) zd_NU_readReal_99)
            · -- 83 -> 86
              refine zw_lload 1 rfl zd_NU_readReal_86 ?_
              refine zw_lneg zd_NU_readReal_88 ?_
              refine zw_goto 94 zd_NU_readReal_89 (by decide) ?_
              refine zw_l2i zd_NU_readReal_94 ?_
              refine zw_put (L' := [zObj h 5 [.ref fa, .int (zI (ng)), .int (zI (db)), .int (zI (de)), .int (zI (wd)), .int (zI (ex)), .int (zI (-((((plS t db de (wd - 1 + ex, 0, (fun _ => 0), 1)).2.1) * 65536) + ((mulS ((plS t db de (wd - 1 + ex, 0, (fun _ => 0), 1)).2.2.1) 160).1)))), .int (zI (1))], zFr fa ((mulS ((plS t db de (wd - 1 + ex, 0, (fun _ => 0), 1)).2.2.1) 160).2), zBRow ht (t) (nt)]) zc_NU 0 6 rfl (by decide) zf_NU_15 rfl rfl rfl (Nat.le_of_ble_eq_true rfl) rfl zd_NU_readReal_95 ?_
              refine zw_iconst zd_NU_readReal_98 ?_
              refine zw_sub (L' := [zObj h 5 [.ref fa, .int (zI (ng)), .int (zI (db)), .int (zI (de)), .int (zI (wd)), .int (zI (ex)), .int (zI (-((((plS t db de (wd - 1 + ex, 0, (fun _ => 0), 1)).2.1) * 65536) + ((mulS ((plS t db de (wd - 1 + ex, 0, (fun _ => 0), 1)).2.2.1) 160).1)))), .int (zI (1))], zBRow ht (t) (nt), zFr fa ((mulS ((plS t db de (wd - 1 + ex, 0, (fun _ => 0), 1)).2.2.1) 160).2)]) [0, 2, 1] rfl rfl ?_
              first | (exfalso; omega) | (have s1 : realSum ng (plS t db de (wd - 1 + ex, 0, (fun _ => 0), 1)) = (((plS t db de (wd - 1 + ex, 0, (fun _ => 0), 1)).2.1) * 65536) + ((mulS ((plS t db de (wd - 1 + ex, 0, (fun _ => 0), 1)).2.2.1) 160).1) := (by unfold realSum; (first | rw [if_pos (by omega)] | rw [if_neg (by omega), Int.add_zero])); exact zw_iret hR rfl (by rw [realF, s1, show wholeV ng ((((plS t db de (wd - 1 + ex, 0, (fun _ => 0), 1)).2.1) * 65536) + ((mulS ((plS t db de (wd - 1 + ex, 0, (fun _ => 0), 1)).2.2.1) 160).1)) = -((((plS t db de (wd - 1 + ex, 0, (fun _ => 0), 1)).2.1) * 65536) + ((mulS ((plS t db de (wd - 1 + ex, 0, (fun _ => 0), 1)).2.2.1) 160).1)) by unfold wholeV; split <;> omega]; first | rw [if_pos (by omega)] | rw [if_neg (by omega)]) rfl (by omega) (by omega) zd_NU_readReal_99)
      · -- 44 -> 47
        refine zw_lload 1 rfl zd_NU_readReal_47 ?_
        refine zw_lconst (a := 1) rfl zd_NU_readReal_49 ?_
        refine zw_ladd zd_NU_readReal_50 ?_
        refine zw_lstore (lv' := [(4, .long (zJ (((((plS t db de (wd - 1 + ex, 0, (fun _ => 0), 1)).2.1) * 65536) + ((mulS ((plS t db de (wd - 1 + ex, 0, (fun _ => 0), 1)).2.2.1) 160).1)) + 1))), (6, .int (zI (cmpH ((mulS ((plS t db de (wd - 1 + ex, 0, (fun _ => 0), 1)).2.2.1) 160).2)))), (2, .long (zJ ((plS t db de (wd - 1 + ex, 0, (fun _ => 0), 1)).2.1))), (0, .ref h), (1, .ref ht)]) (Nat.le_of_ble_eq_true rfl) rfl zd_NU_readReal_51 ?_
        refine zw_aload_n 3 rfl zd_NU_readReal_53 ?_
        refine zw_aload_n 3 rfl zd_NU_readReal_54 ?_
        refine zw_get zc_NU 0 7 rfl (by decide) zf_NU_19 rfl zd_NU_readReal_55 ?_
        refine zw_if_eq 74 (by omega) zd_NU_readReal_58 (by decide) (fun c58 => ?_) (fun c58 => ?_)
        · -- 58 -> 74
          refine zw_iconst zd_NU_readReal_74 ?_
          refine zw_put (L' := [zObj h 5 [.ref fa, .int (zI (ng)), .int (zI (db)), .int (zI (de)), .int (zI (wd)), .int (zI (ex)), .int (v), .int (zI (0))], zFr fa ((mulS ((plS t db de (wd - 1 + ex, 0, (fun _ => 0), 1)).2.2.1) 160).2), zBRow ht (t) (nt)]) zc_NU 0 7 rfl (by decide) zf_NU_19 rfl rfl rfl (Nat.le_of_ble_eq_true rfl) rfl zd_NU_readReal_75 ?_
          refine zw_aload_n 3 rfl zd_NU_readReal_78 ?_
          refine zw_aload_n 3 rfl zd_NU_readReal_79 ?_
          refine zw_get zc_NU 0 1 rfl (by decide) zf_NU_29 rfl zd_NU_readReal_80 ?_
          refine zw_if_eq 92 (by omega) zd_NU_readReal_83 (by decide) (fun c83 => ?_) (fun c83 => ?_)
          · -- 83 -> 92
            refine zw_lload 0 rfl zd_NU_readReal_92 ?_
            refine zw_l2i zd_NU_readReal_94 ?_
            refine zw_put (L' := [zObj h 5 [.ref fa, .int (zI (ng)), .int (zI (db)), .int (zI (de)), .int (zI (wd)), .int (zI (ex)), .int (zI (((((plS t db de (wd - 1 + ex, 0, (fun _ => 0), 1)).2.1) * 65536) + ((mulS ((plS t db de (wd - 1 + ex, 0, (fun _ => 0), 1)).2.2.1) 160).1)) + 1)), .int (zI (0))], zFr fa ((mulS ((plS t db de (wd - 1 + ex, 0, (fun _ => 0), 1)).2.2.1) 160).2), zBRow ht (t) (nt)]) zc_NU 0 6 rfl (by decide) zf_NU_15 rfl rfl rfl (Nat.le_of_ble_eq_true rfl) rfl zd_NU_readReal_95 ?_
            refine zw_iconst zd_NU_readReal_98 ?_
            refine zw_sub (L' := [zObj h 5 [.ref fa, .int (zI (ng)), .int (zI (db)), .int (zI (de)), .int (zI (wd)), .int (zI (ex)), .int (zI (((((plS t db de (wd - 1 + ex, 0, (fun _ => 0), 1)).2.1) * 65536) + ((mulS ((plS t db de (wd - 1 + ex, 0, (fun _ => 0), 1)).2.2.1) 160).1)) + 1)), .int (zI (0))], zBRow ht (t) (nt), zFr fa ((mulS ((plS t db de (wd - 1 + ex, 0, (fun _ => 0), 1)).2.2.1) 160).2)]) [0, 2, 1] rfl rfl ?_
            first | (exfalso; omega) | (have s1 : realSum ng (plS t db de (wd - 1 + ex, 0, (fun _ => 0), 1)) = ((((plS t db de (wd - 1 + ex, 0, (fun _ => 0), 1)).2.1) * 65536) + ((mulS ((plS t db de (wd - 1 + ex, 0, (fun _ => 0), 1)).2.2.1) 160).1)) + 1 := (by unfold realSum; (first | rw [if_pos (by omega)] | rw [if_neg (by omega), Int.add_zero])); exact zw_iret hR rfl (by rw [realF, s1, show wholeV ng (((((plS t db de (wd - 1 + ex, 0, (fun _ => 0), 1)).2.1) * 65536) + ((mulS ((plS t db de (wd - 1 + ex, 0, (fun _ => 0), 1)).2.2.1) 160).1)) + 1) = ((((plS t db de (wd - 1 + ex, 0, (fun _ => 0), 1)).2.1) * 65536) + ((mulS ((plS t db de (wd - 1 + ex, 0, (fun _ => 0), 1)).2.2.1) 160).1)) + 1 by unfold wholeV; split <;> omega]; first | rw [if_pos (by omega)] | rw [if_neg (by omega)]) rfl (by omega) (by omega) zd_NU_readReal_99)
          · -- 83 -> 86
            refine zw_lload 0 rfl zd_NU_readReal_86 ?_
            refine zw_lneg zd_NU_readReal_88 ?_
            refine zw_goto 94 zd_NU_readReal_89 (by decide) ?_
            refine zw_l2i zd_NU_readReal_94 ?_
            refine zw_put (L' := [zObj h 5 [.ref fa, .int (zI (ng)), .int (zI (db)), .int (zI (de)), .int (zI (wd)), .int (zI (ex)), .int (zI (-(((((plS t db de (wd - 1 + ex, 0, (fun _ => 0), 1)).2.1) * 65536) + ((mulS ((plS t db de (wd - 1 + ex, 0, (fun _ => 0), 1)).2.2.1) 160).1)) + 1))), .int (zI (0))], zFr fa ((mulS ((plS t db de (wd - 1 + ex, 0, (fun _ => 0), 1)).2.2.1) 160).2), zBRow ht (t) (nt)]) zc_NU 0 6 rfl (by decide) zf_NU_15 rfl rfl rfl (Nat.le_of_ble_eq_true rfl) rfl zd_NU_readReal_95 ?_
            refine zw_iconst zd_NU_readReal_98 ?_
            refine zw_sub (L' := [zObj h 5 [.ref fa, .int (zI (ng)), .int (zI (db)), .int (zI (de)), .int (zI (wd)), .int (zI (ex)), .int (zI (-(((((plS t db de (wd - 1 + ex, 0, (fun _ => 0), 1)).2.1) * 65536) + ((mulS ((plS t db de (wd - 1 + ex, 0, (fun _ => 0), 1)).2.2.1) 160).1)) + 1))), .int (zI (0))], zBRow ht (t) (nt), zFr fa ((mulS ((plS t db de (wd - 1 + ex, 0, (fun _ => 0), 1)).2.2.1) 160).2)]) [0, 2, 1] rfl rfl ?_
            first | (exfalso; omega) | (have s1 : realSum ng (plS t db de (wd - 1 + ex, 0, (fun _ => 0), 1)) = ((((plS t db de (wd - 1 + ex, 0, (fun _ => 0), 1)).2.1) * 65536) + ((mulS ((plS t db de (wd - 1 + ex, 0, (fun _ => 0), 1)).2.2.1) 160).1)) + 1 := (by unfold realSum; (first | rw [if_pos (by omega)] | rw [if_neg (by omega), Int.add_zero])); exact zw_iret hR rfl (by rw [realF, s1, show wholeV ng (((((plS t db de (wd - 1 + ex, 0, (fun _ => 0), 1)).2.1) * 65536) + ((mulS ((plS t db de (wd - 1 + ex, 0, (fun _ => 0), 1)).2.2.1) 160).1)) + 1) = -(((((plS t db de (wd - 1 + ex, 0, (fun _ => 0), 1)).2.1) * 65536) + ((mulS ((plS t db de (wd - 1 + ex, 0, (fun _ => 0), 1)).2.2.1) 160).1)) + 1) by unfold wholeV; split <;> omega]; first | rw [if_pos (by omega)] | rw [if_neg (by omega)]) rfl (by omega) (by omega) zd_NU_readReal_99)
        · -- 58 -> 61
          refine zw_lload 0 rfl zd_NU_readReal_61 ?_
          refine zw_ldc2 zk_NU_74 2147483648 rfl zd_NU_readReal_63 ?_
          refine zw_lcmpR zd_NU_readReal_66 ?_
          refine zw_lif_ge 74 (by omega) (by omega) zd_NU_readReal_67 (by decide) (fun c67 => ?_) (fun c67 => ?_)
          · -- 67 -> 74
            refine zw_iconst zd_NU_readReal_74 ?_
            refine zw_put (L' := [zObj h 5 [.ref fa, .int (zI (ng)), .int (zI (db)), .int (zI (de)), .int (zI (wd)), .int (zI (ex)), .int (v), .int (zI (0))], zFr fa ((mulS ((plS t db de (wd - 1 + ex, 0, (fun _ => 0), 1)).2.2.1) 160).2), zBRow ht (t) (nt)]) zc_NU 0 7 rfl (by decide) zf_NU_19 rfl rfl rfl (Nat.le_of_ble_eq_true rfl) rfl zd_NU_readReal_75 ?_
            refine zw_aload_n 3 rfl zd_NU_readReal_78 ?_
            refine zw_aload_n 3 rfl zd_NU_readReal_79 ?_
            refine zw_get zc_NU 0 1 rfl (by decide) zf_NU_29 rfl zd_NU_readReal_80 ?_
            refine zw_if_eq 92 (by omega) zd_NU_readReal_83 (by decide) (fun c83 => ?_) (fun c83 => ?_)
            · -- 83 -> 92
              refine zw_lload 0 rfl zd_NU_readReal_92 ?_
              refine zw_l2i zd_NU_readReal_94 ?_
              refine zw_put (L' := [zObj h 5 [.ref fa, .int (zI (ng)), .int (zI (db)), .int (zI (de)), .int (zI (wd)), .int (zI (ex)), .int (zI (((((plS t db de (wd - 1 + ex, 0, (fun _ => 0), 1)).2.1) * 65536) + ((mulS ((plS t db de (wd - 1 + ex, 0, (fun _ => 0), 1)).2.2.1) 160).1)) + 1)), .int (zI (0))], zFr fa ((mulS ((plS t db de (wd - 1 + ex, 0, (fun _ => 0), 1)).2.2.1) 160).2), zBRow ht (t) (nt)]) zc_NU 0 6 rfl (by decide) zf_NU_15 rfl rfl rfl (Nat.le_of_ble_eq_true rfl) rfl zd_NU_readReal_95 ?_
              refine zw_iconst zd_NU_readReal_98 ?_
              refine zw_sub (L' := [zObj h 5 [.ref fa, .int (zI (ng)), .int (zI (db)), .int (zI (de)), .int (zI (wd)), .int (zI (ex)), .int (zI (((((plS t db de (wd - 1 + ex, 0, (fun _ => 0), 1)).2.1) * 65536) + ((mulS ((plS t db de (wd - 1 + ex, 0, (fun _ => 0), 1)).2.2.1) 160).1)) + 1)), .int (zI (0))], zBRow ht (t) (nt), zFr fa ((mulS ((plS t db de (wd - 1 + ex, 0, (fun _ => 0), 1)).2.2.1) 160).2)]) [0, 2, 1] rfl rfl ?_
              first | (exfalso; omega) | (have s1 : realSum ng (plS t db de (wd - 1 + ex, 0, (fun _ => 0), 1)) = ((((plS t db de (wd - 1 + ex, 0, (fun _ => 0), 1)).2.1) * 65536) + ((mulS ((plS t db de (wd - 1 + ex, 0, (fun _ => 0), 1)).2.2.1) 160).1)) + 1 := (by unfold realSum; (first | rw [if_pos (by omega)] | rw [if_neg (by omega), Int.add_zero])); exact zw_iret hR rfl (by rw [realF, s1, show wholeV ng (((((plS t db de (wd - 1 + ex, 0, (fun _ => 0), 1)).2.1) * 65536) + ((mulS ((plS t db de (wd - 1 + ex, 0, (fun _ => 0), 1)).2.2.1) 160).1)) + 1) = ((((plS t db de (wd - 1 + ex, 0, (fun _ => 0), 1)).2.1) * 65536) + ((mulS ((plS t db de (wd - 1 + ex, 0, (fun _ => 0), 1)).2.2.1) 160).1)) + 1 by unfold wholeV; split <;> omega]; first | rw [if_pos (by omega)] | rw [if_neg (by omega)]) rfl (by omega) (by omega) zd_NU_readReal_99)
            · -- 83 -> 86
              refine zw_lload 0 rfl zd_NU_readReal_86 ?_
              refine zw_lneg zd_NU_readReal_88 ?_
              refine zw_goto 94 zd_NU_readReal_89 (by decide) ?_
              refine zw_l2i zd_NU_readReal_94 ?_
              refine zw_put (L' := [zObj h 5 [.ref fa, .int (zI (ng)), .int (zI (db)), .int (zI (de)), .int (zI (wd)), .int (zI (ex)), .int (zI (-(((((plS t db de (wd - 1 + ex, 0, (fun _ => 0), 1)).2.1) * 65536) + ((mulS ((plS t db de (wd - 1 + ex, 0, (fun _ => 0), 1)).2.2.1) 160).1)) + 1))), .int (zI (0))], zFr fa ((mulS ((plS t db de (wd - 1 + ex, 0, (fun _ => 0), 1)).2.2.1) 160).2), zBRow ht (t) (nt)]) zc_NU 0 6 rfl (by decide) zf_NU_15 rfl rfl rfl (Nat.le_of_ble_eq_true rfl) rfl zd_NU_readReal_95 ?_
              refine zw_iconst zd_NU_readReal_98 ?_
              refine zw_sub (L' := [zObj h 5 [.ref fa, .int (zI (ng)), .int (zI (db)), .int (zI (de)), .int (zI (wd)), .int (zI (ex)), .int (zI (-(((((plS t db de (wd - 1 + ex, 0, (fun _ => 0), 1)).2.1) * 65536) + ((mulS ((plS t db de (wd - 1 + ex, 0, (fun _ => 0), 1)).2.2.1) 160).1)) + 1))), .int (zI (0))], zBRow ht (t) (nt), zFr fa ((mulS ((plS t db de (wd - 1 + ex, 0, (fun _ => 0), 1)).2.2.1) 160).2)]) [0, 2, 1] rfl rfl ?_
              first | (exfalso; omega) | (have s1 : realSum ng (plS t db de (wd - 1 + ex, 0, (fun _ => 0), 1)) = ((((plS t db de (wd - 1 + ex, 0, (fun _ => 0), 1)).2.1) * 65536) + ((mulS ((plS t db de (wd - 1 + ex, 0, (fun _ => 0), 1)).2.2.1) 160).1)) + 1 := (by unfold realSum; (first | rw [if_pos (by omega)] | rw [if_neg (by omega), Int.add_zero])); exact zw_iret hR rfl (by rw [realF, s1, show wholeV ng (((((plS t db de (wd - 1 + ex, 0, (fun _ => 0), 1)).2.1) * 65536) + ((mulS ((plS t db de (wd - 1 + ex, 0, (fun _ => 0), 1)).2.2.1) 160).1)) + 1) = -(((((plS t db de (wd - 1 + ex, 0, (fun _ => 0), 1)).2.1) * 65536) + ((mulS ((plS t db de (wd - 1 + ex, 0, (fun _ => 0), 1)).2.2.1) 160).1)) + 1) by unfold wholeV; split <;> omega]; first | rw [if_pos (by omega)] | rw [if_neg (by omega)]) rfl (by omega) (by omega) zd_NU_readReal_99)
          · -- 67 -> 70
            refine zw_iconst zd_NU_readReal_70 ?_
            refine zw_goto 75 zd_NU_readReal_71 (by decide) ?_
            refine zw_put (L' := [zObj h 5 [.ref fa, .int (zI (ng)), .int (zI (db)), .int (zI (de)), .int (zI (wd)), .int (zI (ex)), .int (v), .int (zI (1))], zFr fa ((mulS ((plS t db de (wd - 1 + ex, 0, (fun _ => 0), 1)).2.2.1) 160).2), zBRow ht (t) (nt)]) zc_NU 0 7 rfl (by decide) zf_NU_19 rfl rfl rfl (Nat.le_of_ble_eq_true rfl) rfl zd_NU_readReal_75 ?_
            refine zw_aload_n 3 rfl zd_NU_readReal_78 ?_
            refine zw_aload_n 3 rfl zd_NU_readReal_79 ?_
            refine zw_get zc_NU 0 1 rfl (by decide) zf_NU_29 rfl zd_NU_readReal_80 ?_
            refine zw_if_eq 92 (by omega) zd_NU_readReal_83 (by decide) (fun c83 => ?_) (fun c83 => ?_)
            · -- 83 -> 92
              refine zw_lload 0 rfl zd_NU_readReal_92 ?_
              refine zw_l2i zd_NU_readReal_94 ?_
              refine zw_put (L' := [zObj h 5 [.ref fa, .int (zI (ng)), .int (zI (db)), .int (zI (de)), .int (zI (wd)), .int (zI (ex)), .int (zI (((((plS t db de (wd - 1 + ex, 0, (fun _ => 0), 1)).2.1) * 65536) + ((mulS ((plS t db de (wd - 1 + ex, 0, (fun _ => 0), 1)).2.2.1) 160).1)) + 1)), .int (zI (1))], zFr fa ((mulS ((plS t db de (wd - 1 + ex, 0, (fun _ => 0), 1)).2.2.1) 160).2), zBRow ht (t) (nt)]) zc_NU 0 6 rfl (by decide) zf_NU_15 rfl rfl rfl (Nat.le_of_ble_eq_true rfl) rfl zd_NU_readReal_95 ?_
              refine zw_iconst zd_NU_readReal_98 ?_
              refine zw_sub (L' := [zObj h 5 [.ref fa, .int (zI (ng)), .int (zI (db)), .int (zI (de)), .int (zI (wd)), .int (zI (ex)), .int (zI (((((plS t db de (wd - 1 + ex, 0, (fun _ => 0), 1)).2.1) * 65536) + ((mulS ((plS t db de (wd - 1 + ex, 0, (fun _ => 0), 1)).2.2.1) 160).1)) + 1)), .int (zI (1))], zBRow ht (t) (nt), zFr fa ((mulS ((plS t db de (wd - 1 + ex, 0, (fun _ => 0), 1)).2.2.1) 160).2)]) [0, 2, 1] rfl rfl ?_
              first | (exfalso; omega) | (have s1 : realSum ng (plS t db de (wd - 1 + ex, 0, (fun _ => 0), 1)) = ((((plS t db de (wd - 1 + ex, 0, (fun _ => 0), 1)).2.1) * 65536) + ((mulS ((plS t db de (wd - 1 + ex, 0, (fun _ => 0), 1)).2.2.1) 160).1)) + 1 := (by unfold realSum; (first | rw [if_pos (by omega)] | rw [if_neg (by omega), Int.add_zero])); exact zw_iret hR rfl (by rw [realF, s1, show wholeV ng (((((plS t db de (wd - 1 + ex, 0, (fun _ => 0), 1)).2.1) * 65536) + ((mulS ((plS t db de (wd - 1 + ex, 0, (fun _ => 0), 1)).2.2.1) 160).1)) + 1) = ((((plS t db de (wd - 1 + ex, 0, (fun _ => 0), 1)).2.1) * 65536) + ((mulS ((plS t db de (wd - 1 + ex, 0, (fun _ => 0), 1)).2.2.1) 160).1)) + 1 by unfold wholeV; split <;> omega]; first | rw [if_pos (by omega)] | rw [if_neg (by omega)]) rfl (by omega) (by omega) zd_NU_readReal_99)
            · -- 83 -> 86
              refine zw_lload 0 rfl zd_NU_readReal_86 ?_
              refine zw_lneg zd_NU_readReal_88 ?_
              refine zw_goto 94 zd_NU_readReal_89 (by decide) ?_
              refine zw_l2i zd_NU_readReal_94 ?_
              refine zw_put (L' := [zObj h 5 [.ref fa, .int (zI (ng)), .int (zI (db)), .int (zI (de)), .int (zI (wd)), .int (zI (ex)), .int (zI (-(((((plS t db de (wd - 1 + ex, 0, (fun _ => 0), 1)).2.1) * 65536) + ((mulS ((plS t db de (wd - 1 + ex, 0, (fun _ => 0), 1)).2.2.1) 160).1)) + 1))), .int (zI (1))], zFr fa ((mulS ((plS t db de (wd - 1 + ex, 0, (fun _ => 0), 1)).2.2.1) 160).2), zBRow ht (t) (nt)]) zc_NU 0 6 rfl (by decide) zf_NU_15 rfl rfl rfl (Nat.le_of_ble_eq_true rfl) rfl zd_NU_readReal_95 ?_
              refine zw_iconst zd_NU_readReal_98 ?_
              refine zw_sub (L' := [zObj h 5 [.ref fa, .int (zI (ng)), .int (zI (db)), .int (zI (de)), .int (zI (wd)), .int (zI (ex)), .int (zI (-(((((plS t db de (wd - 1 + ex, 0, (fun _ => 0), 1)).2.1) * 65536) + ((mulS ((plS t db de (wd - 1 + ex, 0, (fun _ => 0), 1)).2.2.1) 160).1)) + 1))), .int (zI (1))], zBRow ht (t) (nt), zFr fa ((mulS ((plS t db de (wd - 1 + ex, 0, (fun _ => 0), 1)).2.2.1) 160).2)]) [0, 2, 1] rfl rfl ?_
              first | (exfalso; omega) | (have s1 : realSum ng (plS t db de (wd - 1 + ex, 0, (fun _ => 0), 1)) = ((((plS t db de (wd - 1 + ex, 0, (fun _ => 0), 1)).2.1) * 65536) + ((mulS ((plS t db de (wd - 1 + ex, 0, (fun _ => 0), 1)).2.2.1) 160).1)) + 1 := (by unfold realSum; (first | rw [if_pos (by omega)] | rw [if_neg (by omega), Int.add_zero])); exact zw_iret hR rfl (by rw [realF, s1, show wholeV ng (((((plS t db de (wd - 1 + ex, 0, (fun _ => 0), 1)).2.1) * 65536) + ((mulS ((plS t db de (wd - 1 + ex, 0, (fun _ => 0), 1)).2.2.1) 160).1)) + 1) = -(((((plS t db de (wd - 1 + ex, 0, (fun _ => 0), 1)).2.1) * 65536) + ((mulS ((plS t db de (wd - 1 + ex, 0, (fun _ => 0), 1)).2.2.1) 160).1)) + 1) by unfold wholeV; split <;> omega]; first | rw [if_pos (by omega)] | rw [if_neg (by omega)]) rfl (by omega) (by omega) zd_NU_readReal_99)
