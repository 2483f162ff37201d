/-- at a row's end: nothing, or a byte that isn't plain -/
def endP (t : List Int) (q : Int) : Prop := bget t q = -1 ∨ sPlain (bget t q) = false
theorem endP_facts {t : List Int} {q : Int} (h : endP t q) : sDig (bget t q) = false ∧ sSign (bget t q) = false ∧ bget t q ≠ 35 ∧ bget t q ≠ 46 := by
  unfold endP at h
  generalize bget t q = b at h ⊢
  have hb : b = -1 ∨ (b = 0 ∨ b = 9 ∨ b = 10 ∨ b = 12 ∨ b = 13 ∨ b = 32) ∨ (b = 40 ∨ b = 41 ∨ b = 60 ∨ b = 62 ∨ b = 91 ∨ b = 93 ∨ b = 123 ∨ b = 125 ∨ b = 47 ∨ b = 37) := by
    rcases h with h | h
    · exact Or.inl h
    · refine Or.inr ?_
      unfold sPlain at h
      cases h1 : sBlank b with
      | true => exact Or.inl (of_decide_eq_true h1)
      | false =>
        cases h2 : sMark b with
        | true => exact Or.inr (of_decide_eq_true h2)
        | false => rw [h1, h2] at h; cases h
  exact ⟨decide_eq_false (by omega), decide_eq_false (by omega), by omega, by omega⟩
def rdN (t : List Int) (p : Int) : Int := bI (decide (bget t p = 45))
def rdB (t : List Int) (p : Int) : Int := if sSign (bget t p) = true then p + 1 else p
def rdX (t : List Int) (de q : Int) : Int := if de = q then 0 else exV t de q
/-- a row read as a number: 1 a whole number, 2 a real, 3 none; the value; whether it fits -/
noncomputable def rdS (t : List Int) (p q : Int) (v : Int32) (ft : Int) : Int × Int32 × Int :=
  if scanE sDig t (rdB t p) = q then
    if 0 < scanE sDig t (rdB t p) - rdB t p then (1, zI (wholeV (rdN t p) (satV 10 (slc t (rdB t p) (scanE sDig t (rdB t p))))), wholeF (rdN t p) (satV 10 (slc t (rdB t p) (scanE sDig t (rdB t p))))) else (3, v, ft)
  else if bget t (scanE sDig t (rdB t p)) = 35 then
    if sSign (bget t p) = true then (3, v, ft)
    else @ite _ (basedP t (rdB t p) (scanE sDig t (rdB t p)) (scanE sDig t (rdB t p) - rdB t p) q) (Classical.propDecidable _)
      (1, zI (satV (satV 10 (slc t (rdB t p) (scanE sDig t (rdB t p)))) (slc t (scanE sDig t (rdB t p) + 1) q)), bI (decide (satV (satV 10 (slc t (rdB t p) (scanE sDig t (rdB t p)))) (slc t (scanE sDig t (rdB t p) + 1) q) < 4294967296))) (3, v, ft)
  else @ite _ (0 < frD t (scanE sDig t (rdB t p)) (scanE sDig t (rdB t p) - rdB t p) ∧ (frE t (scanE sDig t (rdB t p)) = q ∨ expP t (frE t (scanE sDig t (rdB t p))) q)) (Classical.propDecidable _)
      (2, zI (wholeV (rdN t p) (realSum (rdN t p) (plS t (rdB t p) (frE t (scanE sDig t (rdB t p))) (scanE sDig t (rdB t p) - rdB t p - 1 + rdX t (frE t (scanE sDig t (rdB t p))) q, 0, (fun _ => 0), 1)))), realF (rdN t p) (plS t (rdB t p) (frE t (scanE sDig t (rdB t p))) (scanE sDig t (rdB t p) - rdB t p - 1 + rdX t (frE t (scanE sDig t (rdB t p))) q, 0, (fun _ => 0), 1))) (3, v, ft)
theorem rdS_ft0 {t : List Int} {p q : Int} {v : Int32} {ft : Int} (h : 0 ≤ ft ∧ ft ≤ 1) : 0 ≤ (rdS t p q v ft).2.2 ∧ (rdS t p q v ft).2.2 ≤ 1 := by
  unfold rdS
  split
  · split
    · show 0 ≤ wholeF _ _ ∧ wholeF _ _ ≤ 1
      unfold wholeF
      split <;> omega
    · exact h
  · split
    · split
      · exact h
      · split
        · exact bI_rg _
        · exact h
    · split
      · show 0 ≤ realF _ _ ∧ realF _ _ ≤ 1
        unfold realF
        split <;> omega
      · exact h
theorem rdS_ft {t : List Int} {p q : Int} {v : Int32} {ft : Int} {k : Int} {x : Int32} {f : Int} (e : rdS t p q v ft = (k, x, f)) (h : 0 ≤ ft ∧ ft ≤ 1) : 0 ≤ f ∧ f ≤ 1 := by
  have := rdS_ft0 (t := t) (p := p) (q := q) (v := v) h
  rw [e] at this
  exact this
theorem frE_rg {t : List Int} {de q : Int} (h : 0 ≤ de ∧ de < q ∧ q ≤ t.length) (hend : sDig (bget t q) = false) : de ≤ frE t de ∧ frE t de ≤ q := by
  unfold frE
  split
  · have := scanD_rg (t := t) (f := de + 1) (e := q) (by omega) hend
    omega
  · omega
theorem real_bytes {t : List Int} {db : Int} (h0 : 0 ≤ db) (hd : ∀ j, db ≤ j → j < scanE sDig t db → 48 ≤ bget t j ∧ bget t j ≤ 57) : ∀ j, db ≤ j → j < frE t (scanE sDig t db) → bget t j = 46 ∨ (48 ≤ bget t j ∧ bget t j ≤ 57) := by
  intro j h1 h2
  rcases Int.lt_or_le j (scanE sDig t db) with q | q
  · exact Or.inr (hd j h1 q)
  · unfold frE at h2
    split at h2
    · rename_i hc
      rcases Int.lt_or_le (scanE sDig t db) j with r | r
      · exact Or.inr (of_decide_eq_true ((scanE_spec (f := sDig) (t := t) (p := scanE sDig t db + 1) (by have := scanN_ge sDig t t.length db; unfold scanE; omega)).2.2.1 j (by omega) h2).2)
      · rw [show j = scanE sDig t db by omega]
        exact Or.inl hc
    · omega
theorem exV_rg {t : List Int} {de q : Int} (h : 0 ≤ de ∧ de < q ∧ q ≤ t.length) (h1 : exF t de < q) (h2 : scanE sDig t (exF t de) = q) (hend : sDig (bget t q) = false) : -1000 ≤ exV t de q ∧ exV t de q ≤ 1000 := by
  have hx : de + 1 ≤ exF t de ∧ exF t de ≤ de + 2 := by unfold exF; split <;> omega
  obtain ⟨k1, k2, k3⟩ := scanD_rg (t := t) (f := exF t de) (e := q) (by omega) hend
  have hdg : ∀ c ∈ slc t (exF t de) q, 0 ≤ digV c := by
    intro c hc
    obtain ⟨j, j1, j2, j3, rfl⟩ := slc_mem (by omega) hc
    have hb := k3 j j1 (by omega)
    unfold digV; rw [if_pos (by omega)]; omega
  have := satV_rg (b := 10) (by omega) _ hdg
  unfold exV
  split <;> omega
set_option maxHeartbeats 4000000 in
set_option maxRecDepth 100000 in
theorem c_NU_read (h : Nat) (v : Int32) (ft : Int) (ht : Nat) (t : List Int) (nt : Nat) (p q : Int) (hp : 0 ≤ p ∧ p < q ∧ q ≤ t.length ∧ q - p ≤ 127) (hq : endP t q) : zCT zy_NU_read zm_NU_read (0) (0) [.ref h, .ref ht, .int (zI p), .int (zI q)] [zNum h (v) (ft), zBRow ht (t) (nt)] (some (.int (zI (rdS t p q v ft).1))) [zNum h ((rdS t p q v ft).2.1) ((rdS t p q v ft).2.2), zBRow ht (t) (nt)] := by
  refine zCT.of [(0, .ref h), (1, .ref ht), (2, .int (zI (p))), (3, .int (zI (q)))] rfl (by decide) rfl (fun h => by first | rfl | cases h) (Nat.le_of_ble_eq_true rfl) (fun X hR => ?_)
  refine zw_unp (fun G ws h => h) (fun x0 hx0 => ?_)
  obtain ⟨⟨fa, g⟩, ng, db, de, wd, ex⟩ := x0
  obtain ⟨hx1, hx2⟩ := hx0
  dsimp only at hx1
  simp only [List.cons_append, List.nil_append]
  refine zw_fact 2 rfl (fun G w h => zBR_fact h) (fun hbr => ?_)
  obtain ⟨⟨ht1, ht2, ht3⟩, hby⟩ := hbr
  obtain ⟨q1, q2, q3, q4⟩ := endP_facts hq
  have hbp := bget_byte hby (z := p) (by omega)
  have jn : ∀ (n1 : Int) (d1 : Int), (n1 = rdN t p) → (d1 = rdB t p) → zZ X zm_NU_read (0) (0) (0) (0) [zObj h 5 [.ref fa, .int (zI (n1)), .int (zI (d1)), .int (zI (de)), .int (zI (wd)), .int (zI (ex)), .int (v), .int (zI (ft))], zArI fa (160) (g), zBRow ht (t) (nt)] 42 [(0, .ref h), (1, .ref ht), (2, .int (zI (p))), (3, .int (zI (q))), (4, .int (zI (bget t p)))] [] := by
    intro n1 d1 j0 j1
    have jr : (0 ≤ n1 ∧ n1 ≤ 1) ∧ (p ≤ d1 ∧ d1 ≤ p + 1) := by rw [j0, j1]; exact ⟨bI_rg _, by unfold rdB; split <;> omega⟩
    refine zw_aload_n 0 rfl zd_NU_read_42 ?_
    refine zw_aload_n 1 rfl zd_NU_read_43 ?_
    refine zw_aload_n 0 rfl zd_NU_read_44 ?_
    refine zw_get zc_NU 0 2 rfl (by decide) zf_NU_36 rfl zd_NU_read_45 ?_
    refine zw_iload_n 3 rfl zd_NU_read_48 ?_
    refine zw_callS (a := 0) (As := [.ref ht, .int (zI (d1)), .int (zI (q))]) (rest := [.ref h]) (L2 := [zObj h 5 [.ref fa, .int (zI (n1)), .int (zI (d1)), .int (zI (de)), .int (zI (wd)), .int (zI (ex)), .int (v), .int (zI (ft))], zArI fa (160) (g)]) (L' := [zBRow ht (t) (nt), zObj h 5 [.ref fa, .int (zI (n1)), .int (zI (d1)), .int (zI (de)), .int (zI (wd)), .int (zI (ex)), .int (v), .int (zI (ft))], zArI fa (160) (g)]) (stk' := [.int (zI (scanE sDig t d1)), .ref h]) (c_NU_skipDigits ht t nt d1 q (by omega) q1) [2] [0, 1] rfl rfl rfl zcal_NU_skipDigits zl_NU_39 zst_NU_skipDigits (Nat.le_of_ble_eq_true rfl) (Nat.le_of_ble_eq_true rfl) (by omega) (by omega) rfl (Nat.le_of_ble_eq_true rfl) rfl rfl zd_NU_read_49 ?_
    have sk49 := scanD_rg (t := t) (f := d1) (e := q) (by omega) q1
    refine zw_put (L' := [zBRow ht (t) (nt), zObj h 5 [.ref fa, .int (zI (n1)), .int (zI (d1)), .int (zI (scanE sDig t d1)), .int (zI (wd)), .int (zI (ex)), .int (v), .int (zI (ft))], zArI fa (160) (g)]) zc_NU 1 3 rfl (by decide) zf_NU_43 rfl rfl rfl (Nat.le_of_ble_eq_true rfl) rfl zd_NU_read_52 ?_
    have hd57 := sk49.2.2
    refine zw_aload_n 0 rfl zd_NU_read_55 ?_
    refine zw_aload_n 0 rfl zd_NU_read_56 ?_
    refine zw_get zc_NU 1 3 rfl (by decide) zf_NU_43 rfl zd_NU_read_57 ?_
    refine zw_aload_n 0 rfl zd_NU_read_60 ?_
    refine zw_get zc_NU 1 2 rfl (by decide) zf_NU_36 rfl zd_NU_read_61 ?_
    refine zw_isub zd_NU_read_64 ?_
    refine zw_put (L' := [zBRow ht (t) (nt), zObj h 5 [.ref fa, .int (zI (n1)), .int (zI (d1)), .int (zI (scanE sDig t d1)), .int (zI ((scanE sDig t d1) - d1)), .int (zI (ex)), .int (v), .int (zI (ft))], zArI fa (160) (g)]) zc_NU 1 4 rfl (by decide) zf_NU_46 rfl rfl rfl (Nat.le_of_ble_eq_true rfl) rfl zd_NU_read_65 ?_
    refine zw_aload_n 0 rfl zd_NU_read_68 ?_
    refine zw_get zc_NU 1 3 rfl (by decide) zf_NU_43 rfl zd_NU_read_69 ?_
    refine zw_iload_n 3 rfl zd_NU_read_72 ?_
    refine zw_icmp_ne 93 (by omega) (by omega) zd_NU_read_73 (by decide) (fun c73 => ?_) (fun c73 => ?_)
    · -- 73 -> 93
      refine zw_aload_n 1 rfl zd_NU_read_93 ?_
      refine zw_aload_n 0 rfl zd_NU_read_94 ?_
      refine zw_get zc_NU 1 3 rfl (by decide) zf_NU_43 rfl zd_NU_read_95 ?_
      refine zw_callV (As := [.int (zI (scanE sDig t d1))]) (rest := []) (L2 := [zObj h 5 [.ref fa, .int (zI (n1)), .int (zI (d1)), .int (zI (scanE sDig t d1)), .int (zI ((scanE sDig t d1) - d1)), .int (zI (ex)), .int (v), .int (zI (ft))], zArI fa (160) (g)]) (L' := [zBRow ht (t) (nt), zObj h 5 [.ref fa, .int (zI (n1)), .int (zI (d1)), .int (zI (scanE sDig t d1)), .int (zI ((scanE sDig t d1) - d1)), .int (zI (ex)), .int (v), .int (zI (ft))], zArI fa (160) (g)]) (stk' := [.int (zI (bget t (scanE sDig t d1)))]) (c_BR_get ht (t) (nt) (scanE sDig t d1) (by omega)) [0] [1, 2] rfl rfl rfl zcal_BR_get zl_NU_23 zin_BR_get zse_BR_get 0 rfl zRv_BRow rfl (Nat.le_of_ble_eq_true rfl) (Nat.le_of_ble_eq_true rfl) (by omega) (by omega) rfl (Nat.le_of_ble_eq_true rfl) rfl rfl zd_NU_read_98 ?_
      have rg98 := bget_rg hby (scanE sDig t d1)
      refine zw_bipush rfl zd_NU_read_101 ?_
      refine zw_icmp_ne 125 (by omega) (by omega) zd_NU_read_103 (by decide) (fun c103 => ?_) (fun c103 => ?_)
      · -- 103 -> 125
        have fr := frE_rg (t := t) (de := scanE sDig t d1) (q := q) (by omega) q1
        refine zw_aload_n 0 rfl zd_NU_read_125 ?_
        refine zw_aload_n 1 rfl zd_NU_read_126 ?_
        refine zw_iload_n 3 rfl zd_NU_read_127 ?_
        refine zw_callV (As := [.ref ht, .int (zI (q))]) (rest := []) (L2 := [zArI fa (160) (g)]) (L' := [zObj h 5 [.ref fa, .int (zI (n1)), .int (zI (d1)), .int (zI (frE t (scanE sDig t d1))), .int (zI ((scanE sDig t d1) - d1)), .int (zI (ex)), .int (v), .int (zI (ft))], zBRow ht (t) (nt), zArI fa (160) (g)]) (stk' := [.int (zI (bI (decide (0 < frD t (scanE sDig t d1) (scanE sDig t d1 - d1)))))]) (c_NU_findFraction h fa n1 d1 (scanE sDig t d1) ((scanE sDig t d1) - d1) ex v ft ht t nt q (by omega) (by omega) q1) [1, 0] [2] rfl rfl rfl zcal_NU_findFraction zl_NU_57 zin_NU_findFraction zse_NU_findFraction 0 rfl zRv_obj rfl (Nat.le_of_ble_eq_true rfl) (Nat.le_of_ble_eq_true rfl) (by omega) (by omega) rfl (Nat.le_of_ble_eq_true rfl) rfl rfl zd_NU_read_128 ?_
        have rbf := bI_rg (decide (0 < frD t (scanE sDig t d1) (scanE sDig t d1 - d1)))
        refine zw_if_eq 143 (by omega) zd_NU_read_131 (by decide) (fun c131 => ?_) (fun c131 => ?_)
        · -- 131 -> 143
          have hfd : ¬ 0 < frD t (scanE sDig t d1) (scanE sDig t d1 - d1) := of_decide_eq_false (zbI0 (b := decide (0 < frD t (scanE sDig t d1) (scanE sDig t d1 - d1))) (by omega))
          refine zw_iconst zd_NU_read_143 ?_
          refine zw_sub (L' := [zObj h 5 [.ref fa, .int (zI (n1)), .int (zI (d1)), .int (zI (frE t (scanE sDig t d1))), .int (zI ((scanE sDig t d1) - d1)), .int (zI (ex)), .int (v), .int (zI (ft))], zArI fa (160) (g), zBRow ht (t) (nt)]) [0, 2, 1] rfl rfl ?_
          have rd : rdS t p q v ft = (3, v, ft) := by unfold rdS; rw [← j0, ← j1]; rw [if_neg (by omega), if_neg (by omega), if_neg (fun z => hfd z.1)]
          refine zw_pack (at0 := zNum h (v) (ft)) (Ls := [zObj h 5 [.ref fa, .int (zI (n1)), .int (zI (d1)), .int (zI (frE t (scanE sDig t d1))), .int (zI ((scanE sDig t d1) - d1)), .int (zI (ex)), .int (v), .int (zI (ft))], zArI fa (160) (g)]) (L2 := [zBRow ht (t) (nt)]) rfl (fun G w h => ⟨((fa, g), n1, d1, frE t (scanE sDig t d1), (scanE sDig t d1) - d1, ex), ⟨(show 0 ≤ n1 ∧ n1 ≤ 1 by omega), rdS_ft (show rdS t p q v ft = _ from rd) hx2⟩, h⟩) ?_
          exact zw_iret hR (by rw [rd]) (by rw [rd]) rfl (by omega) (by omega) zd_NU_read_144
        · -- 131 -> 134
          have hfd : 0 < frD t (scanE sDig t d1) (scanE sDig t d1 - d1) := of_decide_eq_true (zbI1 (b := decide (0 < frD t (scanE sDig t d1) (scanE sDig t d1 - d1))) (by omega))
          by_cases hfe : frE t (scanE sDig t d1) = q
          · -- no exponent
            have hdd := real_bytes (t := t) (db := d1) (by omega) hd57
            have hxr : -1000 ≤ 0 ∧ 0 ≤ 1000 := by omega
            refine zw_aload_n 0 rfl zd_NU_read_134 ?_
            refine zw_aload_n 1 rfl zd_NU_read_135 ?_
            refine zw_iload_n 3 rfl zd_NU_read_136 ?_
            refine zw_callV (As := [.ref ht, .int (zI (q))]) (rest := []) (L2 := [zArI fa (160) (g)]) (L' := [zObj h 5 [.ref fa, .int (zI (n1)), .int (zI (d1)), .int (zI (frE t (scanE sDig t d1))), .int (zI ((scanE sDig t d1) - d1)), .int (zI (0)), .int (v), .int (zI (ft))], zBRow ht (t) (nt), zArI fa (160) (g)]) (stk' := [.int (zI (1))]) (c_NU_exp_end h fa n1 d1 (frE t (scanE sDig t d1)) ((scanE sDig t d1) - d1) ex v ft ht t nt q (by omega)) [0, 1] [2] rfl rfl rfl zcal_NU_findExponent zl_NU_61 zin_NU_findExponent zse_NU_findExponent 0 rfl zRv_obj rfl (Nat.le_of_ble_eq_true rfl) (Nat.le_of_ble_eq_true rfl) (by omega) (by omega) rfl (Nat.le_of_ble_eq_true rfl) rfl rfl zd_NU_read_137 ?_
            refine zw_if_ne 145 (by omega) zd_NU_read_140 (by decide) (fun c140 => ?_) (fun c140 => ?_)
            · -- 140 -> 145
              refine zw_aload_n 0 rfl zd_NU_read_145 ?_
              refine zw_aload_n 1 rfl zd_NU_read_146 ?_
              refine zw_callV (As := [.ref ht]) (rest := []) (L2 := []) (L' := [zObj h 5 [.ref fa, .int (zI (n1)), .int (zI (d1)), .int (zI (frE t (scanE sDig t d1))), .int (zI ((scanE sDig t d1) - d1)), .int (zI (0)), .int (zI (wholeV n1 (realSum n1 (plS t d1 (frE t (scanE sDig t d1)) (scanE sDig t d1 - d1 - 1 + 0, 0, (fun _ => 0), 1))))), .int (zI (realF n1 (plS t d1 (frE t (scanE sDig t d1)) (scanE sDig t d1 - d1 - 1 + 0, 0, (fun _ => 0), 1))))], zBRow ht (t) (nt), zFr fa ((mulS (plS t d1 (frE t (scanE sDig t d1)) (scanE sDig t d1 - d1 - 1 + 0, 0, (fun _ => 0), 1)).2.2.1 160).2)]) (stk' := [.int (zI (2))]) (c_NU_readReal h fa g n1 d1 (frE t (scanE sDig t d1)) ((scanE sDig t d1) - d1) 0 v ft ht t nt (by omega) (by omega) (by omega) hdd (by omega)) [0, 1, 2] [] rfl rfl rfl zcal_NU_readReal zl_NU_64 zin_NU_readReal zse_NU_readReal 0 rfl zRv_obj rfl (Nat.le_of_ble_eq_true rfl) (Nat.le_of_ble_eq_true rfl) (by omega) (by omega) rfl (Nat.le_of_ble_eq_true rfl) rfl rfl zd_NU_read_147 ?_
              refine zw_sub (L' := [zObj h 5 [.ref fa, .int (zI (n1)), .int (zI (d1)), .int (zI (frE t (scanE sDig t d1))), .int (zI ((scanE sDig t d1) - d1)), .int (zI (0)), .int (zI (wholeV n1 (realSum n1 (plS t d1 (frE t (scanE sDig t d1)) (scanE sDig t d1 - d1 - 1 + 0, 0, (fun _ => 0), 1))))), .int (zI (realF n1 (plS t d1 (frE t (scanE sDig t d1)) (scanE sDig t d1 - d1 - 1 + 0, 0, (fun _ => 0), 1))))], zFr fa ((mulS (plS t d1 (frE t (scanE sDig t d1)) (scanE sDig t d1 - d1 - 1 + 0, 0, (fun _ => 0), 1)).2.2.1 160).2), zBRow ht (t) (nt)]) [0, 2, 1] rfl rfl ?_
              have rd : rdS t p q v ft = (2, zI (wholeV n1 (realSum n1 (plS t d1 (frE t (scanE sDig t d1)) (scanE sDig t d1 - d1 - 1 + 0, 0, (fun _ => 0), 1)))), realF n1 (plS t d1 (frE t (scanE sDig t d1)) (scanE sDig t d1 - d1 - 1 + 0, 0, (fun _ => 0), 1))) := by unfold rdS; rw [← j0, ← j1]; rw [if_neg (by omega), if_neg (by omega), if_pos ⟨hfd, Or.inl hfe⟩]; unfold rdX; rw [if_pos hfe]
              refine zw_sub (L' := [zFr fa ((mulS (plS t d1 (frE t (scanE sDig t d1)) (scanE sDig t d1 - d1 - 1 + 0, 0, (fun _ => 0), 1)).2.2.1 160).2), zObj h 5 [.ref fa, .int (zI (n1)), .int (zI (d1)), .int (zI (frE t (scanE sDig t d1))), .int (zI ((scanE sDig t d1) - d1)), .int (zI (0)), .int (zI (wholeV n1 (realSum n1 (plS t d1 (frE t (scanE sDig t d1)) (scanE sDig t d1 - d1 - 1 + 0, 0, (fun _ => 0), 1))))), .int (zI (realF n1 (plS t d1 (frE t (scanE sDig t d1)) (scanE sDig t d1 - d1 - 1 + 0, 0, (fun _ => 0), 1))))], zBRow ht (t) (nt)]) [1, 0, 2] rfl rfl ?_
              refine zw_unp (fun G ws h => h) (fun g2 hg2 => ?_)
              simp only [List.cons_append, List.nil_append]
              refine zw_sub (L' := [zObj h 5 [.ref fa, .int (zI (n1)), .int (zI (d1)), .int (zI (frE t (scanE sDig t d1))), .int (zI ((scanE sDig t d1) - d1)), .int (zI (0)), .int (zI (wholeV n1 (realSum n1 (plS t d1 (frE t (scanE sDig t d1)) (scanE sDig t d1 - d1 - 1 + 0, 0, (fun _ => 0), 1))))), .int (zI (realF n1 (plS t d1 (frE t (scanE sDig t d1)) (scanE sDig t d1 - d1 - 1 + 0, 0, (fun _ => 0), 1))))], zArI fa (160) (g2), zBRow ht (t) (nt)]) [1, 0, 2] rfl rfl ?_
              refine zw_pack (at0 := zNum h (zI (wholeV n1 (realSum n1 (plS t d1 (frE t (scanE sDig t d1)) (scanE sDig t d1 - d1 - 1 + 0, 0, (fun _ => 0), 1))))) (realF n1 (plS t d1 (frE t (scanE sDig t d1)) (scanE sDig t d1 - d1 - 1 + 0, 0, (fun _ => 0), 1)))) (Ls := [zObj h 5 [.ref fa, .int (zI (n1)), .int (zI (d1)), .int (zI (frE t (scanE sDig t d1))), .int (zI ((scanE sDig t d1) - d1)), .int (zI (0)), .int (zI (wholeV n1 (realSum n1 (plS t d1 (frE t (scanE sDig t d1)) (scanE sDig t d1 - d1 - 1 + 0, 0, (fun _ => 0), 1))))), .int (zI (realF n1 (plS t d1 (frE t (scanE sDig t d1)) (scanE sDig t d1 - d1 - 1 + 0, 0, (fun _ => 0), 1))))], zArI fa (160) (g2)]) (L2 := [zBRow ht (t) (nt)]) rfl (fun G w h => ⟨((fa, g2), n1, d1, frE t (scanE sDig t d1), (scanE sDig t d1) - d1, 0), ⟨(show 0 ≤ n1 ∧ n1 ≤ 1 by omega), rdS_ft (show rdS t p q v ft = _ from rd) hx2⟩, h⟩) ?_
              exact zw_iret hR (by rw [rd]) (by rw [rd]) rfl (by omega) (by omega) zd_NU_read_150
            · -- 140 -> 143
              exact absurd c140 (by decide)
          · by_cases hxp : expP t (frE t (scanE sDig t d1)) q
            · -- an exponent
              have hdd := real_bytes (t := t) (db := d1) (by omega) hd57
              have hxr : -1000 ≤ exV t (frE t (scanE sDig t d1)) q ∧ exV t (frE t (scanE sDig t d1)) q ≤ 1000 := exV_rg (t := t) (de := frE t (scanE sDig t d1)) (q := q) (by omega) hxp.2.1 hxp.2.2 q1
              refine zw_aload_n 0 rfl zd_NU_read_134 ?_
              refine zw_aload_n 1 rfl zd_NU_read_135 ?_
              refine zw_iload_n 3 rfl zd_NU_read_136 ?_
              refine zw_callV (As := [.ref ht, .int (zI (q))]) (rest := []) (L2 := [zArI fa (160) (g)]) (L' := [zObj h 5 [.ref fa, .int (zI (n1)), .int (zI (d1)), .int (zI (frE t (scanE sDig t d1))), .int (zI ((scanE sDig t d1) - d1)), .int (zI (exV t (frE t (scanE sDig t d1)) q)), .int (v), .int (zI (ft))], zBRow ht (t) (nt), zArI fa (160) (g)]) (stk' := [.int (zI (1))]) (c_NU_exp_ok h fa n1 d1 (frE t (scanE sDig t d1)) ((scanE sDig t d1) - d1) ex v ft ht t nt q (by omega) q1 q2 hxp) [0, 1] [2] rfl rfl rfl zcal_NU_findExponent zl_NU_61 zin_NU_findExponent zse_NU_findExponent 0 rfl zRv_obj rfl (Nat.le_of_ble_eq_true rfl) (Nat.le_of_ble_eq_true rfl) (by omega) (by omega) rfl (Nat.le_of_ble_eq_true rfl) rfl rfl zd_NU_read_137 ?_
              refine zw_if_ne 145 (by omega) zd_NU_read_140 (by decide) (fun c140 => ?_) (fun c140 => ?_)
              · -- 140 -> 145
                refine zw_aload_n 0 rfl zd_NU_read_145 ?_
                refine zw_aload_n 1 rfl zd_NU_read_146 ?_
                refine zw_callV (As := [.ref ht]) (rest := []) (L2 := []) (L' := [zObj h 5 [.ref fa, .int (zI (n1)), .int (zI (d1)), .int (zI (frE t (scanE sDig t d1))), .int (zI ((scanE sDig t d1) - d1)), .int (zI (exV t (frE t (scanE sDig t d1)) q)), .int (zI (wholeV n1 (realSum n1 (plS t d1 (frE t (scanE sDig t d1)) (scanE sDig t d1 - d1 - 1 + exV t (frE t (scanE sDig t d1)) q, 0, (fun _ => 0), 1))))), .int (zI (realF n1 (plS t d1 (frE t (scanE sDig t d1)) (scanE sDig t d1 - d1 - 1 + exV t (frE t (scanE sDig t d1)) q, 0, (fun _ => 0), 1))))], zBRow ht (t) (nt), zFr fa ((mulS (plS t d1 (frE t (scanE sDig t d1)) (scanE sDig t d1 - d1 - 1 + exV t (frE t (scanE sDig t d1)) q, 0, (fun _ => 0), 1)).2.2.1 160).2)]) (stk' := [.int (zI (2))]) (c_NU_readReal h fa g n1 d1 (frE t (scanE sDig t d1)) ((scanE sDig t d1) - d1) (exV t (frE t (scanE sDig t d1)) q) v ft ht t nt (by omega) (by omega) (by omega) hdd (by omega)) [0, 1, 2] [] rfl rfl rfl zcal_NU_readReal zl_NU_64 zin_NU_readReal zse_NU_readReal 0 rfl zRv_obj rfl (Nat.le_of_ble_eq_true rfl) (Nat.le_of_ble_eq_true rfl) (by omega) (by omega) rfl (Nat.le_of_ble_eq_true rfl) rfl rfl zd_NU_read_147 ?_
                refine zw_sub (L' := [zObj h 5 [.ref fa, .int (zI (n1)), .int (zI (d1)), .int (zI (frE t (scanE sDig t d1))), .int (zI ((scanE sDig t d1) - d1)), .int (zI (exV t (frE t (scanE sDig t d1)) q)), .int (zI (wholeV n1 (realSum n1 (plS t d1 (frE t (scanE sDig t d1)) (scanE sDig t d1 - d1 - 1 + exV t (frE t (scanE sDig t d1)) q, 0, (fun _ => 0), 1))))), .int (zI (realF n1 (plS t d1 (frE t (scanE sDig t d1)) (scanE sDig t d1 - d1 - 1 + exV t (frE t (scanE sDig t d1)) q, 0, (fun _ => 0), 1))))], zFr fa ((mulS (plS t d1 (frE t (scanE sDig t d1)) (scanE sDig t d1 - d1 - 1 + exV t (frE t (scanE sDig t d1)) q, 0, (fun _ => 0), 1)).2.2.1 160).2), zBRow ht (t) (nt)]) [0, 2, 1] rfl rfl ?_
                have rd : rdS t p q v ft = (2, zI (wholeV n1 (realSum n1 (plS t d1 (frE t (scanE sDig t d1)) (scanE sDig t d1 - d1 - 1 + exV t (frE t (scanE sDig t d1)) q, 0, (fun _ => 0), 1)))), realF n1 (plS t d1 (frE t (scanE sDig t d1)) (scanE sDig t d1 - d1 - 1 + exV t (frE t (scanE sDig t d1)) q, 0, (fun _ => 0), 1))) := by unfold rdS; rw [← j0, ← j1]; rw [if_neg (by omega), if_neg (by omega), if_pos ⟨hfd, Or.inr hxp⟩]; unfold rdX; rw [if_neg hfe]
                refine zw_sub (L' := [zFr fa ((mulS (plS t d1 (frE t (scanE sDig t d1)) (scanE sDig t d1 - d1 - 1 + exV t (frE t (scanE sDig t d1)) q, 0, (fun _ => 0), 1)).2.2.1 160).2), zObj h 5 [.ref fa, .int (zI (n1)), .int (zI (d1)), .int (zI (frE t (scanE sDig t d1))), .int (zI ((scanE sDig t d1) - d1)), .int (zI (exV t (frE t (scanE sDig t d1)) q)), .int (zI (wholeV n1 (realSum n1 (plS t d1 (frE t (scanE sDig t d1)) (scanE sDig t d1 - d1 - 1 + exV t (frE t (scanE sDig t d1)) q, 0, (fun _ => 0), 1))))), .int (zI (realF n1 (plS t d1 (frE t (scanE sDig t d1)) (scanE sDig t d1 - d1 - 1 + exV t (frE t (scanE sDig t d1)) q, 0, (fun _ => 0), 1))))], zBRow ht (t) (nt)]) [1, 0, 2] rfl rfl ?_
                refine zw_unp (fun G ws h => h) (fun g2 hg2 => ?_)
                simp only [List.cons_append, List.nil_append]
                refine zw_sub (L' := [zObj h 5 [.ref fa, .int (zI (n1)), .int (zI (d1)), .int (zI (frE t (scanE sDig t d1))), .int (zI ((scanE sDig t d1) - d1)), .int (zI (exV t (frE t (scanE sDig t d1)) q)), .int (zI (wholeV n1 (realSum n1 (plS t d1 (frE t (scanE sDig t d1)) (scanE sDig t d1 - d1 - 1 + exV t (frE t (scanE sDig t d1)) q, 0, (fun _ => 0), 1))))), .int (zI (realF n1 (plS t d1 (frE t (scanE sDig t d1)) (scanE sDig t d1 - d1 - 1 + exV t (frE t (scanE sDig t d1)) q, 0, (fun _ => 0), 1))))], zArI fa (160) (g2), zBRow ht (t) (nt)]) [1, 0, 2] rfl rfl ?_
                refine zw_pack (at0 := zNum h (zI (wholeV n1 (realSum n1 (plS t d1 (frE t (scanE sDig t d1)) (scanE sDig t d1 - d1 - 1 + exV t (frE t (scanE sDig t d1)) q, 0, (fun _ => 0), 1))))) (realF n1 (plS t d1 (frE t (scanE sDig t d1)) (scanE sDig t d1 - d1 - 1 + exV t (frE t (scanE sDig t d1)) q, 0, (fun _ => 0), 1)))) (Ls := [zObj h 5 [.ref fa, .int (zI (n1)), .int (zI (d1)), .int (zI (frE t (scanE sDig t d1))), .int (zI ((scanE sDig t d1) - d1)), .int (zI (exV t (frE t (scanE sDig t d1)) q)), .int (zI (wholeV n1 (realSum n1 (plS t d1 (frE t (scanE sDig t d1)) (scanE sDig t d1 - d1 - 1 + exV t (frE t (scanE sDig t d1)) q, 0, (fun _ => 0), 1))))), .int (zI (realF n1 (plS t d1 (frE t (scanE sDig t d1)) (scanE sDig t d1 - d1 - 1 + exV t (frE t (scanE sDig t d1)) q, 0, (fun _ => 0), 1))))], zArI fa (160) (g2)]) (L2 := [zBRow ht (t) (nt)]) rfl (fun G w h => ⟨((fa, g2), n1, d1, frE t (scanE sDig t d1), (scanE sDig t d1) - d1, exV t (frE t (scanE sDig t d1)) q), ⟨(show 0 ≤ n1 ∧ n1 ≤ 1 by omega), rdS_ft (show rdS t p q v ft = _ from rd) hx2⟩, h⟩) ?_
                exact zw_iret hR (by rw [rd]) (by rw [rd]) rfl (by omega) (by omega) zd_NU_read_150
              · -- 140 -> 143
                exact absurd c140 (by decide)
            · -- none
              refine zw_aload_n 0 rfl zd_NU_read_134 ?_
              refine zw_aload_n 1 rfl zd_NU_read_135 ?_
              refine zw_iload_n 3 rfl zd_NU_read_136 ?_
              refine zw_callV (As := [.ref ht, .int (zI (q))]) (rest := []) (L2 := [zArI fa (160) (g)]) (L' := [zObj h 5 [.ref fa, .int (zI (n1)), .int (zI (d1)), .int (zI (frE t (scanE sDig t d1))), .int (zI ((scanE sDig t d1) - d1)), .int (zI (0)), .int (v), .int (zI (ft))], zBRow ht (t) (nt), zArI fa (160) (g)]) (stk' := [.int (zI (0))]) (c_NU_exp_no h fa n1 d1 (frE t (scanE sDig t d1)) ((scanE sDig t d1) - d1) ex v ft ht t nt q (by omega) q1 q2 hxp) [0, 1] [2] rfl rfl rfl zcal_NU_findExponent zl_NU_61 zin_NU_findExponent zse_NU_findExponent 0 rfl zRv_obj rfl (Nat.le_of_ble_eq_true rfl) (Nat.le_of_ble_eq_true rfl) (by omega) (by omega) rfl (Nat.le_of_ble_eq_true rfl) rfl rfl zd_NU_read_137 ?_
              refine zw_if_ne 145 (by omega) zd_NU_read_140 (by decide) (fun c140 => ?_) (fun c140 => ?_)
              · -- 140 -> 145
                exact absurd c140 (by decide)
              · -- 140 -> 143
                refine zw_iconst zd_NU_read_143 ?_
                refine zw_sub (L' := [zObj h 5 [.ref fa, .int (zI (n1)), .int (zI (d1)), .int (zI (frE t (scanE sDig t d1))), .int (zI ((scanE sDig t d1) - d1)), .int (zI (0)), .int (v), .int (zI (ft))], zArI fa (160) (g), zBRow ht (t) (nt)]) [0, 2, 1] rfl rfl ?_
                have rd : rdS t p q v ft = (3, v, ft) := by unfold rdS; rw [← j0, ← j1]; rw [if_neg (by omega), if_neg (by omega), if_neg (fun z => z.2.elim hfe hxp)]
                refine zw_pack (at0 := zNum h (v) (ft)) (Ls := [zObj h 5 [.ref fa, .int (zI (n1)), .int (zI (d1)), .int (zI (frE t (scanE sDig t d1))), .int (zI ((scanE sDig t d1) - d1)), .int (zI (0)), .int (v), .int (zI (ft))], zArI fa (160) (g)]) (L2 := [zBRow ht (t) (nt)]) rfl (fun G w h => ⟨((fa, g), n1, d1, frE t (scanE sDig t d1), (scanE sDig t d1) - d1, 0), ⟨(show 0 ≤ n1 ∧ n1 ≤ 1 by omega), rdS_ft (show rdS t p q v ft = _ from rd) hx2⟩, h⟩) ?_
                exact zw_iret hR (by rw [rd]) (by rw [rd]) rfl (by omega) (by omega) zd_NU_read_144
      · -- 103 -> 106
        refine zw_iload 4 rfl zd_NU_read_106 ?_
        refine zw_callS (a := 0) (As := [.int (zI (bget t p))]) (rest := []) (L2 := [zBRow ht (t) (nt), zObj h 5 [.ref fa, .int (zI (n1)), .int (zI (d1)), .int (zI (scanE sDig t d1)), .int (zI ((scanE sDig t d1) - d1)), .int (zI (ex)), .int (v), .int (zI (ft))], zArI fa (160) (g)]) (L' := [zBRow ht (t) (nt), zObj h 5 [.ref fa, .int (zI (n1)), .int (zI (d1)), .int (zI (scanE sDig t d1)), .int (zI ((scanE sDig t d1) - d1)), .int (zI (ex)), .int (v), .int (zI (ft))], zArI fa (160) (g)]) (stk' := [.int (zI (bI (sSign (bget t p))))]) (c_NU_isSign (bget t p) (by omega)) [] [0, 1, 2] rfl rfl rfl zcal_NU_isSign zl_NU_32 zst_NU_isSign (Nat.le_of_ble_eq_true rfl) (Nat.le_of_ble_eq_true rfl) (by omega) (by omega) rfl (Nat.le_of_ble_eq_true rfl) rfl rfl zd_NU_read_108 ?_
        have rb108 := bI_rg (sSign (bget t p))
        refine zw_if_eq 118 (by omega) zd_NU_read_111 (by decide) (fun c111 => ?_) (fun c111 => ?_)
        · -- 111 -> 118
          have hd10 : ∀ c ∈ slc t d1 (scanE sDig t d1), 0 ≤ digV c ∧ digV c ≤ 9 := by
            intro c hc
            obtain ⟨j, k1, k2, k3, rfl⟩ := slc_mem (by omega) hc
            have hb := hd57 j k1 k2
            unfold digV; rw [if_pos (by omega)]; omega
          have hsg : ¬ sSign (bget t p) = true := by rw [zbI0 (b := sSign (bget t p)) (by omega)]; decide
          by_cases hbp2 : basedP t d1 (scanE sDig t d1) (scanE sDig t d1 - d1) q
          · -- based True
            refine zw_aload_n 0 rfl zd_NU_read_118 ?_
            refine zw_aload_n 1 rfl zd_NU_read_119 ?_
            refine zw_iload_n 3 rfl zd_NU_read_120 ?_
            refine zw_callV (As := [.ref ht, .int (zI (q))]) (rest := []) (L2 := [zArI fa (160) (g)]) (L' := [zObj h 5 [.ref fa, .int (zI (n1)), .int (zI (d1)), .int (zI (scanE sDig t d1)), .int (zI ((scanE sDig t d1) - d1)), .int (zI (ex)), .int (zI (satV (satV 10 (slc t d1 (scanE sDig t d1))) (slc t (scanE sDig t d1 + 1) q))), .int (zI (bI (decide (satV (satV 10 (slc t d1 (scanE sDig t d1))) (slc t (scanE sDig t d1 + 1) q) < 4294967296))))], zBRow ht (t) (nt), zArI fa (160) (g)]) (stk' := [.int (zI (1))]) (c_NU_based_ok h fa n1 d1 (scanE sDig t d1) ((scanE sDig t d1) - d1) ex v ft ht t nt q (by omega) rfl hd10 hbp2) [1, 0] [2] rfl rfl rfl zcal_NU_readWithBase zl_NU_53 zin_NU_readWithBase zse_NU_readWithBase 0 rfl zRv_obj rfl (Nat.le_of_ble_eq_true rfl) (Nat.le_of_ble_eq_true rfl) (by omega) (by omega) rfl (Nat.le_of_ble_eq_true rfl) rfl rfl zd_NU_read_121 ?_
            refine zw_sub (L' := [zObj h 5 [.ref fa, .int (zI (n1)), .int (zI (d1)), .int (zI (scanE sDig t d1)), .int (zI ((scanE sDig t d1) - d1)), .int (zI (ex)), .int (zI (satV (satV 10 (slc t d1 (scanE sDig t d1))) (slc t (scanE sDig t d1 + 1) q))), .int (zI (bI (decide (satV (satV 10 (slc t d1 (scanE sDig t d1))) (slc t (scanE sDig t d1 + 1) q) < 4294967296))))], zArI fa (160) (g), zBRow ht (t) (nt)]) [0, 2, 1] rfl rfl ?_
            have rd : rdS t p q v ft = (1, zI (satV (satV 10 (slc t d1 (scanE sDig t d1))) (slc t (scanE sDig t d1 + 1) q)), bI (decide (satV (satV 10 (slc t d1 (scanE sDig t d1))) (slc t (scanE sDig t d1 + 1) q) < 4294967296))) := by unfold rdS; rw [← j0, ← j1]; rw [if_neg (by omega), if_pos (by omega), if_neg hsg, if_pos hbp2]
            refine zw_pack (at0 := zNum h (zI (satV (satV 10 (slc t d1 (scanE sDig t d1))) (slc t (scanE sDig t d1 + 1) q))) (bI (decide (satV (satV 10 (slc t d1 (scanE sDig t d1))) (slc t (scanE sDig t d1 + 1) q) < 4294967296)))) (Ls := [zObj h 5 [.ref fa, .int (zI (n1)), .int (zI (d1)), .int (zI (scanE sDig t d1)), .int (zI ((scanE sDig t d1) - d1)), .int (zI (ex)), .int (zI (satV (satV 10 (slc t d1 (scanE sDig t d1))) (slc t (scanE sDig t d1 + 1) q))), .int (zI (bI (decide (satV (satV 10 (slc t d1 (scanE sDig t d1))) (slc t (scanE sDig t d1 + 1) q) < 4294967296))))], zArI fa (160) (g)]) (L2 := [zBRow ht (t) (nt)]) rfl (fun G w h => ⟨((fa, g), n1, d1, scanE sDig t d1, (scanE sDig t d1) - d1, ex), ⟨(show 0 ≤ n1 ∧ n1 ≤ 1 by omega), rdS_ft (show rdS t p q v ft = _ from rd) hx2⟩, h⟩) ?_
            exact zw_iret hR (by rw [rd]) (by rw [rd]) rfl (by omega) (by omega) zd_NU_read_124
          · -- based False
            refine zw_aload_n 0 rfl zd_NU_read_118 ?_
            refine zw_aload_n 1 rfl zd_NU_read_119 ?_
            refine zw_iload_n 3 rfl zd_NU_read_120 ?_
            refine zw_callV (As := [.ref ht, .int (zI (q))]) (rest := []) (L2 := [zArI fa (160) (g)]) (L' := [zObj h 5 [.ref fa, .int (zI (n1)), .int (zI (d1)), .int (zI (scanE sDig t d1)), .int (zI ((scanE sDig t d1) - d1)), .int (zI (ex)), .int (v), .int (zI (ft))], zBRow ht (t) (nt), zArI fa (160) (g)]) (stk' := [.int (zI (3))]) (c_NU_based_no h fa n1 d1 (scanE sDig t d1) ((scanE sDig t d1) - d1) ex v ft ht t nt q (by omega) rfl hd10 hbp2) [1, 0] [2] rfl rfl rfl zcal_NU_readWithBase zl_NU_53 zin_NU_readWithBase zse_NU_readWithBase 0 rfl zRv_obj rfl (Nat.le_of_ble_eq_true rfl) (Nat.le_of_ble_eq_true rfl) (by omega) (by omega) rfl (Nat.le_of_ble_eq_true rfl) rfl rfl zd_NU_read_121 ?_
            refine zw_sub (L' := [zObj h 5 [.ref fa, .int (zI (n1)), .int (zI (d1)), .int (zI (scanE sDig t d1)), .int (zI ((scanE sDig t d1) - d1)), .int (zI (ex)), .int (v), .int (zI (ft))], zArI fa (160) (g), zBRow ht (t) (nt)]) [0, 2, 1] rfl rfl ?_
            have rd : rdS t p q v ft = (3, v, ft) := by unfold rdS; rw [← j0, ← j1]; rw [if_neg (by omega), if_pos (by omega), if_neg hsg, if_neg hbp2]
            refine zw_pack (at0 := zNum h (v) (ft)) (Ls := [zObj h 5 [.ref fa, .int (zI (n1)), .int (zI (d1)), .int (zI (scanE sDig t d1)), .int (zI ((scanE sDig t d1) - d1)), .int (zI (ex)), .int (v), .int (zI (ft))], zArI fa (160) (g)]) (L2 := [zBRow ht (t) (nt)]) rfl (fun G w h => ⟨((fa, g), n1, d1, scanE sDig t d1, (scanE sDig t d1) - d1, ex), ⟨(show 0 ≤ n1 ∧ n1 ≤ 1 by omega), rdS_ft (show rdS t p q v ft = _ from rd) hx2⟩, h⟩) ?_
            exact zw_iret hR (by rw [rd]) (by rw [rd]) rfl (by omega) (by omega) zd_NU_read_124
        · -- 111 -> 114
          refine zw_iconst zd_NU_read_114 ?_
          refine zw_goto 124 zd_NU_read_115 (by decide) ?_
          refine zw_sub (L' := [zObj h 5 [.ref fa, .int (zI (n1)), .int (zI (d1)), .int (zI (scanE sDig t d1)), .int (zI ((scanE sDig t d1) - d1)), .int (zI (ex)), .int (v), .int (zI (ft))], zArI fa (160) (g), zBRow ht (t) (nt)]) [1, 2, 0] rfl rfl ?_
          have rd : rdS t p q v ft = (3, v, ft) := by unfold rdS; rw [← j0, ← j1]; rw [if_neg (by omega), if_pos (by omega), if_pos (zbI1 (by omega))]
          refine zw_pack (at0 := zNum h (v) (ft)) (Ls := [zObj h 5 [.ref fa, .int (zI (n1)), .int (zI (d1)), .int (zI (scanE sDig t d1)), .int (zI ((scanE sDig t d1) - d1)), .int (zI (ex)), .int (v), .int (zI (ft))], zArI fa (160) (g)]) (L2 := [zBRow ht (t) (nt)]) rfl (fun G w h => ⟨((fa, g), n1, d1, scanE sDig t d1, (scanE sDig t d1) - d1, ex), ⟨(show 0 ≤ n1 ∧ n1 ≤ 1 by omega), rdS_ft (show rdS t p q v ft = _ from rd) hx2⟩, h⟩) ?_
          exact zw_iret hR (by rw [rd]) (by rw [rd]) rfl (by omega) (by omega) zd_NU_read_124
    · -- 73 -> 76
      refine zw_aload_n 0 rfl zd_NU_read_76 ?_
      refine zw_get zc_NU 1 4 rfl (by decide) zf_NU_46 rfl zd_NU_read_77 ?_
      refine zw_if_le 91 (by omega) zd_NU_read_80 (by decide) (fun c80 => ?_) (fun c80 => ?_)
      · -- 80 -> 91
        refine zw_iconst zd_NU_read_91 ?_
        refine zw_sub (L' := [zObj h 5 [.ref fa, .int (zI (n1)), .int (zI (d1)), .int (zI (scanE sDig t d1)), .int (zI ((scanE sDig t d1) - d1)), .int (zI (ex)), .int (v), .int (zI (ft))], zArI fa (160) (g), zBRow ht (t) (nt)]) [1, 2, 0] rfl rfl ?_
        have rd : rdS t p q v ft = (3, v, ft) := by unfold rdS; rw [← j0, ← j1]; rw [if_pos (by omega), if_neg (by omega)]
        refine zw_pack (at0 := zNum h (v) (ft)) (Ls := [zObj h 5 [.ref fa, .int (zI (n1)), .int (zI (d1)), .int (zI (scanE sDig t d1)), .int (zI ((scanE sDig t d1) - d1)), .int (zI (ex)), .int (v), .int (zI (ft))], zArI fa (160) (g)]) (L2 := [zBRow ht (t) (nt)]) rfl (fun G w h => ⟨((fa, g), n1, d1, scanE sDig t d1, (scanE sDig t d1) - d1, ex), ⟨(show 0 ≤ n1 ∧ n1 ≤ 1 by omega), rdS_ft (show rdS t p q v ft = _ from rd) hx2⟩, h⟩) ?_
        exact zw_iret hR (by rw [rd]) (by rw [rd]) rfl (by omega) (by omega) zd_NU_read_92
      · -- 80 -> 83
        have hd10 : ∀ c ∈ slc t d1 (scanE sDig t d1), 0 ≤ digV c ∧ digV c ≤ 9 := by
          intro c hc
          obtain ⟨j, k1, k2, k3, rfl⟩ := slc_mem (by omega) hc
          have hb := hd57 j k1 k2
          unfold digV; rw [if_pos (by omega)]; omega
        refine zw_aload_n 0 rfl zd_NU_read_83 ?_
        refine zw_aload_n 1 rfl zd_NU_read_84 ?_
        refine zw_callV (As := [.ref ht]) (rest := []) (L2 := [zArI fa (160) (g)]) (L' := [zObj h 5 [.ref fa, .int (zI (n1)), .int (zI (d1)), .int (zI (scanE sDig t d1)), .int (zI ((scanE sDig t d1) - d1)), .int (zI (ex)), .int (zI (wholeV n1 (satV 10 (slc t d1 (scanE sDig t d1))))), .int (zI (wholeF n1 (satV 10 (slc t d1 (scanE sDig t d1)))))], zBRow ht (t) (nt), zArI fa (160) (g)]) (stk' := [.int (zI (1))]) (c_NU_readWhole h fa n1 d1 (scanE sDig t d1) ((scanE sDig t d1) - d1) ex v ft ht t nt (by omega) (by omega) (fun c hc => (hd10 c hc).1)) [1, 0] [2] rfl rfl rfl zcal_NU_readWhole zl_NU_49 zin_NU_readWhole zse_NU_readWhole 0 rfl zRv_obj rfl (Nat.le_of_ble_eq_true rfl) (Nat.le_of_ble_eq_true rfl) (by omega) (by omega) rfl (Nat.le_of_ble_eq_true rfl) rfl rfl zd_NU_read_85 ?_
        refine zw_goto 92 zd_NU_read_88 (by decide) ?_
        refine zw_sub (L' := [zObj h 5 [.ref fa, .int (zI (n1)), .int (zI (d1)), .int (zI (scanE sDig t d1)), .int (zI ((scanE sDig t d1) - d1)), .int (zI (ex)), .int (zI (wholeV n1 (satV 10 (slc t d1 (scanE sDig t d1))))), .int (zI (wholeF n1 (satV 10 (slc t d1 (scanE sDig t d1)))))], zArI fa (160) (g), zBRow ht (t) (nt)]) [0, 2, 1] rfl rfl ?_
        have rd : rdS t p q v ft = (1, zI (wholeV n1 (satV 10 (slc t d1 (scanE sDig t d1)))), wholeF n1 (satV 10 (slc t d1 (scanE sDig t d1)))) := by unfold rdS; rw [← j0, ← j1]; rw [if_pos (by omega), if_pos (by omega)]
        refine zw_pack (at0 := zNum h (zI (wholeV n1 (satV 10 (slc t d1 (scanE sDig t d1))))) (wholeF n1 (satV 10 (slc t d1 (scanE sDig t d1))))) (Ls := [zObj h 5 [.ref fa, .int (zI (n1)), .int (zI (d1)), .int (zI (scanE sDig t d1)), .int (zI ((scanE sDig t d1) - d1)), .int (zI (ex)), .int (zI (wholeV n1 (satV 10 (slc t d1 (scanE sDig t d1))))), .int (zI (wholeF n1 (satV 10 (slc t d1 (scanE sDig t d1)))))], zArI fa (160) (g)]) (L2 := [zBRow ht (t) (nt)]) rfl (fun G w h => ⟨((fa, g), n1, d1, scanE sDig t d1, (scanE sDig t d1) - d1, ex), ⟨(show 0 ≤ n1 ∧ n1 ≤ 1 by omega), rdS_ft (show rdS t p q v ft = _ from rd) hx2⟩, h⟩) ?_
        exact zw_iret hR (by rw [rd]) (by rw [rd]) rfl (by omega) (by omega) zd_NU_read_92
  refine zw_aload_n 1 rfl zd_NU_read_0 ?_
  refine zw_iload_n 2 rfl zd_NU_read_1 ?_
  refine zw_callV (As := [.int (zI (p))]) (rest := []) (L2 := [zObj h 5 [.ref fa, .int (zI (ng)), .int (zI (db)), .int (zI (de)), .int (zI (wd)), .int (zI (ex)), .int (v), .int (zI (ft))], zArI fa (160) (g)]) (L' := [zBRow ht (t) (nt), zObj h 5 [.ref fa, .int (zI (ng)), .int (zI (db)), .int (zI (de)), .int (zI (wd)), .int (zI (ex)), .int (v), .int (zI (ft))], zArI fa (160) (g)]) (stk' := [.int (zI (bget t p))]) (c_BR_get ht (t) (nt) (p) (by omega)) [2] [0, 1] rfl rfl rfl zcal_BR_get zl_NU_23 zin_BR_get zse_BR_get 0 rfl zRv_BRow rfl (Nat.le_of_ble_eq_true rfl) (Nat.le_of_ble_eq_true rfl) (by omega) (by omega) rfl (Nat.le_of_ble_eq_true rfl) rfl rfl zd_NU_read_2 ?_
  have rg2 := bget_rg hby (p)
  refine zw_istore (lv' := [(4, .int (zI (bget t p))), (0, .ref h), (1, .ref ht), (2, .int (zI (p))), (3, .int (zI (q)))]) (Nat.le_of_ble_eq_true rfl) rfl zd_NU_read_5 ?_
  refine zw_aload_n 1 rfl zd_NU_read_7 ?_
  refine zw_iload 0 rfl zd_NU_read_8 ?_
  refine zw_bipush rfl zd_NU_read_10 ?_
  refine zw_icmp_ne 19 (by omega) (by omega) zd_NU_read_12 (by decide) (fun c12 => ?_) (fun c12 => ?_)
  · -- 12 -> 19
    refine zw_iconst zd_NU_read_19 ?_
    refine zw_put (L' := [zBRow ht (t) (nt), zObj h 5 [.ref fa, .int (zI (0)), .int (zI (db)), .int (zI (de)), .int (zI (wd)), .int (zI (ex)), .int (v), .int (zI (ft))], zArI fa (160) (g)]) zc_NU 1 1 rfl (by decide) zf_NU_29 rfl rfl rfl (Nat.le_of_ble_eq_true rfl) rfl zd_NU_read_20 ?_
    refine zw_aload_n 1 rfl zd_NU_read_23 ?_
    refine zw_iload 0 rfl zd_NU_read_24 ?_
    refine zw_callS (a := 0) (As := [.int (zI (bget t p))]) (rest := [.ref h]) (L2 := [zBRow ht (t) (nt), zObj h 5 [.ref fa, .int (zI (0)), .int (zI (db)), .int (zI (de)), .int (zI (wd)), .int (zI (ex)), .int (v), .int (zI (ft))], zArI fa (160) (g)]) (L' := [zBRow ht (t) (nt), zObj h 5 [.ref fa, .int (zI (0)), .int (zI (db)), .int (zI (de)), .int (zI (wd)), .int (zI (ex)), .int (v), .int (zI (ft))], zArI fa (160) (g)]) (stk' := [.int (zI (bI (sSign (bget t p)))), .ref h]) (c_NU_isSign (bget t p) (by omega)) [] [0, 1, 2] rfl rfl rfl zcal_NU_isSign zl_NU_32 zst_NU_isSign (Nat.le_of_ble_eq_true rfl) (Nat.le_of_ble_eq_true rfl) (by omega) (by omega) rfl (Nat.le_of_ble_eq_true rfl) rfl rfl zd_NU_read_26 ?_
    have rb26 := bI_rg (sSign (bget t p))
    refine zw_if_eq 38 (by omega) zd_NU_read_29 (by decide) (fun c29 => ?_) (fun c29 => ?_)
    · -- 29 -> 38
      refine zw_iload_n 3 rfl zd_NU_read_38 ?_
      refine zw_put (L' := [zBRow ht (t) (nt), zObj h 5 [.ref fa, .int (zI (0)), .int (zI (p)), .int (zI (de)), .int (zI (wd)), .int (zI (ex)), .int (v), .int (zI (ft))], zArI fa (160) (g)]) zc_NU 1 2 rfl (by decide) zf_NU_36 rfl rfl rfl (Nat.le_of_ble_eq_true rfl) rfl zd_NU_read_39 ?_
      refine zw_sub (L' := [zObj h 5 [.ref fa, .int (zI (0)), .int (zI (p)), .int (zI (de)), .int (zI (wd)), .int (zI (ex)), .int (v), .int (zI (ft))], zArI fa (160) (g), zBRow ht (t) (nt)]) [1, 2, 0] rfl rfl ?_
      refine zw_lpick (lv' := [(0, .ref h), (1, .ref ht), (2, .int (zI (p))), (3, .int (zI (q))), (4, .int (zI (bget t p)))]) [1, 2, 3, 4, 0] rfl ?_
      refine zw_widen (k' := 0) (n' := 0) (by omega) (by omega) ?_
      exact jn (0) (p) (by rw [rdN, bI]; first | rw [if_pos (decide_eq_true (by omega))] | rw [if_neg (by simp only [decide_eq_true_eq]; omega)]) (by rw [rdB]; first | rw [if_pos (zbI1 (by omega))] | rw [if_neg (by rw [zbI0 (b := sSign (bget t p)) (by omega)]; decide)])
    · -- 29 -> 32
      refine zw_iload_n 3 rfl zd_NU_read_32 ?_
      refine zw_iconst zd_NU_read_33 ?_
      refine zw_iadd zd_NU_read_34 ?_
      refine zw_goto 39 zd_NU_read_35 (by decide) ?_
      refine zw_put (L' := [zBRow ht (t) (nt), zObj h 5 [.ref fa, .int (zI (0)), .int (zI (p + 1)), .int (zI (de)), .int (zI (wd)), .int (zI (ex)), .int (v), .int (zI (ft))], zArI fa (160) (g)]) zc_NU 1 2 rfl (by decide) zf_NU_36 rfl rfl rfl (Nat.le_of_ble_eq_true rfl) rfl zd_NU_read_39 ?_
      refine zw_sub (L' := [zObj h 5 [.ref fa, .int (zI (0)), .int (zI (p + 1)), .int (zI (de)), .int (zI (wd)), .int (zI (ex)), .int (v), .int (zI (ft))], zArI fa (160) (g), zBRow ht (t) (nt)]) [1, 2, 0] rfl rfl ?_
      refine zw_lpick (lv' := [(0, .ref h), (1, .ref ht), (2, .int (zI (p))), (3, .int (zI (q))), (4, .int (zI (bget t p)))]) [1, 2, 3, 4, 0] rfl ?_
      refine zw_widen (k' := 0) (n' := 0) (by omega) (by omega) ?_
      exact jn (0) (p + 1) (by rw [rdN, bI]; first | rw [if_pos (decide_eq_true (by omega))] | rw [if_neg (by simp only [decide_eq_true_eq]; omega)]) (by rw [rdB]; first | rw [if_pos (zbI1 (by omega))] | rw [if_neg (by rw [zbI0 (b := sSign (bget t p)) (by omega)]; decide)])
  · -- 12 -> 15
    refine zw_iconst zd_NU_read_15 ?_
    refine zw_goto 20 zd_NU_read_16 (by decide) ?_
    refine zw_put (L' := [zBRow ht (t) (nt), zObj h 5 [.ref fa, .int (zI (1)), .int (zI (db)), .int (zI (de)), .int (zI (wd)), .int (zI (ex)), .int (v), .int (zI (ft))], zArI fa (160) (g)]) zc_NU 1 1 rfl (by decide) zf_NU_29 rfl rfl rfl (Nat.le_of_ble_eq_true rfl) rfl zd_NU_read_20 ?_
    refine zw_aload_n 1 rfl zd_NU_read_23 ?_
    refine zw_iload 0 rfl zd_NU_read_24 ?_
    refine zw_callS (a := 0) (As := [.int (zI (bget t p))]) (rest := [.ref h]) (L2 := [zBRow ht (t) (nt), zObj h 5 [.ref fa, .int (zI (1)), .int (zI (db)), .int (zI (de)), .int (zI (wd)), .int (zI (ex)), .int (v), .int (zI (ft))], zArI fa (160) (g)]) (L' := [zBRow ht (t) (nt), zObj h 5 [.ref fa, .int (zI (1)), .int (zI (db)), .int (zI (de)), .int (zI (wd)), .int (zI (ex)), .int (v), .int (zI (ft))], zArI fa (160) (g)]) (stk' := [.int (zI (bI (sSign (bget t p)))), .ref h]) (c_NU_isSign (bget t p) (by omega)) [] [0, 1, 2] rfl rfl rfl zcal_NU_isSign zl_NU_32 zst_NU_isSign (Nat.le_of_ble_eq_true rfl) (Nat.le_of_ble_eq_true rfl) (by omega) (by omega) rfl (Nat.le_of_ble_eq_true rfl) rfl rfl zd_NU_read_26 ?_
    have rb26 := bI_rg (sSign (bget t p))
    refine zw_if_eq 38 (by omega) zd_NU_read_29 (by decide) (fun c29 => ?_) (fun c29 => ?_)
    · -- 29 -> 38
      refine zw_iload_n 3 rfl zd_NU_read_38 ?_
      refine zw_put (L' := [zBRow ht (t) (nt), zObj h 5 [.ref fa, .int (zI (1)), .int (zI (p)), .int (zI (de)), .int (zI (wd)), .int (zI (ex)), .int (v), .int (zI (ft))], zArI fa (160) (g)]) zc_NU 1 2 rfl (by decide) zf_NU_36 rfl rfl rfl (Nat.le_of_ble_eq_true rfl) rfl zd_NU_read_39 ?_
      refine zw_sub (L' := [zObj h 5 [.ref fa, .int (zI (1)), .int (zI (p)), .int (zI (de)), .int (zI (wd)), .int (zI (ex)), .int (v), .int (zI (ft))], zArI fa (160) (g), zBRow ht (t) (nt)]) [1, 2, 0] rfl rfl ?_
      refine zw_lpick (lv' := [(0, .ref h), (1, .ref ht), (2, .int (zI (p))), (3, .int (zI (q))), (4, .int (zI (bget t p)))]) [1, 2, 3, 4, 0] rfl ?_
      refine zw_widen (k' := 0) (n' := 0) (by omega) (by omega) ?_
      exact jn (1) (p) (by rw [rdN, bI]; first | rw [if_pos (decide_eq_true (by omega))] | rw [if_neg (by simp only [decide_eq_true_eq]; omega)]) (by rw [rdB]; first | rw [if_pos (zbI1 (by omega))] | rw [if_neg (by rw [zbI0 (b := sSign (bget t p)) (by omega)]; decide)])
    · -- 29 -> 32
      refine zw_iload_n 3 rfl zd_NU_read_32 ?_
      refine zw_iconst zd_NU_read_33 ?_
      refine zw_iadd zd_NU_read_34 ?_
      refine zw_goto 39 zd_NU_read_35 (by decide) ?_
      refine zw_put (L' := [zBRow ht (t) (nt), zObj h 5 [.ref fa, .int (zI (1)), .int (zI (p + 1)), .int (zI (de)), .int (zI (wd)), .int (zI (ex)), .int (v), .int (zI (ft))], zArI fa (160) (g)]) zc_NU 1 2 rfl (by decide) zf_NU_36 rfl rfl rfl (Nat.le_of_ble_eq_true rfl) rfl zd_NU_read_39 ?_
      refine zw_sub (L' := [zObj h 5 [.ref fa, .int (zI (1)), .int (zI (p + 1)), .int (zI (de)), .int (zI (wd)), .int (zI (ex)), .int (v), .int (zI (ft))], zArI fa (160) (g), zBRow ht (t) (nt)]) [1, 2, 0] rfl rfl ?_
      refine zw_lpick (lv' := [(0, .ref h), (1, .ref ht), (2, .int (zI (p))), (3, .int (zI (q))), (4, .int (zI (bget t p)))]) [1, 2, 3, 4, 0] rfl ?_
      refine zw_widen (k' := 0) (n' := 0) (by omega) (by omega) ?_
      exact jn (1) (p + 1) (by rw [rdN, bI]; first | rw [if_pos (decide_eq_true (by omega))] | rw [if_neg (by simp only [decide_eq_true_eq]; omega)]) (by rw [rdB]; first | rw [if_pos (zbI1 (by omega))] | rw [if_neg (by rw [zbI0 (b := sSign (bget t p)) (by omega)]; decide)])
