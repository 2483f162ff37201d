/-! the model: a row, a word -/
theorem rdB_rg (t : List Int) (z : Int) : (rdB t z = z + 1 ∧ sSign (bget t z) = true) ∨ (rdB t z = z ∧ sSign (bget t z) = false) := by
  unfold rdB
  cases h : sSign (bget t z) with
  | true => rw [if_pos rfl]; exact Or.inl ⟨rfl, rfl⟩
  | false => rw [if_neg (by decide)]; exact Or.inr ⟨rfl, rfl⟩
theorem row_whole {t : List Int} {z q : Int} (h1 : scanE sDig t (rdB t z) = q) (h2 : rdB t z < q) : rdK t z q = (1, zI (wholeV (rdN t z) (satV 10 (slc t (rdB t z) q))), wholeF (rdN t z) (satV 10 (slc t (rdB t z) q))) := by
  unfold rdK rdS
  rw [if_pos h1, h1, if_pos (by omega)]
theorem isB_nosign {t : List Int} {z q : Int} (h0 : 0 ≤ z) (h : isB t z q) : rdB t z = z := by
  rcases rdB_rg t z with ⟨h1, h2⟩ | ⟨h1, h2⟩
  · exfalso
    have h3 : bget t z = 43 ∨ bget t z = 45 := of_decide_eq_true h2
    have h4 : scanE sDig t z = z := scanE_uniq h0 (Int.le_refl _) (fun j a b => by omega) (fun c => by have h5 : 48 ≤ bget t z ∧ bget t z ≤ 57 := of_decide_eq_true c.2; omega)
    have h6 := h.1
    rw [h4] at h6
    omega
  · exact h1
theorem row_based {t : List Int} {z q : Int} (h0 : 0 ≤ z) (hb : isB t z q) (hq : bget t q ≠ 35) : rdK t z q = (1, zI (satV (satV 10 (slc t z (scanE sDig t z))) (slc t (scanE sDig t z + 1) q)), bI (decide (satV (satV 10 (slc t z (scanE sDig t z))) (slc t (scanE sDig t z + 1) q) < 4294967296))) := by
  have h1 := isB_nosign h0 hb
  have h2 : sSign (bget t z) = false := by
    rcases rdB_rg t z with ⟨a, b⟩ | ⟨a, b⟩
    · omega
    · exact b
  unfold rdK rdS
  rw [h1, if_neg (fun e => hq (by rw [← e]; exact hb.1)), if_pos hb.1, h2, if_neg (by decide), if_pos hb.2]
theorem endP_e {t : List Int} {q : Int} (h : endP t q) : bget t q ≠ 101 ∧ bget t q ≠ 69 := by
  refine ⟨fun e => ?_, fun e => ?_⟩ <;>
  · unfold endP at h
    rw [e] at h
    rcases h with h | h
    · omega
    · revert h; decide
theorem isRl_ne {t : List Int} {f q : Int} (hq : endP t q) (h : isRl t f q) : scanE sDig t f ≠ q ∧ bget t (scanE sDig t f) ≠ 35 := by
  have e1 := endP_facts hq
  have e2 := endP_e hq
  obtain ⟨h1, h2⟩ := h
  refine ⟨fun e => ?_, fun e => ?_⟩
  · rw [e] at h2
    have e3 : frE t q = q := by unfold frE; rw [if_neg e1.2.2.2]
    rw [e3] at h2
    rcases h2 with h2 | h2
    · exact e1.2.2.2 h2.2
    · rcases h2.1 with c | c
      · exact e2.1 c
      · exact e2.2 c
  · have e3 : frE t (scanE sDig t f) = scanE sDig t f := by unfold frE; rw [if_neg (by omega)]
    rw [e3] at h2
    rcases h2 with h2 | h2
    · omega
    · have := h2.1
      omega
theorem row_real {t : List Int} {z q : Int} (hq : endP t q) (h : isRl t (rdB t z) q) : rdK t z q = (2, zI (wholeV (rdN t z) (realSum (rdN t z) (plS t (rdB t z) (frE t (scanE sDig t (rdB t z))) (scanE sDig t (rdB t z) - rdB t z - 1 + rdX t (frE t (scanE sDig t (rdB t z))) q, 0, (fun _ => 0), 1)))), realF (rdN t z) (plS t (rdB t z) (frE t (scanE sDig t (rdB t z))) (scanE sDig t (rdB t z) - rdB t z - 1 + rdX t (frE t (scanE sDig t (rdB t z))) q, 0, (fun _ => 0), 1))) := by
  obtain ⟨h1, h2⟩ := isRl_ne hq h
  unfold rdK rdS
  rw [if_neg h1, if_neg h2, if_pos ⟨h.1, h.2.imp (fun c => c.1) id⟩]
theorem row_name {t : List Int} {z q : Int} (h1 : ¬ (rdB t z < scanE sDig t (rdB t z) ∧ scanE sDig t (rdB t z) = q)) (h2 : ¬ isB t z q) (h3 : ¬ isRl t (rdB t z) q) : (rdK t z q).1 = 3 := by
  unfold rdK rdS
  split
  · rename_i e
    rw [if_neg (by omega)]
  · rename_i e
    split
    · rename_i e2
      split
      · rfl
      · rename_i e3
        have e4 : rdB t z = z := by
          rcases rdB_rg t z with ⟨a, b⟩ | ⟨a, b⟩
          · exact absurd b e3
          · exact a
        rw [e4] at e2
        rw [e4, if_neg (fun c => h2 ⟨e2, c⟩)]
    · rename_i e2
      rw [if_neg]
      rintro ⟨c1, c2⟩
      refine h3 ⟨c1, ?_⟩
      rcases c2 with c2 | c2
      · refine Or.inl ⟨c2, ?_⟩
        refine Classical.byContradiction (fun c3 => e ?_)
        unfold frE at c2
        rw [if_neg c3] at c2
        exact c2
      · exact Or.inr c2
theorem realF_01 (ng : Int) (P : Int × Int × (Nat → Int) × Int) : realF ng P = 1 ∨ realF ng P = 0 := by
  unfold realF
  split
  · exact Or.inl rfl
  · exact Or.inr rfl
theorem wholeF_01 (ng s : Int) : wholeF ng s = 1 ∨ wholeF ng s = 0 := by
  unfold wholeF
  split
  · exact Or.inl rfl
  · exact Or.inr rfl
theorem rowS_num {t : List Int} {u : zU} {q k x f : Int} (h0 : rowE t u.p = q) (h1 : q - u.p ≤ 127) (h2 : rdK t u.p q = (k, zI x, f)) (hk : k ≠ 3) : rowS t u = if f = 0 then flS u 5 u.p else ⟨q, u.ws ++ [(zI k, zI x, zI u.p)], u.ts, u.op, u.y, u.r, [], u.mb⟩ := by
  unfold rowS
  rw [h0, h2, if_neg (by omega), if_neg hk]
theorem rowS_name {t : List Int} {u : zU} {q : Int} (h0 : rowE t u.p = q) (h1 : q - u.p ≤ 127) (h2 : (rdK t u.p q).1 = 3) : rowS t u = txS u 3 (slc t u.p q) q := by
  unfold rowS
  rw [h0, if_neg (by omega), if_pos h2]
theorem rowS_long {t : List Int} {u : zU} (h : 127 < rowE t u.p - u.p) : rowS t u = flS u 6 u.p := by
  unfold rowS
  rw [if_pos h]
set_option maxHeartbeats 4000000 in
set_option maxRecDepth 100000 in
theorem c_MO_row (h : Nat) (t : List Int) (ws : List (Int32 × Int32 × Int32)) (ts : List (List Int)) (op : List Int) (r ct wh : Int) (fd fr : Nat → Int32) (z q : Int) (hz : 0 ≤ z ∧ z < t.length) (hq : scanE sPlain t z = q) (hzq : z < q) (hl : ts.length < 16384) (hw : ws.length < 16384) (hF : ts.flatten.length + t.length < 60000) (u1 : zU) (hu : rowS t (z, ws, ts, op, 0, r, [], 0) = u1) : zCT zy_MO_row zm_MO_row (0) (0) [.ref h, .int (zI z), .int (zI q)] [zMOd h (t) (ws) (ts) ([]) (op) (0) (r) (ct) (wh) (fd) (fr)] (some (.int (zI (if u1.y = 0 then u1.p else -1)))) [zMOy h (t) (u1.ws) (u1.ts) (u1.op) (u1.y) (u1.r)] := by
  refine zCT.of [(0, .ref h), (1, .int (zI (z))), (2, .int (zI (q)))] rfl (by decide) rfl (fun h => by first | rfl | cases h) (Nat.le_of_ble_eq_true rfl) (fun X hR => ?_)
  refine zw_fact 0 rfl (fun G w h => zMOd_fact h) (fun mf => ?_)
  obtain ⟨⟨ht1, hby⟩, hw1, ⟨hs1, hs2, hs3⟩, ho1⟩ := mf
  obtain ⟨s1, s2, s3, s4⟩ := scanE_spec (f := sPlain) (t := t) (p := z) (by omega)
  have s5 := s2 (by omega)
  rw [hq] at s1 s3 s4 s5
  have hrE : rowE t z = min q (z + 128) := by unfold rowE; rw [hq]
  have rB := rdB_rg t z
  refine zw_iload_n 2 rfl zd_MO_row_0 ?_
  refine zw_iload_n 1 rfl zd_MO_row_1 ?_
  refine zw_isub zd_MO_row_2 ?_
  refine zw_bipush rfl zd_MO_row_3 ?_
  refine zw_icmp_le 16 (by omega) (by omega) zd_MO_row_5 (by decide) (fun c5 => ?_) (fun c5 => ?_)
  · -- 5 -> 16
    have hrq : rowE t z = q := by omega
    have hend : endP t q := hrq ▸ rowE_endP (t := t) (p := z) (by omega) (by omega)
    obtain ⟨n1, n2, n3, n4⟩ := endP_facts hend
    have j34 : zZ X zm_MO_row (0) (0) (0) (0) [zMOd h (t) (ws) (ts) ([]) (op) (0) (r) (ct) (wh) (fd) (fr)] 34 [(0, .ref h), (1, .int (zI (z))), (2, .int (zI (q)))] [.int (zI (rdB t z))] := by
      have hfz : z ≤ rdB t z ∧ rdB t z ≤ z + 1 := by omega
      obtain ⟨d1, d2, d3⟩ := scanD_rg (t := t) (f := rdB t z) (e := q) (by omega) n1
      have dz := scanD_rg (t := t) (f := z) (e := q) (by omega) n1
      have j62 : ¬ (rdB t z < scanE sDig t (rdB t z) ∧ scanE sDig t (rdB t z) = q) → zZ X zm_MO_row (0) (0) (0) (0) [zMOd h (t) (ws) (ts) ([]) (op) (0) (r) (ct) (wh) (fd) (fr)] 62 [(0, .ref h), (1, .int (zI (z))), (2, .int (zI (q))), (3, .int (zI (rdB t z)))] [] := by
        intro hnw
        by_cases hB : isB t z q
        · have hK := row_based (by omega) hB n3
          by_cases hft : satV (satV 10 (slc t z (scanE sDig t z))) (slc t (scanE sDig t z + 1) q) < 4294967296
          · rw [decide_eq_true hft] at hK
            refine zw_aload_n 0 rfl zd_MO_row_62 ?_
            refine zw_iload_n 1 rfl zd_MO_row_63 ?_
            refine zw_iload_n 2 rfl zd_MO_row_64 ?_
            refine zw_callV (As := [.int (zI (z)), .int (zI (q))]) (rest := []) (L2 := []) (L' := [zMOd h (t) (ws) (ts) ([]) (op) (0) (r) (ct) (wh) (fd) (fr)]) (stk' := [.int (zI (1))]) (c_MO_isBased_yes h t ws ts op 0 r ct wh fd fr z q (by omega) hB) [0] [] rfl rfl rfl zcal_MO_isBased zl_MO_94 zin_MO_isBased zse_MO_isBased 0 rfl zRv_MOd rfl (Nat.le_of_ble_eq_true rfl) (Nat.le_of_ble_eq_true rfl) (by omega) (by omega) rfl (Nat.le_of_ble_eq_true rfl) rfl rfl zd_MO_row_65 ?_
            refine zw_if_eq 78 (by omega) zd_MO_row_68 (by decide) (fun c68 => ?_) (fun c68 => ?_)
            · -- 68 -> 78
              exact absurd c68 (by decide)
            · -- 68 -> 71
              refine zw_aload_n 0 rfl zd_MO_row_71 ?_
              refine zw_iload_n 1 rfl zd_MO_row_72 ?_
              refine zw_iload_n 2 rfl zd_MO_row_73 ?_
              refine zw_callV (As := [.int (zI (z)), .int (zI (q))]) (rest := []) (L2 := []) (L' := [zMOd h (t) (ws ++ [(zI 1, zI (satV (satV 10 (slc t z (scanE sDig t z))) (slc t (scanE sDig t z + 1) q)), zI z)]) (ts) ([]) (op) (0) (r) (ct) (wh) (fd) (fr)]) (stk' := [.int (zI (q))]) (c_MO_based_ok h t ws ts op 0 r ct wh fd fr z q (by omega) hB (by omega) hft) [0] [] rfl rfl rfl zcal_MO_based zl_MO_98 zin_MO_based zse_MO_based 0 rfl zRv_MOd rfl (Nat.le_of_ble_eq_true rfl) (Nat.le_of_ble_eq_true rfl) (by omega) (by omega) rfl (Nat.le_of_ble_eq_true rfl) rfl rfl zd_MO_row_74 ?_
              have e9 : u1 = (q, ws ++ [(zI 1, zI (satV (satV 10 (slc t z (scanE sDig t z))) (slc t (scanE sDig t z + 1) q)), zI z)], ts, op, 0, r, [], 0) := by rw [← hu]; exact rowS_num (u := (z, ws, ts, op, 0, r, [], 0)) hrq (show q - z ≤ 127 by omega) hK (by decide)
              refine zw_pack (at0 := zMOy h (t) (ws ++ [(zI 1, zI (satV (satV 10 (slc t z (scanE sDig t z))) (slc t (scanE sDig t z + 1) q)), zI z)]) (ts) (op) (0) (r)) (Ls := [zMOd h (t) (ws ++ [(zI 1, zI (satV (satV 10 (slc t z (scanE sDig t z))) (slc t (scanE sDig t z + 1) q)), zI z)]) (ts) ([]) (op) (0) (r) (ct) (wh) (fd) (fr)]) (L2 := []) rfl (fun G w h => ⟨([], ct, wh, fd, fr), (fun e => (by first | rfl | cases e)), h⟩) ?_
              exact zw_iret hR (by subst e9; rfl) (by subst e9; rfl) rfl (by omega) (by omega) zd_MO_row_77
          · rw [decide_eq_false hft] at hK
            refine zw_aload_n 0 rfl zd_MO_row_62 ?_
            refine zw_iload_n 1 rfl zd_MO_row_63 ?_
            refine zw_iload_n 2 rfl zd_MO_row_64 ?_
            refine zw_callV (As := [.int (zI (z)), .int (zI (q))]) (rest := []) (L2 := []) (L' := [zMOd h (t) (ws) (ts) ([]) (op) (0) (r) (ct) (wh) (fd) (fr)]) (stk' := [.int (zI (1))]) (c_MO_isBased_yes h t ws ts op 0 r ct wh fd fr z q (by omega) hB) [0] [] rfl rfl rfl zcal_MO_isBased zl_MO_94 zin_MO_isBased zse_MO_isBased 0 rfl zRv_MOd rfl (Nat.le_of_ble_eq_true rfl) (Nat.le_of_ble_eq_true rfl) (by omega) (by omega) rfl (Nat.le_of_ble_eq_true rfl) rfl rfl zd_MO_row_65 ?_
            refine zw_if_eq 78 (by omega) zd_MO_row_68 (by decide) (fun c68 => ?_) (fun c68 => ?_)
            · -- 68 -> 78
              exact absurd c68 (by decide)
            · -- 68 -> 71
              refine zw_aload_n 0 rfl zd_MO_row_71 ?_
              refine zw_iload_n 1 rfl zd_MO_row_72 ?_
              refine zw_iload_n 2 rfl zd_MO_row_73 ?_
              refine zw_callV (As := [.int (zI (z)), .int (zI (q))]) (rest := []) (L2 := []) (L' := [zMOd h (t) (ws) (ts) ([]) (op) (5) (z) (ct) (wh) (fd) (fr)]) (stk' := [.int (zI (-1))]) (c_MO_based_bad h t ws ts op 0 r ct wh fd fr z q (by omega) hB (by omega) hft) [0] [] rfl rfl rfl zcal_MO_based zl_MO_98 zin_MO_based zse_MO_based 0 rfl zRv_MOd rfl (Nat.le_of_ble_eq_true rfl) (Nat.le_of_ble_eq_true rfl) (by omega) (by omega) rfl (Nat.le_of_ble_eq_true rfl) rfl rfl zd_MO_row_74 ?_
              have e9 : u1 = flS (z, ws, ts, op, 0, r, [], 0) 5 z := by rw [← hu]; exact rowS_num (u := (z, ws, ts, op, 0, r, [], 0)) hrq (show q - z ≤ 127 by omega) hK (by decide)
              refine zw_pack (at0 := zMOy h (t) (ws) (ts) (op) (5) (z)) (Ls := [zMOd h (t) (ws) (ts) ([]) (op) (5) (z) (ct) (wh) (fd) (fr)]) (L2 := []) rfl (fun G w h => ⟨([], ct, wh, fd, fr), (fun e => (by first | rfl | cases e)), h⟩) ?_
              exact zw_iret hR (by subst e9; rfl) (by subst e9; rfl) rfl (by omega) (by omega) zd_MO_row_77
        · by_cases hRl : isRl t (rdB t z) q
          · have hK := row_real hend hRl
            obtain ⟨ne1, ne2⟩ := isRl_ne hend hRl
            have hEr := frE_rg (t := t) (de := scanE sDig t (rdB t z)) (q := q) (by omega) n1
            have hxx : frE t (scanE sDig t (rdB t z)) = q ∨ expP t (frE t (scanE sDig t (rdB t z))) q := hRl.2.imp (fun c => c.1) id
            rcases realF_01 (rdN t z) (plS t (rdB t z) (frE t (scanE sDig t (rdB t z))) (scanE sDig t (rdB t z) - rdB t z - 1 + rdX t (frE t (scanE sDig t (rdB t z))) q, 0, (fun _ => 0), 1)) with hft | hft
            · rw [hft] at hK
              refine zw_aload_n 0 rfl zd_MO_row_62 ?_
              refine zw_iload_n 1 rfl zd_MO_row_63 ?_
              refine zw_iload_n 2 rfl zd_MO_row_64 ?_
              refine zw_callV (As := [.int (zI (z)), .int (zI (q))]) (rest := []) (L2 := []) (L' := [zMOd h (t) (ws) (ts) ([]) (op) (0) (r) (ct) (wh) (fd) (fr)]) (stk' := [.int (zI (0))]) (c_MO_isBased_no h t ws ts op 0 r ct wh fd fr z q (by omega) (by omega) n3 hB) [0] [] rfl rfl rfl zcal_MO_isBased zl_MO_94 zin_MO_isBased zse_MO_isBased 0 rfl zRv_MOd rfl (Nat.le_of_ble_eq_true rfl) (Nat.le_of_ble_eq_true rfl) (by omega) (by omega) rfl (Nat.le_of_ble_eq_true rfl) rfl rfl zd_MO_row_65 ?_
              refine zw_if_eq 78 (by omega) zd_MO_row_68 (by decide) (fun c68 => ?_) (fun c68 => ?_)
              · -- 68 -> 78
                refine zw_aload_n 0 rfl zd_MO_row_78 ?_
                refine zw_iload_n 3 rfl zd_MO_row_79 ?_
                refine zw_iload_n 2 rfl zd_MO_row_80 ?_
                refine zw_callV (As := [.int (zI (rdB t z)), .int (zI (q))]) (rest := []) (L2 := []) (L' := [zMOd h (t) (ws) (ts) ([]) (op) (0) (r) (ct) (wh) (fd) (fr)]) (stk' := [.int (zI (1))]) (c_MO_isReal_yes h t ws ts op 0 r ct wh fd fr (rdB t z) q (by omega) n1 n4 hRl) [0] [] rfl rfl rfl zcal_MO_isReal zl_MO_101 zin_MO_isReal zse_MO_isReal 0 rfl zRv_MOd rfl (Nat.le_of_ble_eq_true rfl) (Nat.le_of_ble_eq_true rfl) (by omega) (by omega) rfl (Nat.le_of_ble_eq_true rfl) rfl rfl zd_MO_row_81 ?_
                refine zw_if_eq 95 (by omega) zd_MO_row_84 (by decide) (fun c84 => ?_) (fun c84 => ?_)
                · -- 84 -> 95
                  exact absurd c84 (by decide)
                · -- 84 -> 87
                  refine zw_aload_n 0 rfl zd_MO_row_87 ?_
                  refine zw_iload_n 1 rfl zd_MO_row_88 ?_
                  refine zw_iload_n 3 rfl zd_MO_row_89 ?_
                  refine zw_iload_n 2 rfl zd_MO_row_90 ?_
                  refine zw_callV (As := [.int (zI (z)), .int (zI (rdB t z)), .int (zI (q))]) (rest := []) (L2 := []) (L' := [zMOy h (t) (ws ++ [(zI 2, zI (wholeV (rdN t z) (realSum (rdN t z) (plS t (rdB t z) (frE t (scanE sDig t (rdB t z))) (scanE sDig t (rdB t z) - rdB t z - 1 + rdX t (frE t (scanE sDig t (rdB t z))) q, 0, (fun _ => 0), 1)))), zI z)]) (ts) (op) (0) (r)]) (stk' := [.int (zI (q))]) (c_MO_real_ok h t ws ts op 0 r ct wh fd fr z (by omega) (rdB t z) q (by omega) hEr.2 hxx (by omega) hft) [0] [] rfl rfl rfl zcal_MO_real zl_MO_104 zin_MO_real zse_MO_real 0 rfl zRv_MOd rfl (Nat.le_of_ble_eq_true rfl) (Nat.le_of_ble_eq_true rfl) (by omega) (by omega) rfl (Nat.le_of_ble_eq_true rfl) rfl rfl zd_MO_row_91 ?_
                  have e9 : u1 = (q, ws ++ [(zI 2, zI (wholeV (rdN t z) (realSum (rdN t z) (plS t (rdB t z) (frE t (scanE sDig t (rdB t z))) (scanE sDig t (rdB t z) - rdB t z - 1 + rdX t (frE t (scanE sDig t (rdB t z))) q, 0, (fun _ => 0), 1)))), zI z)], ts, op, 0, r, [], 0) := by rw [← hu]; exact rowS_num (u := (z, ws, ts, op, 0, r, [], 0)) hrq (show q - z ≤ 127 by omega) hK (by decide)
                  exact zw_iret hR (by subst e9; rfl) (by subst e9; rfl) rfl (by omega) (by omega) zd_MO_row_94
              · -- 68 -> 71
                exact absurd c68 (by decide)
            · rw [hft] at hK
              refine zw_aload_n 0 rfl zd_MO_row_62 ?_
              refine zw_iload_n 1 rfl zd_MO_row_63 ?_
              refine zw_iload_n 2 rfl zd_MO_row_64 ?_
              refine zw_callV (As := [.int (zI (z)), .int (zI (q))]) (rest := []) (L2 := []) (L' := [zMOd h (t) (ws) (ts) ([]) (op) (0) (r) (ct) (wh) (fd) (fr)]) (stk' := [.int (zI (0))]) (c_MO_isBased_no h t ws ts op 0 r ct wh fd fr z q (by omega) (by omega) n3 hB) [0] [] rfl rfl rfl zcal_MO_isBased zl_MO_94 zin_MO_isBased zse_MO_isBased 0 rfl zRv_MOd rfl (Nat.le_of_ble_eq_true rfl) (Nat.le_of_ble_eq_true rfl) (by omega) (by omega) rfl (Nat.le_of_ble_eq_true rfl) rfl rfl zd_MO_row_65 ?_
              refine zw_if_eq 78 (by omega) zd_MO_row_68 (by decide) (fun c68 => ?_) (fun c68 => ?_)
              · -- 68 -> 78
                refine zw_aload_n 0 rfl zd_MO_row_78 ?_
                refine zw_iload_n 3 rfl zd_MO_row_79 ?_
                refine zw_iload_n 2 rfl zd_MO_row_80 ?_
                refine zw_callV (As := [.int (zI (rdB t z)), .int (zI (q))]) (rest := []) (L2 := []) (L' := [zMOd h (t) (ws) (ts) ([]) (op) (0) (r) (ct) (wh) (fd) (fr)]) (stk' := [.int (zI (1))]) (c_MO_isReal_yes h t ws ts op 0 r ct wh fd fr (rdB t z) q (by omega) n1 n4 hRl) [0] [] rfl rfl rfl zcal_MO_isReal zl_MO_101 zin_MO_isReal zse_MO_isReal 0 rfl zRv_MOd rfl (Nat.le_of_ble_eq_true rfl) (Nat.le_of_ble_eq_true rfl) (by omega) (by omega) rfl (Nat.le_of_ble_eq_true rfl) rfl rfl zd_MO_row_81 ?_
                refine zw_if_eq 95 (by omega) zd_MO_row_84 (by decide) (fun c84 => ?_) (fun c84 => ?_)
                · -- 84 -> 95
                  exact absurd c84 (by decide)
                · -- 84 -> 87
                  refine zw_aload_n 0 rfl zd_MO_row_87 ?_
                  refine zw_iload_n 1 rfl zd_MO_row_88 ?_
                  refine zw_iload_n 3 rfl zd_MO_row_89 ?_
                  refine zw_iload_n 2 rfl zd_MO_row_90 ?_
                  refine zw_callV (As := [.int (zI (z)), .int (zI (rdB t z)), .int (zI (q))]) (rest := []) (L2 := []) (L' := [zMOy h (t) (ws) (ts) (op) (5) (z)]) (stk' := [.int (zI (-1))]) (c_MO_real_bad h t ws ts op 0 r ct wh fd fr z (by omega) (rdB t z) q (by omega) hEr.2 hxx (by omega) hft) [0] [] rfl rfl rfl zcal_MO_real zl_MO_104 zin_MO_real zse_MO_real 0 rfl zRv_MOd rfl (Nat.le_of_ble_eq_true rfl) (Nat.le_of_ble_eq_true rfl) (by omega) (by omega) rfl (Nat.le_of_ble_eq_true rfl) rfl rfl zd_MO_row_91 ?_
                  have e9 : u1 = flS (z, ws, ts, op, 0, r, [], 0) 5 z := by rw [← hu]; exact rowS_num (u := (z, ws, ts, op, 0, r, [], 0)) hrq (show q - z ≤ 127 by omega) hK (by decide)
                  exact zw_iret hR (by subst e9; rfl) (by subst e9; rfl) rfl (by omega) (by omega) zd_MO_row_94
              · -- 68 -> 71
                exact absurd c68 (by decide)
          · have hK := row_name hnw hB hRl
            refine zw_aload_n 0 rfl zd_MO_row_62 ?_
            refine zw_iload_n 1 rfl zd_MO_row_63 ?_
            refine zw_iload_n 2 rfl zd_MO_row_64 ?_
            refine zw_callV (As := [.int (zI (z)), .int (zI (q))]) (rest := []) (L2 := []) (L' := [zMOd h (t) (ws) (ts) ([]) (op) (0) (r) (ct) (wh) (fd) (fr)]) (stk' := [.int (zI (0))]) (c_MO_isBased_no h t ws ts op 0 r ct wh fd fr z q (by omega) (by omega) n3 hB) [0] [] rfl rfl rfl zcal_MO_isBased zl_MO_94 zin_MO_isBased zse_MO_isBased 0 rfl zRv_MOd rfl (Nat.le_of_ble_eq_true rfl) (Nat.le_of_ble_eq_true rfl) (by omega) (by omega) rfl (Nat.le_of_ble_eq_true rfl) rfl rfl zd_MO_row_65 ?_
            refine zw_if_eq 78 (by omega) zd_MO_row_68 (by decide) (fun c68 => ?_) (fun c68 => ?_)
            · -- 68 -> 78
              refine zw_aload_n 0 rfl zd_MO_row_78 ?_
              refine zw_iload_n 3 rfl zd_MO_row_79 ?_
              refine zw_iload_n 2 rfl zd_MO_row_80 ?_
              refine zw_callV (As := [.int (zI (rdB t z)), .int (zI (q))]) (rest := []) (L2 := []) (L' := [zMOd h (t) (ws) (ts) ([]) (op) (0) (r) (ct) (wh) (fd) (fr)]) (stk' := [.int (zI (0))]) (c_MO_isReal_no h t ws ts op 0 r ct wh fd fr (rdB t z) q (by omega) n1 n4 hRl) [0] [] rfl rfl rfl zcal_MO_isReal zl_MO_101 zin_MO_isReal zse_MO_isReal 0 rfl zRv_MOd rfl (Nat.le_of_ble_eq_true rfl) (Nat.le_of_ble_eq_true rfl) (by omega) (by omega) rfl (Nat.le_of_ble_eq_true rfl) rfl rfl zd_MO_row_81 ?_
              refine zw_if_eq 95 (by omega) zd_MO_row_84 (by decide) (fun c84 => ?_) (fun c84 => ?_)
              · -- 84 -> 95
                refine zw_aload_n 0 rfl zd_MO_row_95 ?_
                refine zw_iconst zd_MO_row_96 ?_
                refine zw_aload_n 0 rfl zd_MO_row_97 ?_
                refine zw_iload_n 1 rfl zd_MO_row_98 ?_
                refine zw_iload_n 2 rfl zd_MO_row_99 ?_
                refine zw_callV (As := [.int (zI (z)), .int (zI (q))]) (rest := [.int (zI (3)), .ref h]) (L2 := []) (L' := [zMOd h (t) (ws) (addT ts (slc t z q)) ([]) (op) (0) (r) (ct) (wh) (fd) (fr)]) (stk' := [.int (zI (((ixOf ts (slc t z q) : Nat) : Int))), .int (zI (3)), .ref h]) (c_MO_textOf h t ws ts op 0 r ct wh fd fr z q (by omega) (by omega) (by omega)) [0] [] rfl rfl rfl zcal_MO_textOf zl_MO_107 zin_MO_textOf zse_MO_textOf 0 rfl zRv_MOd rfl (Nat.le_of_ble_eq_true rfl) (Nat.le_of_ble_eq_true rfl) (by omega) (by omega) rfl (Nat.le_of_ble_eq_true rfl) rfl rfl zd_MO_row_100 ?_
                refine zw_iload_n 1 rfl zd_MO_row_103 ?_
                refine zw_callV (As := [.int (zI (3)), .int (zI (((ixOf ts (slc t z q) : Nat) : Int))), .int (zI (z))]) (rest := []) (L2 := []) (L' := [zMOd h (t) (ws ++ [(zI 3, (zI (((ixOf ts (slc t z q) : Nat) : Int))), (zI (z)))]) (addT ts (slc t z q)) ([]) (op) (0) (r) (ct) (wh) (fd) (fr)]) (stk' := []) (c_MO_word h t ws (addT ts (slc t z q)) ([]) op 0 r ct wh fd fr 3 (zI (((ixOf ts (slc t z q) : Nat) : Int))) (zI (z)) (by omega) (by omega)) [0] [] rfl rfl rfl zcal_MO_word zl_MO_110 zin_MO_word zse_MO_word 0 rfl zRv_MOd rfl (Nat.le_of_ble_eq_true rfl) (Nat.le_of_ble_eq_true rfl) (by omega) (by omega) rfl (Nat.le_of_ble_eq_true rfl) rfl rfl zd_MO_row_104 ?_
                refine zw_iload_n 2 rfl zd_MO_row_107 ?_
                have e9 : u1 = txS (z, ws, ts, op, 0, r, [], 0) 3 (slc t z q) q := by rw [← hu]; exact rowS_name (u := (z, ws, ts, op, 0, r, [], 0)) hrq (show q - z ≤ 127 by omega) hK
                refine zw_pack (at0 := zMOy h (t) (ws ++ [(zI 3, (zI (((ixOf ts (slc t z q) : Nat) : Int))), (zI (z)))]) (addT ts (slc t z q)) (op) (0) (r)) (Ls := [zMOd h (t) (ws ++ [(zI 3, (zI (((ixOf ts (slc t z q) : Nat) : Int))), (zI (z)))]) (addT ts (slc t z q)) ([]) (op) (0) (r) (ct) (wh) (fd) (fr)]) (L2 := []) rfl (fun G w h => ⟨([], ct, wh, fd, fr), (fun e => (by first | rfl | cases e)), h⟩) ?_
                exact zw_iret hR (by subst e9; rfl) (by subst e9; rfl) rfl (by omega) (by omega) zd_MO_row_108
              · -- 84 -> 87
                exact absurd c84 (by decide)
            · -- 68 -> 71
              exact absurd c68 (by decide)
      refine zw_istore_n (lv' := [(3, .int (zI (rdB t z))), (0, .ref h), (1, .int (zI (z))), (2, .int (zI (q)))]) (Nat.le_of_ble_eq_true rfl) rfl zd_MO_row_34 ?_
      refine zw_aload_n 1 rfl zd_MO_row_35 ?_
      refine zw_iload_n 0 rfl zd_MO_row_36 ?_
      refine zw_callV (As := [.int (zI (rdB t z))]) (rest := []) (L2 := []) (L' := [zMOd h (t) (ws) (ts) ([]) (op) (0) (r) (ct) (wh) (fd) (fr)]) (stk' := [.int (zI (scanE sDig t (rdB t z)))]) (c_MO_behindDigits h t ws ts ([]) op 0 r ct wh fd fr (rdB t z) (by omega) (by omega)) [0] [] rfl rfl rfl zcal_MO_behindDigits zl_MO_87 zin_MO_behindDigits zse_MO_behindDigits 0 rfl zRv_MOd rfl (Nat.le_of_ble_eq_true rfl) (Nat.le_of_ble_eq_true rfl) (by omega) (by omega) rfl (Nat.le_of_ble_eq_true rfl) rfl rfl zd_MO_row_37 ?_
      have sd37 := scanE_spec (f := sDig) (t := t) (p := rdB t z) (by omega)
      have se37 := scanE_ub (f := sDig) (t := t) (p := rdB t z) (by omega)
      refine zw_istore (lv' := [(4, .int (zI (scanE sDig t (rdB t z)))), (3, .int (zI (rdB t z))), (0, .ref h), (1, .int (zI (z))), (2, .int (zI (q)))]) (Nat.le_of_ble_eq_true rfl) rfl zd_MO_row_40 ?_
      refine zw_iload 0 rfl zd_MO_row_42 ?_
      refine zw_iload_n 1 rfl zd_MO_row_44 ?_
      refine zw_icmp_le 62 (by omega) (by omega) zd_MO_row_45 (by decide) (fun c45 => ?_) (fun c45 => ?_)
      · -- 45 -> 62
        refine zw_lpick (lv' := [(0, .ref h), (1, .int (zI (z))), (2, .int (zI (q))), (3, .int (zI (rdB t z)))]) [2, 3, 4, 1] rfl ?_
        refine zw_widen (k' := 0) (n' := 0) (by omega) (by omega) ?_
        exact j62 (by omega)
      · -- 45 -> 48
        refine zw_iload 0 rfl zd_MO_row_48 ?_
        refine zw_iload_n 4 rfl zd_MO_row_50 ?_
        refine zw_icmp_ne 62 (by omega) (by omega) zd_MO_row_51 (by decide) (fun c51 => ?_) (fun c51 => ?_)
        · -- 51 -> 62
          refine zw_lpick (lv' := [(0, .ref h), (1, .int (zI (z))), (2, .int (zI (q))), (3, .int (zI (rdB t z)))]) [2, 3, 4, 1] rfl ?_
          refine zw_widen (k' := 0) (n' := 0) (by omega) (by omega) ?_
          exact j62 (by omega)
        · -- 51 -> 54
          have hSq : scanE sDig t (rdB t z) = q := by omega
          have hK := row_whole hSq (by omega)
          rcases wholeF_01 (rdN t z) (satV 10 (slc t (rdB t z) q)) with hft | hft
          · rw [hft] at hK
            refine zw_aload_n 2 rfl zd_MO_row_54 ?_
            refine zw_iload_n 3 rfl zd_MO_row_55 ?_
            refine zw_iload_n 1 rfl zd_MO_row_56 ?_
            refine zw_iload_n 4 rfl zd_MO_row_57 ?_
            refine zw_callV (As := [.int (zI (z)), .int (zI (rdB t z)), .int (zI (q))]) (rest := []) (L2 := []) (L' := [zMOd h (t) (ws ++ [(zI 1, zI (wholeV (rdN t z) (satV 10 (slc t (rdB t z) q))), zI z)]) (ts) ([]) (op) (0) (r) (ct) (wh) (fd) (fr)]) (stk' := [.int (zI (q))]) (c_MO_whole_ok h t ws ts op 0 r ct wh fd fr z (rdB t z) q (by omega) (by omega) (fun j a b => d3 j a (by omega)) (by omega) hft) [0] [] rfl rfl rfl zcal_MO_wholeNumber zl_MO_90 zin_MO_wholeNumber zse_MO_wholeNumber 0 rfl zRv_MOd rfl (Nat.le_of_ble_eq_true rfl) (Nat.le_of_ble_eq_true rfl) (by omega) (by omega) rfl (Nat.le_of_ble_eq_true rfl) rfl rfl zd_MO_row_58 ?_
            have e9 : u1 = (q, ws ++ [(zI 1, zI (wholeV (rdN t z) (satV 10 (slc t (rdB t z) q))), zI z)], ts, op, 0, r, [], 0) := by rw [← hu]; exact rowS_num (u := (z, ws, ts, op, 0, r, [], 0)) hrq (show q - z ≤ 127 by omega) hK (by decide)
            refine zw_pack (at0 := zMOy h (t) (ws ++ [(zI 1, zI (wholeV (rdN t z) (satV 10 (slc t (rdB t z) q))), zI z)]) (ts) (op) (0) (r)) (Ls := [zMOd h (t) (ws ++ [(zI 1, zI (wholeV (rdN t z) (satV 10 (slc t (rdB t z) q))), zI z)]) (ts) ([]) (op) (0) (r) (ct) (wh) (fd) (fr)]) (L2 := []) rfl (fun G w h => ⟨([], ct, wh, fd, fr), (fun e => (by first | rfl | cases e)), h⟩) ?_
            exact zw_iret hR (by subst e9; rfl) (by subst e9; rfl) rfl (by omega) (by omega) zd_MO_row_61
          · rw [hft] at hK
            refine zw_aload_n 2 rfl zd_MO_row_54 ?_
            refine zw_iload_n 3 rfl zd_MO_row_55 ?_
            refine zw_iload_n 1 rfl zd_MO_row_56 ?_
            refine zw_iload_n 4 rfl zd_MO_row_57 ?_
            refine zw_callV (As := [.int (zI (z)), .int (zI (rdB t z)), .int (zI (q))]) (rest := []) (L2 := []) (L' := [zMOd h (t) (ws) (ts) ([]) (op) (5) (z) (ct) (wh) (fd) (fr)]) (stk' := [.int (zI (-1))]) (c_MO_whole_bad h t ws ts op 0 r ct wh fd fr z (rdB t z) q (by omega) (by omega) (fun j a b => d3 j a (by omega)) (by omega) hft) [0] [] rfl rfl rfl zcal_MO_wholeNumber zl_MO_90 zin_MO_wholeNumber zse_MO_wholeNumber 0 rfl zRv_MOd rfl (Nat.le_of_ble_eq_true rfl) (Nat.le_of_ble_eq_true rfl) (by omega) (by omega) rfl (Nat.le_of_ble_eq_true rfl) rfl rfl zd_MO_row_58 ?_
            have e9 : u1 = flS (z, ws, ts, op, 0, r, [], 0) 5 z := by rw [← hu]; exact rowS_num (u := (z, ws, ts, op, 0, r, [], 0)) hrq (show q - z ≤ 127 by omega) hK (by decide)
            refine zw_pack (at0 := zMOy h (t) (ws) (ts) (op) (5) (z)) (Ls := [zMOd h (t) (ws) (ts) ([]) (op) (5) (z) (ct) (wh) (fd) (fr)]) (L2 := []) rfl (fun G w h => ⟨([], ct, wh, fd, fr), (fun e => (by first | rfl | cases e)), h⟩) ?_
            exact zw_iret hR (by subst e9; rfl) (by subst e9; rfl) rfl (by omega) (by omega) zd_MO_row_61
    refine zw_aload_n 0 rfl zd_MO_row_16 ?_
    refine zw_iload_n 1 rfl zd_MO_row_17 ?_
    refine zw_callV (As := [.int (zI (z))]) (rest := []) (L2 := []) (L' := [zMOd h (t) (ws) (ts) ([]) (op) (0) (r) (ct) (wh) (fd) (fr)]) (stk' := [.int (zI (bget t z))]) (c_MO_byteAt h t ws ts ([]) op 0 r ct wh fd fr z (by omega)) [0] [] rfl rfl rfl zcal_MO_byteAt zl_MO_51 zin_MO_byteAt zse_MO_byteAt 0 rfl zRv_MOd rfl (Nat.le_of_ble_eq_true rfl) (Nat.le_of_ble_eq_true rfl) (by omega) (by omega) rfl (Nat.le_of_ble_eq_true rfl) rfl rfl zd_MO_row_18 ?_
    have rg18 := bget_rg hby z
    refine zw_callS (a := 0) (As := [.int (zI (bget t z))]) (rest := []) (L2 := [zMOd h (t) (ws) (ts) ([]) (op) (0) (r) (ct) (wh) (fd) (fr)]) (L' := [zMOd h (t) (ws) (ts) ([]) (op) (0) (r) (ct) (wh) (fd) (fr)]) (stk' := [.int (zI (bI (sSign (bget t z))))]) (c_MO_isSign (bget t z) (by omega)) [] [0] rfl rfl rfl zcal_MO_isSign zl_MO_84 zst_MO_isSign (Nat.le_of_ble_eq_true rfl) (Nat.le_of_ble_eq_true rfl) (by omega) (by omega) rfl (Nat.le_of_ble_eq_true rfl) rfl rfl zd_MO_row_21 ?_
    have rb21 := bI_rg (sSign (bget t z))
    refine zw_if_eq 33 (by omega) zd_MO_row_24 (by decide) (fun c24 => ?_) (fun c24 => ?_)
    · -- 24 -> 33
      refine zw_iload_n 1 rfl zd_MO_row_33 ?_
      have hfe : rdB t z = z := by
        rcases rB with ⟨a, b⟩ | ⟨a, b⟩
        · first | exact a | (exfalso; rw [b] at c24; exact absurd c24 (by decide))
        · first | exact a | (exfalso; rw [b] at c24; exact absurd c24 (by decide))
      refine zw_eqs (st' := [.int (zI (rdB t z))]) (by rw [hfe]) ?_
      refine zw_widen (k' := 0) (n' := 0) (by omega) (by omega) ?_
      exact j34
    · -- 24 -> 27
      refine zw_iload_n 1 rfl zd_MO_row_27 ?_
      refine zw_iconst zd_MO_row_28 ?_
      refine zw_iadd zd_MO_row_29 ?_
      refine zw_goto 34 zd_MO_row_30 (by decide) ?_
      have hfe : rdB t z = z + 1 := by
        rcases rB with ⟨a, b⟩ | ⟨a, b⟩
        · first | exact a | (exfalso; rw [b] at c24; exact absurd c24 (by decide))
        · first | exact a | (exfalso; rw [b] at c24; exact absurd c24 (by decide))
      refine zw_eqs (st' := [.int (zI (rdB t z))]) (by rw [hfe]) ?_
      refine zw_widen (k' := 0) (n' := 0) (by omega) (by omega) ?_
      exact j34
  · -- 5 -> 8
    refine zw_aload_n 0 rfl zd_MO_row_8 ?_
    refine zw_bipush rfl zd_MO_row_9 ?_
    refine zw_iload_n 1 rfl zd_MO_row_11 ?_
    refine zw_callV (As := [.int (zI (6)), .int (zI (z))]) (rest := []) (L2 := []) (L' := [zMOd h (t) (ws) (ts) ([]) (op) (6) (z) (ct) (wh) (fd) (fr)]) (stk' := [.int (zI (-1))]) (c_MO_fail h t ws ts ([]) op 0 r ct wh fd fr 6 z) [0] [] rfl rfl rfl zcal_MO_fail zl_MO_80 zin_MO_fail zse_MO_fail 0 rfl zRv_MOd rfl (Nat.le_of_ble_eq_true rfl) (Nat.le_of_ble_eq_true rfl) (by omega) (by omega) rfl (Nat.le_of_ble_eq_true rfl) rfl rfl zd_MO_row_12 ?_
    have e9 : u1 = flS (z, ws, ts, op, 0, r, [], 0) 6 z := by rw [← hu]; exact rowS_long (u := (z, ws, ts, op, 0, r, [], 0)) (show 127 < rowE t z - z by omega)
    refine zw_pack (at0 := zMOy h (t) (ws) (ts) (op) (6) (z)) (Ls := [zMOd h (t) (ws) (ts) ([]) (op) (6) (z) (ct) (wh) (fd) (fr)]) (L2 := []) rfl (fun G w h => ⟨([], ct, wh, fd, fr), (fun e => (by first | rfl | cases e)), h⟩) ?_
    exact zw_iret hR (by subst e9; rfl) (by subst e9; rfl) rfl (by omega) (by omega) zd_MO_row_15
