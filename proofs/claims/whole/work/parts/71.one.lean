theorem oneS_br {t : List Int} {u : zU} (h : bget t u.p = 40) : oneS t u = brkS t u (brS t t.length (u.p + 1) 1 []) := by
  unfold oneS; rw [if_pos h]
theorem oneS_41 {t : List Int} {u : zU} (h : bget t u.p = 41) : oneS t u = flS u 1 u.p := by
  unfold oneS; rw [if_neg (by omega), if_pos h]
theorem oneS_47 {t : List Int} {u : zU} (h : bget t u.p = 47) : oneS t u = if 127 < rowE t (u.p + 1) - u.p - 1 then flS u 6 u.p else txS u 4 (slc t (u.p + 1) (rowE t (u.p + 1))) (rowE t (u.p + 1)) := by
  unfold oneS; rw [if_neg (by omega), if_neg (by omega), if_pos h]
theorem oneS_lt {t : List Int} {u : zU} (h : bget t u.p = 60) : oneS t u = if bget t (u.p + 1) = 60 then txS u 3 (slc t u.p (u.p + 2)) (u.p + 2) else prsS t u (prS t t.length (u.p + 1) (-1) []) := by
  unfold oneS; rw [if_neg (by omega), if_neg (by omega), if_neg (by omega), if_pos (by omega), h, if_pos rfl]
theorem oneS_gt {t : List Int} {u : zU} (h : bget t u.p = 62) : oneS t u = if bget t (u.p + 1) = 62 then txS u 3 (slc t u.p (u.p + 2)) (u.p + 2) else flS u 1 u.p := by
  unfold oneS; rw [if_neg (by omega), if_neg (by omega), if_neg (by omega), if_pos (by omega), h, if_neg (by decide : ¬ (62 : Int) = 60)]
theorem oneS_sq {t : List Int} {u : zU} (h : bget t u.p = 91 ∨ bget t u.p = 93) : oneS t u = txS u 3 (slc t u.p (u.p + 1)) (u.p + 1) := by
  unfold oneS; rw [if_neg (by omega), if_neg (by omega), if_neg (by omega), if_neg (by omega), if_pos h]
theorem oneS_op {t : List Int} {u : zU} (h : bget t u.p = 123) : oneS t u = opnS u := by
  unfold oneS; rw [if_neg (by omega), if_neg (by omega), if_neg (by omega), if_neg (by omega), if_neg (by omega), if_pos h]
theorem oneS_cl {t : List Int} {u : zU} (h : bget t u.p = 125) : oneS t u = clsS u := by
  unfold oneS; rw [if_neg (by omega), if_neg (by omega), if_neg (by omega), if_neg (by omega), if_neg (by omega), if_neg (by omega), if_pos h]
theorem oneS_row {t : List Int} {u : zU} (h : bget t u.p ≠ 40 ∧ bget t u.p ≠ 41 ∧ bget t u.p ≠ 60 ∧ bget t u.p ≠ 62 ∧ bget t u.p ≠ 91 ∧ bget t u.p ≠ 93 ∧ bget t u.p ≠ 123 ∧ bget t u.p ≠ 125 ∧ bget t u.p ≠ 47) : oneS t u = rowS t u := by
  unfold oneS; rw [if_neg (by omega), if_neg (by omega), if_neg (by omega), if_neg (by omega), if_neg (by omega), if_neg (by omega), if_neg (by omega)]
theorem rowE_le {t : List Int} {p q : Int} (h : 127 < scanE sPlain t p - p) : 127 < rowE t p - p := by unfold rowE; omega
theorem rowE_ge {t : List Int} {p q : Int} (h : ¬ 127 < scanE sPlain t p - p) : rowE t p = scanE sPlain t p := by unfold rowE; omega
set_option maxHeartbeats 4000000 in
set_option maxRecDepth 100000 in
theorem c_MO_one (h : Nat) (t : List Int) (ws : List (Int32 × Int32 × Int32)) (ts : List (List Int)) (op : List Int) (r ct wh : Int) (fd fr : Nat → Int32) (z : Int) (hz : 0 ≤ z ∧ z < t.length) (hlv : lvOut t z = 0) (hl : ts.length < 16384) (hw : ws.length < 16384) (hF : ts.flatten.length + t.length < 60000) (hox : ∀ x ∈ op, 0 ≤ x ∧ x < ws.length) (u1 : zU) (hu : oneS t (z, ws, ts, op, 0, r, [], 0) = u1) : zCT zy_MO_one zm_MO_one (0) (0) [.ref h, .int (zI z)] [zMOd h (t) (ws) (ts) ([]) (op) (0) (r) (ct) (wh) (fd) (fr)] (some (.int (zI (if u1.y = 0 then u1.p else -1)))) [zMOy h (t) (u1.ws) (u1.ts) (u1.op) (u1.y) (u1.r)] := by
  refine zCT.of [(0, .ref h), (1, .int (zI (z)))] rfl (by decide) rfl (fun h => by first | rfl | cases h) (Nat.le_of_ble_eq_true rfl) (fun X hR => ?_)
  refine zw_fact 0 rfl (fun G w h => zMOd_fact h) (fun mf => ?_)
  obtain ⟨⟨ht1, hby⟩, hw1, ⟨hs1, hs2, hs3⟩, ho1⟩ := mf
  refine zw_aload_n 0 rfl zd_MO_one_0 ?_
  refine zw_iload_n 1 rfl zd_MO_one_1 ?_
  refine zw_callV (As := [.int (zI (z))]) (rest := []) (L2 := []) (L' := [zMOd h (t) (ws) (ts) ([]) (op) (0) (r) (ct) (wh) (fd) (fr)]) (stk' := [.int (zI (bget t z))]) (c_MO_byteAt h t ws ts ([]) op 0 r ct wh fd fr z (by omega)) [0] [] rfl rfl rfl zcal_MO_byteAt zl_MO_51 zin_MO_byteAt zse_MO_byteAt 0 rfl zRv_MOd rfl (Nat.le_of_ble_eq_true rfl) (Nat.le_of_ble_eq_true rfl) (by omega) (by omega) rfl (Nat.le_of_ble_eq_true rfl) rfl rfl zd_MO_one_2 ?_
  have rg2 := bget_rg hby z
  refine zw_istore_n (lv' := [(2, .int (zI (bget t z))), (0, .ref h), (1, .int (zI (z)))]) (Nat.le_of_ble_eq_true rfl) rfl zd_MO_one_5 ?_
  refine zw_aload_n 1 rfl zd_MO_one_6 ?_
  refine zw_iload_n 2 rfl zd_MO_one_7 ?_
  refine zw_iconst zd_MO_one_8 ?_
  refine zw_iadd zd_MO_one_9 ?_
  refine zw_callV (As := [.int (zI (z + 1))]) (rest := []) (L2 := []) (L' := [zMOd h (t) (ws) (ts) ([]) (op) (0) (r) (ct) (wh) (fd) (fr)]) (stk' := [.int (zI (bget t (z + 1)))]) (c_MO_byteAt h t ws ts ([]) op 0 r ct wh fd fr (z + 1) (by omega)) [0] [] rfl rfl rfl zcal_MO_byteAt zl_MO_51 zin_MO_byteAt zse_MO_byteAt 0 rfl zRv_MOd rfl (Nat.le_of_ble_eq_true rfl) (Nat.le_of_ble_eq_true rfl) (by omega) (by omega) rfl (Nat.le_of_ble_eq_true rfl) rfl rfl zd_MO_one_10 ?_
  have rg10 := bget_rg hby (z + 1)
  refine zw_istore_n (lv' := [(3, .int (zI (bget t (z + 1)))), (2, .int (zI (bget t z))), (0, .ref h), (1, .int (zI (z)))]) (Nat.le_of_ble_eq_true rfl) rfl zd_MO_one_13 ?_
  refine zw_iload_n 1 rfl zd_MO_one_14 ?_
  by_cases k15_40 : (bget t z) = 40
  · refine zw_lookup (off := 81) 96 (by omega) zd_MO_one_15 (by decide) (by rw [k15_40]; rfl) (by decide) ?_
    obtain ⟨xs, E, hbr⟩ : ∃ xs E, brS t t.length (z + 1) 1 [] = (xs, E) := ⟨_, _, rfl⟩
    rcases brS_rg _ _ _ _ (by omega) (by omega) hbr with hE | hE
    · skip
      refine zw_aload_n 2 rfl zd_MO_one_96 ?_
      refine zw_iload_n 3 rfl zd_MO_one_97 ?_
      refine zw_callV (As := [.int (zI (z))]) (rest := []) (L2 := []) (L' := [zMOd h (t) (ws) (ts) (xs) (op) (2) (((t.length : Nat) : Int)) (ct) (wh) (fd) (fr)]) (stk' := [.int (zI (-1))]) (c_MO_brackets_bad h t ws ts op 0 r ct wh fd fr z (by omega) (by omega) (by omega) (by omega) xs E hbr hE.1) [0] [] rfl rfl rfl zcal_MO_brackets zl_MO_162 zin_MO_brackets zse_MO_brackets 0 rfl zRv_MOd rfl (Nat.le_of_ble_eq_true rfl) (Nat.le_of_ble_eq_true rfl) (by omega) (by omega) rfl (Nat.le_of_ble_eq_true rfl) rfl rfl zd_MO_one_98 ?_
      have e9 : u1 = (((t.length : Nat) : Int), ws, ts, op, 2, ((t.length : Nat) : Int), xs, max 0 (ts.flatten.length + xs.length)) := by rw [← hu]; rw [oneS_br (u := (z, ws, ts, op, 0, r, [], 0)) k15_40]; show brkS t _ (brS t t.length (z + 1) 1 []) = _; rw [hbr]; unfold brkS; rw [if_neg (show ¬ 0 ≤ E by omega)]
      refine zw_pack (at0 := zMOy h (t) (ws) (ts) (op) (2) (((t.length : Nat) : Int))) (Ls := [zMOd h (t) (ws) (ts) (xs) (op) (2) (((t.length : Nat) : Int)) (ct) (wh) (fd) (fr)]) (L2 := []) rfl (fun G w h => ⟨(xs, ct, wh, fd, fr), (fun e => (by first | rfl | cases e)), h⟩) ?_
      exact zw_iret hR (by subst e9; rfl) (by subst e9; rfl) rfl (by omega) (by omega) zd_MO_one_101
    · skip
      refine zw_aload_n 2 rfl zd_MO_one_96 ?_
      refine zw_iload_n 3 rfl zd_MO_one_97 ?_
      refine zw_callV (As := [.int (zI (z))]) (rest := []) (L2 := []) (L' := [zMOd h (t) (ws ++ [(zI 5, zI ((ixOf ts xs : Nat) : Int), zI z)]) (addT ts xs) ([]) (op) (0) (r) (ct) (wh) (fd) (fr)]) (stk' := [.int (zI (E + 1))]) (c_MO_brackets_ok h t ws ts op 0 r ct wh fd fr z (by omega) (by omega) (by omega) (by omega) xs E hbr (by omega)) [0] [] rfl rfl rfl zcal_MO_brackets zl_MO_162 zin_MO_brackets zse_MO_brackets 0 rfl zRv_MOd rfl (Nat.le_of_ble_eq_true rfl) (Nat.le_of_ble_eq_true rfl) (by omega) (by omega) rfl (Nat.le_of_ble_eq_true rfl) rfl rfl zd_MO_one_98 ?_
      have e9 : u1 = txS (z, ws, ts, op, 0, r, [], 0) 5 xs (E + 1) := by rw [← hu]; rw [oneS_br (u := (z, ws, ts, op, 0, r, [], 0)) k15_40]; show brkS t _ (brS t t.length (z + 1) 1 []) = _; rw [hbr]; unfold brkS; rw [if_pos (show 0 ≤ E by omega)]
      refine zw_pack (at0 := zMOy h (t) (ws ++ [(zI 5, zI ((ixOf ts xs : Nat) : Int), zI z)]) (addT ts xs) (op) (0) (r)) (Ls := [zMOd h (t) (ws ++ [(zI 5, zI ((ixOf ts xs : Nat) : Int), zI z)]) (addT ts xs) ([]) (op) (0) (r) (ct) (wh) (fd) (fr)]) (L2 := []) rfl (fun G w h => ⟨([], ct, wh, fd, fr), (fun e => (by first | rfl | cases e)), h⟩) ?_
      exact zw_iret hR (by subst e9; rfl) (by subst e9; rfl) rfl (by omega) (by omega) zd_MO_one_101
  by_cases k15_41 : (bget t z) = 41
  · refine zw_lookup (off := 87) 102 (by omega) zd_MO_one_15 (by decide) (by rw [k15_41]; rfl) (by decide) ?_
    refine zw_aload_n 2 rfl zd_MO_one_102 ?_
    refine zw_iconst zd_MO_one_103 ?_
    refine zw_iload_n 3 rfl zd_MO_one_104 ?_
    refine zw_callV (As := [.int (zI (1)), .int (zI (z))]) (rest := []) (L2 := []) (L' := [zMOd h (t) (ws) (ts) ([]) (op) (1) (z) (ct) (wh) (fd) (fr)]) (stk' := [.int (zI (-1))]) (c_MO_fail h t ws ts ([]) op 0 r ct wh fd fr 1 z) [0] [] rfl rfl rfl zcal_MO_fail zl_MO_80 zin_MO_fail zse_MO_fail 0 rfl zRv_MOd rfl (Nat.le_of_ble_eq_true rfl) (Nat.le_of_ble_eq_true rfl) (by omega) (by omega) rfl (Nat.le_of_ble_eq_true rfl) rfl rfl zd_MO_one_105 ?_
    have e9 : u1 = flS (z, ws, ts, op, 0, r, [], 0) 1 z := by rw [← hu]; exact oneS_41 (u := (z, ws, ts, op, 0, r, [], 0)) k15_41
    refine zw_pack (at0 := zMOy h (t) (ws) (ts) (op) (1) (z)) (Ls := [zMOd h (t) (ws) (ts) ([]) (op) (1) (z) (ct) (wh) (fd) (fr)]) (L2 := []) rfl (fun G w h => ⟨([], ct, wh, fd, fr), (fun e => (by first | rfl | cases e)), h⟩) ?_
    exact zw_iret hR (by subst e9; rfl) (by subst e9; rfl) rfl (by omega) (by omega) zd_MO_one_108
  by_cases k15_47 : (bget t z) = 47
  · refine zw_lookup (off := 180) 195 (by omega) zd_MO_one_15 (by decide) (by rw [k15_47]; rfl) (by decide) ?_
    refine zw_aload_n 2 rfl zd_MO_one_195 ?_
    refine zw_iload_n 3 rfl zd_MO_one_196 ?_
    refine zw_iconst zd_MO_one_197 ?_
    refine zw_iadd zd_MO_one_198 ?_
    refine zw_callV (As := [.int (zI (z + 1))]) (rest := []) (L2 := []) (L' := [zMOd h (t) (ws) (ts) ([]) (op) (0) (r) (ct) (wh) (fd) (fr)]) (stk' := [.int (zI (scanE sPlain t (z + 1)))]) (c_MO_behindRow h t ws ts ([]) op 0 r ct wh fd fr (z + 1) (by omega) (by omega)) [0] [] rfl rfl rfl zcal_MO_behindRow zl_MO_171 zin_MO_behindRow zse_MO_behindRow 0 rfl zRv_MOd rfl (Nat.le_of_ble_eq_true rfl) (Nat.le_of_ble_eq_true rfl) (by omega) (by omega) rfl (Nat.le_of_ble_eq_true rfl) rfl rfl zd_MO_one_199 ?_
    have sd199 := scanE_spec (f := sPlain) (t := t) (p := z + 1) (by omega)
    have se199 := scanE_ub (f := sPlain) (t := t) (p := z + 1) (by omega)
    refine zw_istore (lv' := [(4, .int (zI (scanE sPlain t (z + 1)))), (3, .int (zI (bget t (z + 1)))), (2, .int (zI (bget t z))), (0, .ref h), (1, .int (zI (z)))]) (Nat.le_of_ble_eq_true rfl) rfl zd_MO_one_202 ?_
    refine zw_iload 0 rfl zd_MO_one_204 ?_
    refine zw_iload_n 4 rfl zd_MO_one_206 ?_
    refine zw_isub zd_MO_one_207 ?_
    refine zw_iconst zd_MO_one_208 ?_
    refine zw_isub zd_MO_one_209 ?_
    refine zw_bipush rfl zd_MO_one_210 ?_
    refine zw_icmp_le 223 (by omega) (by omega) zd_MO_one_212 (by decide) (fun c212 => ?_) (fun c212 => ?_)
    · -- 212 -> 223
      refine zw_aload_n 3 rfl zd_MO_one_223 ?_
      refine zw_iconst zd_MO_one_224 ?_
      refine zw_aload_n 3 rfl zd_MO_one_225 ?_
      refine zw_iload_n 4 rfl zd_MO_one_226 ?_
      refine zw_iconst zd_MO_one_227 ?_
      refine zw_iadd zd_MO_one_228 ?_
      refine zw_iload 0 rfl zd_MO_one_229 ?_
      refine zw_callV (As := [.int (zI (z + 1)), .int (zI (scanE sPlain t (z + 1)))]) (rest := [.int (zI (4)), .ref h]) (L2 := []) (L' := [zMOd h (t) (ws) (addT ts (slc t (z + 1) (scanE sPlain t (z + 1)))) ([]) (op) (0) (r) (ct) (wh) (fd) (fr)]) (stk' := [.int (zI (((ixOf ts (slc t (z + 1) (scanE sPlain t (z + 1))) : Nat) : Int))), .int (zI (4)), .ref h]) (c_MO_textOf h t ws ts op 0 r ct wh fd fr (z + 1) (scanE sPlain t (z + 1)) (by omega) (by omega) (by omega)) [0] [] rfl rfl rfl zcal_MO_textOf zl_MO_107 zin_MO_textOf zse_MO_textOf 0 rfl zRv_MOd rfl (Nat.le_of_ble_eq_true rfl) (Nat.le_of_ble_eq_true rfl) (by omega) (by omega) rfl (Nat.le_of_ble_eq_true rfl) rfl rfl zd_MO_one_231 ?_
      refine zw_iload_n 4 rfl zd_MO_one_234 ?_
      refine zw_callV (As := [.int (zI (4)), .int (zI (((ixOf ts (slc t (z + 1) (scanE sPlain t (z + 1))) : Nat) : Int))), .int (zI (z))]) (rest := []) (L2 := []) (L' := [zMOd h (t) (ws ++ [(zI 4, (zI (((ixOf ts (slc t (z + 1) (scanE sPlain t (z + 1))) : Nat) : Int))), (zI (z)))]) (addT ts (slc t (z + 1) (scanE sPlain t (z + 1)))) ([]) (op) (0) (r) (ct) (wh) (fd) (fr)]) (stk' := []) (c_MO_word h t ws (addT ts (slc t (z + 1) (scanE sPlain t (z + 1)))) ([]) op 0 r ct wh fd fr 4 (zI (((ixOf ts (slc t (z + 1) (scanE sPlain t (z + 1))) : Nat) : Int))) (zI (z)) (by omega) (by omega)) [0] [] rfl rfl rfl zcal_MO_word zl_MO_110 zin_MO_word zse_MO_word 0 rfl zRv_MOd rfl (Nat.le_of_ble_eq_true rfl) (Nat.le_of_ble_eq_true rfl) (by omega) (by omega) rfl (Nat.le_of_ble_eq_true rfl) rfl rfl zd_MO_one_235 ?_
      refine zw_iload 0 rfl zd_MO_one_238 ?_
      have e9 : u1 = txS (z, ws, ts, op, 0, r, [], 0) 4 (slc t (z + 1) (scanE sPlain t (z + 1))) (scanE sPlain t (z + 1)) := by rw [← hu]; have e5 := rowE_ge (t := t) (p := z + 1) (q := 0) (by omega); rw [oneS_47 (u := (z, ws, ts, op, 0, r, [], 0)) k15_47]; show (if 127 < rowE t (z + 1) - z - 1 then _ else txS _ 4 (slc t (z + 1) (rowE t (z + 1))) (rowE t (z + 1))) = _; rw [if_neg (show ¬ 127 < rowE t (z + 1) - z - 1 by omega), e5]
      refine zw_pack (at0 := zMOy h (t) (ws ++ [(zI 4, (zI (((ixOf ts (slc t (z + 1) (scanE sPlain t (z + 1))) : Nat) : Int))), (zI (z)))]) (addT ts (slc t (z + 1) (scanE sPlain t (z + 1)))) (op) (0) (r)) (Ls := [zMOd h (t) (ws ++ [(zI 4, (zI (((ixOf ts (slc t (z + 1) (scanE sPlain t (z + 1))) : Nat) : Int))), (zI (z)))]) (addT ts (slc t (z + 1) (scanE sPlain t (z + 1)))) ([]) (op) (0) (r) (ct) (wh) (fd) (fr)]) (L2 := []) rfl (fun G w h => ⟨([], ct, wh, fd, fr), (fun e => (by first | rfl | cases e)), h⟩) ?_
      exact zw_iret hR (by subst e9; rfl) (by subst e9; rfl) rfl (by omega) (by omega) zd_MO_one_240
    · -- 212 -> 215
      refine zw_aload_n 3 rfl zd_MO_one_215 ?_
      refine zw_bipush rfl zd_MO_one_216 ?_
      refine zw_iload_n 4 rfl zd_MO_one_218 ?_
      refine zw_callV (As := [.int (zI (6)), .int (zI (z))]) (rest := []) (L2 := []) (L' := [zMOd h (t) (ws) (ts) ([]) (op) (6) (z) (ct) (wh) (fd) (fr)]) (stk' := [.int (zI (-1))]) (c_MO_fail h t ws ts ([]) op 0 r ct wh fd fr 6 z) [0] [] rfl rfl rfl zcal_MO_fail zl_MO_80 zin_MO_fail zse_MO_fail 0 rfl zRv_MOd rfl (Nat.le_of_ble_eq_true rfl) (Nat.le_of_ble_eq_true rfl) (by omega) (by omega) rfl (Nat.le_of_ble_eq_true rfl) rfl rfl zd_MO_one_219 ?_
      have e9 : u1 = flS (z, ws, ts, op, 0, r, [], 0) 6 z := by rw [← hu]; rw [oneS_47 (u := (z, ws, ts, op, 0, r, [], 0)) k15_47, if_pos (show 127 < rowE t (z + 1) - z - 1 by have := rowE_le (t := t) (p := z + 1) (q := 0) (by omega); omega)]
      refine zw_pack (at0 := zMOy h (t) (ws) (ts) (op) (6) (z)) (Ls := [zMOd h (t) (ws) (ts) ([]) (op) (6) (z) (ct) (wh) (fd) (fr)]) (L2 := []) rfl (fun G w h => ⟨([], ct, wh, fd, fr), (fun e => (by first | rfl | cases e)), h⟩) ?_
      exact zw_iret hR (by subst e9; rfl) (by subst e9; rfl) rfl (by omega) (by omega) zd_MO_one_222
  by_cases k15_60 : (bget t z) = 60
  · refine zw_lookup (off := 119) 134 (by omega) zd_MO_one_15 (by decide) (by rw [k15_60]; rfl) (by decide) ?_
    refine zw_iload_n 0 rfl zd_MO_one_134 ?_
    refine zw_bipush rfl zd_MO_one_135 ?_
    refine zw_icmp_eq 146 (by omega) (by omega) zd_MO_one_137 (by decide) (fun c137 => ?_) (fun c137 => ?_)
    · -- 137 -> 146
      have hb1 := bget_in (l := t) (z := z + 1) (by omega)
      refine zw_aload_n 2 rfl zd_MO_one_146 ?_
      refine zw_iconst zd_MO_one_147 ?_
      refine zw_aload_n 2 rfl zd_MO_one_148 ?_
      refine zw_iload_n 3 rfl zd_MO_one_149 ?_
      refine zw_iload_n 3 rfl zd_MO_one_150 ?_
      refine zw_iconst zd_MO_one_151 ?_
      refine zw_iadd zd_MO_one_152 ?_
      refine zw_callV (As := [.int (zI (z)), .int (zI (z + 2))]) (rest := [.int (zI (3)), .ref h]) (L2 := []) (L' := [zMOd h (t) (ws) (addT ts (slc t z (z + 2))) ([]) (op) (0) (r) (ct) (wh) (fd) (fr)]) (stk' := [.int (zI (((ixOf ts (slc t z (z + 2)) : Nat) : Int))), .int (zI (3)), .ref h]) (c_MO_textOf h t ws ts op 0 r ct wh fd fr z (z + 2) (by omega) (by omega) (by omega)) [0] [] rfl rfl rfl zcal_MO_textOf zl_MO_107 zin_MO_textOf zse_MO_textOf 0 rfl zRv_MOd rfl (Nat.le_of_ble_eq_true rfl) (Nat.le_of_ble_eq_true rfl) (by omega) (by omega) rfl (Nat.le_of_ble_eq_true rfl) rfl rfl zd_MO_one_153 ?_
      refine zw_iload_n 3 rfl zd_MO_one_156 ?_
      refine zw_callV (As := [.int (zI (3)), .int (zI (((ixOf ts (slc t z (z + 2)) : Nat) : Int))), .int (zI (z))]) (rest := []) (L2 := []) (L' := [zMOd h (t) (ws ++ [(zI 3, (zI (((ixOf ts (slc t z (z + 2)) : Nat) : Int))), (zI (z)))]) (addT ts (slc t z (z + 2))) ([]) (op) (0) (r) (ct) (wh) (fd) (fr)]) (stk' := []) (c_MO_word h t ws (addT ts (slc t z (z + 2))) ([]) op 0 r ct wh fd fr 3 (zI (((ixOf ts (slc t z (z + 2)) : Nat) : Int))) (zI (z)) (by omega) (by omega)) [0] [] rfl rfl rfl zcal_MO_word zl_MO_110 zin_MO_word zse_MO_word 0 rfl zRv_MOd rfl (Nat.le_of_ble_eq_true rfl) (Nat.le_of_ble_eq_true rfl) (by omega) (by omega) rfl (Nat.le_of_ble_eq_true rfl) rfl rfl zd_MO_one_157 ?_
      refine zw_iload_n 3 rfl zd_MO_one_160 ?_
      refine zw_iconst zd_MO_one_161 ?_
      refine zw_iadd zd_MO_one_162 ?_
      have e9 : u1 = txS (z, ws, ts, op, 0, r, [], 0) 3 (slc t z (z + 2)) (z + 2) := by rw [← hu]; rw [oneS_lt (u := (z, ws, ts, op, 0, r, [], 0)) k15_60, if_pos (show bget t (z + 1) = 60 by omega)]
      refine zw_pack (at0 := zMOy h (t) (ws ++ [(zI 3, (zI (((ixOf ts (slc t z (z + 2)) : Nat) : Int))), (zI (z)))]) (addT ts (slc t z (z + 2))) (op) (0) (r)) (Ls := [zMOd h (t) (ws ++ [(zI 3, (zI (((ixOf ts (slc t z (z + 2)) : Nat) : Int))), (zI (z)))]) (addT ts (slc t z (z + 2))) ([]) (op) (0) (r) (ct) (wh) (fd) (fr)]) (L2 := []) rfl (fun G w h => ⟨([], ct, wh, fd, fr), (fun e => (by first | rfl | cases e)), h⟩) ?_
      exact zw_iret hR (by subst e9; rfl) (by subst e9; rfl) rfl (by omega) (by omega) zd_MO_one_163
    · -- 137 -> 140
      obtain ⟨xs, h1, wy, E, hpr⟩ : ∃ xs h1 wy E, prS t t.length (z + 1) (-1) [] = (xs, h1, wy, E) := ⟨_, _, _, _, rfl⟩
      have hr := prS_rg _ _ _ _ (by omega) (by omega) hpr
      rcases hr.2.2.2.1 with hy | hy | hy
      · skip
        refine zw_aload_n 2 rfl zd_MO_one_140 ?_
        refine zw_iload_n 3 rfl zd_MO_one_141 ?_
        refine zw_callV (As := [.int (zI (z))]) (rest := []) (L2 := []) (L' := [zMOd h (t) (ws ++ [(zI 5, zI ((ixOf ts (prX xs h1) : Nat) : Int), zI z)]) (addT ts (prX xs h1)) ([]) (op) (0) (r) (ct) (wh) (fd) (fr)]) (stk' := [.int (zI (E + 1))]) (c_MO_pairs_ok h t ws ts op 0 r ct wh fd fr z (by omega) (by omega) (by omega) (by omega) xs h1 wy E hpr hy) [0] [] rfl rfl rfl zcal_MO_pairs zl_MO_168 zin_MO_pairs zse_MO_pairs 0 rfl zRv_MOd rfl (Nat.le_of_ble_eq_true rfl) (Nat.le_of_ble_eq_true rfl) (by omega) (by omega) rfl (Nat.le_of_ble_eq_true rfl) rfl rfl zd_MO_one_142 ?_
        have e9 : u1 = txS (z, ws, ts, op, 0, r, [], 0) 5 (prX xs h1) (E + 1) := by rw [← hu]; rw [oneS_lt (u := (z, ws, ts, op, 0, r, [], 0)) k15_60, if_neg (show ¬ bget t (z + 1) = 60 by omega)]; show prsS t _ (prS t t.length (z + 1) (-1) []) = _; rw [hpr]; unfold prsS; rw [if_pos hy]
        refine zw_pack (at0 := zMOy h (t) (ws ++ [(zI 5, zI ((ixOf ts (prX xs h1) : Nat) : Int), zI z)]) (addT ts (prX xs h1)) (op) (0) (r)) (Ls := [zMOd h (t) (ws ++ [(zI 5, zI ((ixOf ts (prX xs h1) : Nat) : Int), zI z)]) (addT ts (prX xs h1)) ([]) (op) (0) (r) (ct) (wh) (fd) (fr)]) (L2 := []) rfl (fun G w h => ⟨([], ct, wh, fd, fr), (fun e => (by first | rfl | cases e)), h⟩) ?_
        exact zw_iret hR (by subst e9; rfl) (by subst e9; rfl) rfl (by omega) (by omega) zd_MO_one_145
      · skip
        refine zw_aload_n 2 rfl zd_MO_one_140 ?_
        refine zw_iload_n 3 rfl zd_MO_one_141 ?_
        refine zw_callV (As := [.int (zI (z))]) (rest := []) (L2 := []) (L' := [zMOd h (t) (ws) (ts) (xs) (op) (2) (((t.length : Nat) : Int)) (ct) (wh) (fd) (fr)]) (stk' := [.int (zI (-1))]) (c_MO_pairs_bad2 h t ws ts op 0 r ct wh fd fr z (by omega) (by omega) (by omega) (by omega) xs h1 wy E hpr hy) [0] [] rfl rfl rfl zcal_MO_pairs zl_MO_168 zin_MO_pairs zse_MO_pairs 0 rfl zRv_MOd rfl (Nat.le_of_ble_eq_true rfl) (Nat.le_of_ble_eq_true rfl) (by omega) (by omega) rfl (Nat.le_of_ble_eq_true rfl) rfl rfl zd_MO_one_142 ?_
        have e9 : u1 = (((t.length : Nat) : Int), ws, ts, op, 2, ((t.length : Nat) : Int), prX xs h1, max 0 (ts.flatten.length + (prX xs h1).length)) := by rw [← hu]; rw [oneS_lt (u := (z, ws, ts, op, 0, r, [], 0)) k15_60, if_neg (show ¬ bget t (z + 1) = 60 by omega)]; show prsS t _ (prS t t.length (z + 1) (-1) []) = _; rw [hpr]; unfold prsS; rw [if_neg (show ¬ wy = 0 by omega), if_pos hy]
        refine zw_pack (at0 := zMOy h (t) (ws) (ts) (op) (2) (((t.length : Nat) : Int))) (Ls := [zMOd h (t) (ws) (ts) (xs) (op) (2) (((t.length : Nat) : Int)) (ct) (wh) (fd) (fr)]) (L2 := []) rfl (fun G w h => ⟨(xs, ct, wh, fd, fr), (fun e => (by first | rfl | cases e)), h⟩) ?_
        exact zw_iret hR (by subst e9; rfl) (by subst e9; rfl) rfl (by omega) (by omega) zd_MO_one_145
      · skip
        refine zw_aload_n 2 rfl zd_MO_one_140 ?_
        refine zw_iload_n 3 rfl zd_MO_one_141 ?_
        refine zw_callV (As := [.int (zI (z))]) (rest := []) (L2 := []) (L' := [zMOd h (t) (ws) (ts) (xs) (op) (3) (E) (ct) (wh) (fd) (fr)]) (stk' := [.int (zI (-1))]) (c_MO_pairs_bad3 h t ws ts op 0 r ct wh fd fr z (by omega) (by omega) (by omega) (by omega) xs h1 wy E hpr hy) [0] [] rfl rfl rfl zcal_MO_pairs zl_MO_168 zin_MO_pairs zse_MO_pairs 0 rfl zRv_MOd rfl (Nat.le_of_ble_eq_true rfl) (Nat.le_of_ble_eq_true rfl) (by omega) (by omega) rfl (Nat.le_of_ble_eq_true rfl) rfl rfl zd_MO_one_142 ?_
        have e9 : u1 = (E, ws, ts, op, 3, E, xs, max 0 (ts.flatten.length + xs.length)) := by rw [← hu]; rw [oneS_lt (u := (z, ws, ts, op, 0, r, [], 0)) k15_60, if_neg (show ¬ bget t (z + 1) = 60 by omega)]; show prsS t _ (prS t t.length (z + 1) (-1) []) = _; rw [hpr]; unfold prsS; rw [if_neg (show ¬ wy = 0 by omega), if_neg (show ¬ wy = 2 by omega)]
        refine zw_pack (at0 := zMOy h (t) (ws) (ts) (op) (3) (E)) (Ls := [zMOd h (t) (ws) (ts) (xs) (op) (3) (E) (ct) (wh) (fd) (fr)]) (L2 := []) rfl (fun G w h => ⟨(xs, ct, wh, fd, fr), (fun e => (by first | rfl | cases e)), h⟩) ?_
        exact zw_iret hR (by subst e9; rfl) (by subst e9; rfl) rfl (by omega) (by omega) zd_MO_one_145
  by_cases k15_62 : (bget t z) = 62
  · refine zw_lookup (off := 149) 164 (by omega) zd_MO_one_15 (by decide) (by rw [k15_62]; rfl) (by decide) ?_
    refine zw_iload_n 0 rfl zd_MO_one_164 ?_
    refine zw_bipush rfl zd_MO_one_165 ?_
    refine zw_icmp_eq 177 (by omega) (by omega) zd_MO_one_167 (by decide) (fun c167 => ?_) (fun c167 => ?_)
    · -- 167 -> 177
      have hb1 := bget_in (l := t) (z := z + 1) (by omega)
      refine zw_aload_n 2 rfl zd_MO_one_177 ?_
      refine zw_iconst zd_MO_one_178 ?_
      refine zw_aload_n 2 rfl zd_MO_one_179 ?_
      refine zw_iload_n 3 rfl zd_MO_one_180 ?_
      refine zw_iload_n 3 rfl zd_MO_one_181 ?_
      refine zw_iconst zd_MO_one_182 ?_
      refine zw_iadd zd_MO_one_183 ?_
      refine zw_callV (As := [.int (zI (z)), .int (zI (z + 2))]) (rest := [.int (zI (3)), .ref h]) (L2 := []) (L' := [zMOd h (t) (ws) (addT ts (slc t z (z + 2))) ([]) (op) (0) (r) (ct) (wh) (fd) (fr)]) (stk' := [.int (zI (((ixOf ts (slc t z (z + 2)) : Nat) : Int))), .int (zI (3)), .ref h]) (c_MO_textOf h t ws ts op 0 r ct wh fd fr z (z + 2) (by omega) (by omega) (by omega)) [0] [] rfl rfl rfl zcal_MO_textOf zl_MO_107 zin_MO_textOf zse_MO_textOf 0 rfl zRv_MOd rfl (Nat.le_of_ble_eq_true rfl) (Nat.le_of_ble_eq_true rfl) (by omega) (by omega) rfl (Nat.le_of_ble_eq_true rfl) rfl rfl zd_MO_one_184 ?_
      refine zw_iload_n 3 rfl zd_MO_one_187 ?_
      refine zw_callV (As := [.int (zI (3)), .int (zI (((ixOf ts (slc t z (z + 2)) : Nat) : Int))), .int (zI (z))]) (rest := []) (L2 := []) (L' := [zMOd h (t) (ws ++ [(zI 3, (zI (((ixOf ts (slc t z (z + 2)) : Nat) : Int))), (zI (z)))]) (addT ts (slc t z (z + 2))) ([]) (op) (0) (r) (ct) (wh) (fd) (fr)]) (stk' := []) (c_MO_word h t ws (addT ts (slc t z (z + 2))) ([]) op 0 r ct wh fd fr 3 (zI (((ixOf ts (slc t z (z + 2)) : Nat) : Int))) (zI (z)) (by omega) (by omega)) [0] [] rfl rfl rfl zcal_MO_word zl_MO_110 zin_MO_word zse_MO_word 0 rfl zRv_MOd rfl (Nat.le_of_ble_eq_true rfl) (Nat.le_of_ble_eq_true rfl) (by omega) (by omega) rfl (Nat.le_of_ble_eq_true rfl) rfl rfl zd_MO_one_188 ?_
      refine zw_iload_n 3 rfl zd_MO_one_191 ?_
      refine zw_iconst zd_MO_one_192 ?_
      refine zw_iadd zd_MO_one_193 ?_
      have e9 : u1 = txS (z, ws, ts, op, 0, r, [], 0) 3 (slc t z (z + 2)) (z + 2) := by rw [← hu]; rw [oneS_gt (u := (z, ws, ts, op, 0, r, [], 0)) k15_62, if_pos (show bget t (z + 1) = 62 by omega)]
      refine zw_pack (at0 := zMOy h (t) (ws ++ [(zI 3, (zI (((ixOf ts (slc t z (z + 2)) : Nat) : Int))), (zI (z)))]) (addT ts (slc t z (z + 2))) (op) (0) (r)) (Ls := [zMOd h (t) (ws ++ [(zI 3, (zI (((ixOf ts (slc t z (z + 2)) : Nat) : Int))), (zI (z)))]) (addT ts (slc t z (z + 2))) ([]) (op) (0) (r) (ct) (wh) (fd) (fr)]) (L2 := []) rfl (fun G w h => ⟨([], ct, wh, fd, fr), (fun e => (by first | rfl | cases e)), h⟩) ?_
      exact zw_iret hR (by subst e9; rfl) (by subst e9; rfl) rfl (by omega) (by omega) zd_MO_one_194
    · -- 167 -> 170
      refine zw_aload_n 2 rfl zd_MO_one_170 ?_
      refine zw_iconst zd_MO_one_171 ?_
      refine zw_iload_n 3 rfl zd_MO_one_172 ?_
      refine zw_callV (As := [.int (zI (1)), .int (zI (z))]) (rest := []) (L2 := []) (L' := [zMOd h (t) (ws) (ts) ([]) (op) (1) (z) (ct) (wh) (fd) (fr)]) (stk' := [.int (zI (-1))]) (c_MO_fail h t ws ts ([]) op 0 r ct wh fd fr 1 z) [0] [] rfl rfl rfl zcal_MO_fail zl_MO_80 zin_MO_fail zse_MO_fail 0 rfl zRv_MOd rfl (Nat.le_of_ble_eq_true rfl) (Nat.le_of_ble_eq_true rfl) (by omega) (by omega) rfl (Nat.le_of_ble_eq_true rfl) rfl rfl zd_MO_one_173 ?_
      have e9 : u1 = flS (z, ws, ts, op, 0, r, [], 0) 1 z := by rw [← hu]; rw [oneS_gt (u := (z, ws, ts, op, 0, r, [], 0)) k15_62, if_neg (show ¬ bget t (z + 1) = 62 by omega)]
      refine zw_pack (at0 := zMOy h (t) (ws) (ts) (op) (1) (z)) (Ls := [zMOd h (t) (ws) (ts) ([]) (op) (1) (z) (ct) (wh) (fd) (fr)]) (L2 := []) rfl (fun G w h => ⟨([], ct, wh, fd, fr), (fun e => (by first | rfl | cases e)), h⟩) ?_
      exact zw_iret hR (by subst e9; rfl) (by subst e9; rfl) rfl (by omega) (by omega) zd_MO_one_176
  by_cases k15_91 : (bget t z) = 91
  · refine zw_lookup (off := 101) 116 (by omega) zd_MO_one_15 (by decide) (by rw [k15_91]; rfl) (by decide) ?_
    refine zw_aload_n 2 rfl zd_MO_one_116 ?_
    refine zw_iconst zd_MO_one_117 ?_
    refine zw_aload_n 2 rfl zd_MO_one_118 ?_
    refine zw_iload_n 3 rfl zd_MO_one_119 ?_
    refine zw_iload_n 3 rfl zd_MO_one_120 ?_
    refine zw_iconst zd_MO_one_121 ?_
    refine zw_iadd zd_MO_one_122 ?_
    refine zw_callV (As := [.int (zI (z)), .int (zI (z + 1))]) (rest := [.int (zI (3)), .ref h]) (L2 := []) (L' := [zMOd h (t) (ws) (addT ts (slc t z (z + 1))) ([]) (op) (0) (r) (ct) (wh) (fd) (fr)]) (stk' := [.int (zI (((ixOf ts (slc t z (z + 1)) : Nat) : Int))), .int (zI (3)), .ref h]) (c_MO_textOf h t ws ts op 0 r ct wh fd fr z (z + 1) (by omega) (by omega) (by omega)) [0] [] rfl rfl rfl zcal_MO_textOf zl_MO_107 zin_MO_textOf zse_MO_textOf 0 rfl zRv_MOd rfl (Nat.le_of_ble_eq_true rfl) (Nat.le_of_ble_eq_true rfl) (by omega) (by omega) rfl (Nat.le_of_ble_eq_true rfl) rfl rfl zd_MO_one_123 ?_
    refine zw_iload_n 3 rfl zd_MO_one_126 ?_
    refine zw_callV (As := [.int (zI (3)), .int (zI (((ixOf ts (slc t z (z + 1)) : Nat) : Int))), .int (zI (z))]) (rest := []) (L2 := []) (L' := [zMOd h (t) (ws ++ [(zI 3, (zI (((ixOf ts (slc t z (z + 1)) : Nat) : Int))), (zI (z)))]) (addT ts (slc t z (z + 1))) ([]) (op) (0) (r) (ct) (wh) (fd) (fr)]) (stk' := []) (c_MO_word h t ws (addT ts (slc t z (z + 1))) ([]) op 0 r ct wh fd fr 3 (zI (((ixOf ts (slc t z (z + 1)) : Nat) : Int))) (zI (z)) (by omega) (by omega)) [0] [] rfl rfl rfl zcal_MO_word zl_MO_110 zin_MO_word zse_MO_word 0 rfl zRv_MOd rfl (Nat.le_of_ble_eq_true rfl) (Nat.le_of_ble_eq_true rfl) (by omega) (by omega) rfl (Nat.le_of_ble_eq_true rfl) rfl rfl zd_MO_one_127 ?_
    refine zw_iload_n 3 rfl zd_MO_one_130 ?_
    refine zw_iconst zd_MO_one_131 ?_
    refine zw_iadd zd_MO_one_132 ?_
    have e9 : u1 = txS (z, ws, ts, op, 0, r, [], 0) 3 (slc t z (z + 1)) (z + 1) := by rw [← hu]; exact oneS_sq (u := (z, ws, ts, op, 0, r, [], 0)) (show bget t z = 91 ∨ bget t z = 93 by omega)
    refine zw_pack (at0 := zMOy h (t) (ws ++ [(zI 3, (zI (((ixOf ts (slc t z (z + 1)) : Nat) : Int))), (zI (z)))]) (addT ts (slc t z (z + 1))) (op) (0) (r)) (Ls := [zMOd h (t) (ws ++ [(zI 3, (zI (((ixOf ts (slc t z (z + 1)) : Nat) : Int))), (zI (z)))]) (addT ts (slc t z (z + 1))) ([]) (op) (0) (r) (ct) (wh) (fd) (fr)]) (L2 := []) rfl (fun G w h => ⟨([], ct, wh, fd, fr), (fun e => (by first | rfl | cases e)), h⟩) ?_
    exact zw_iret hR (by subst e9; rfl) (by subst e9; rfl) rfl (by omega) (by omega) zd_MO_one_133
  by_cases k15_93 : (bget t z) = 93
  · refine zw_lookup (off := 101) 116 (by omega) zd_MO_one_15 (by decide) (by rw [k15_93]; rfl) (by decide) ?_
    refine zw_aload_n 2 rfl zd_MO_one_116 ?_
    refine zw_iconst zd_MO_one_117 ?_
    refine zw_aload_n 2 rfl zd_MO_one_118 ?_
    refine zw_iload_n 3 rfl zd_MO_one_119 ?_
    refine zw_iload_n 3 rfl zd_MO_one_120 ?_
    refine zw_iconst zd_MO_one_121 ?_
    refine zw_iadd zd_MO_one_122 ?_
    refine zw_callV (As := [.int (zI (z)), .int (zI (z + 1))]) (rest := [.int (zI (3)), .ref h]) (L2 := []) (L' := [zMOd h (t) (ws) (addT ts (slc t z (z + 1))) ([]) (op) (0) (r) (ct) (wh) (fd) (fr)]) (stk' := [.int (zI (((ixOf ts (slc t z (z + 1)) : Nat) : Int))), .int (zI (3)), .ref h]) (c_MO_textOf h t ws ts op 0 r ct wh fd fr z (z + 1) (by omega) (by omega) (by omega)) [0] [] rfl rfl rfl zcal_MO_textOf zl_MO_107 zin_MO_textOf zse_MO_textOf 0 rfl zRv_MOd rfl (Nat.le_of_ble_eq_true rfl) (Nat.le_of_ble_eq_true rfl) (by omega) (by omega) rfl (Nat.le_of_ble_eq_true rfl) rfl rfl zd_MO_one_123 ?_
    refine zw_iload_n 3 rfl zd_MO_one_126 ?_
    refine zw_callV (As := [.int (zI (3)), .int (zI (((ixOf ts (slc t z (z + 1)) : Nat) : Int))), .int (zI (z))]) (rest := []) (L2 := []) (L' := [zMOd h (t) (ws ++ [(zI 3, (zI (((ixOf ts (slc t z (z + 1)) : Nat) : Int))), (zI (z)))]) (addT ts (slc t z (z + 1))) ([]) (op) (0) (r) (ct) (wh) (fd) (fr)]) (stk' := []) (c_MO_word h t ws (addT ts (slc t z (z + 1))) ([]) op 0 r ct wh fd fr 3 (zI (((ixOf ts (slc t z (z + 1)) : Nat) : Int))) (zI (z)) (by omega) (by omega)) [0] [] rfl rfl rfl zcal_MO_word zl_MO_110 zin_MO_word zse_MO_word 0 rfl zRv_MOd rfl (Nat.le_of_ble_eq_true rfl) (Nat.le_of_ble_eq_true rfl) (by omega) (by omega) rfl (Nat.le_of_ble_eq_true rfl) rfl rfl zd_MO_one_127 ?_
    refine zw_iload_n 3 rfl zd_MO_one_130 ?_
    refine zw_iconst zd_MO_one_131 ?_
    refine zw_iadd zd_MO_one_132 ?_
    have e9 : u1 = txS (z, ws, ts, op, 0, r, [], 0) 3 (slc t z (z + 1)) (z + 1) := by rw [← hu]; exact oneS_sq (u := (z, ws, ts, op, 0, r, [], 0)) (show bget t z = 91 ∨ bget t z = 93 by omega)
    refine zw_pack (at0 := zMOy h (t) (ws ++ [(zI 3, (zI (((ixOf ts (slc t z (z + 1)) : Nat) : Int))), (zI (z)))]) (addT ts (slc t z (z + 1))) (op) (0) (r)) (Ls := [zMOd h (t) (ws ++ [(zI 3, (zI (((ixOf ts (slc t z (z + 1)) : Nat) : Int))), (zI (z)))]) (addT ts (slc t z (z + 1))) ([]) (op) (0) (r) (ct) (wh) (fd) (fr)]) (L2 := []) rfl (fun G w h => ⟨([], ct, wh, fd, fr), (fun e => (by first | rfl | cases e)), h⟩) ?_
    exact zw_iret hR (by subst e9; rfl) (by subst e9; rfl) rfl (by omega) (by omega) zd_MO_one_133
  by_cases k15_123 : (bget t z) = 123
  · refine zw_lookup (off := 94) 109 (by omega) zd_MO_one_15 (by decide) (by rw [k15_123]; rfl) (by decide) ?_
    refine zw_eqv (lv' := [(3, .int (zI (bget t (z + 1)))), (2, .int (zI (123))), (0, .ref h), (1, .int (zI (z)))]) (by rw [k15_123]) ?_
    by_cases ho : op.length < 64
    · skip
      refine zw_aload_n 2 rfl zd_MO_one_109 ?_
      refine zw_iload_n 3 rfl zd_MO_one_110 ?_
      refine zw_iload_n 1 rfl zd_MO_one_111 ?_
      refine zw_callV (As := [.int (zI (z)), .int (zI (123))]) (rest := []) (L2 := []) (L' := [zMOd h (t) (ws ++ [(zI 6, zI (-1), zI z)]) (ts) ([]) (op ++ [((ws.length : Nat) : Int)]) (0) (r) (ct) (wh) (fd) (fr)]) (stk' := [.int (zI (z + 1))]) (c_MO_open_ok h t ws ts op 0 r ct wh fd fr z (by omega) ho) [0] [] rfl rfl rfl zcal_MO_brace zl_MO_165 zin_MO_brace zse_MO_brace 0 rfl zRv_MOd rfl (Nat.le_of_ble_eq_true rfl) (Nat.le_of_ble_eq_true rfl) (by omega) (by omega) rfl (Nat.le_of_ble_eq_true rfl) rfl rfl zd_MO_one_112 ?_
      have e9 : u1 = (z + 1, ws ++ [(zI 6, zI (-1), zI z)], ts, op ++ [((ws.length : Nat) : Int)], 0, r, [], 0) := by rw [← hu]; rw [oneS_op (u := (z, ws, ts, op, 0, r, [], 0)) k15_123]; unfold opnS; rw [if_pos ho]
      refine zw_pack (at0 := zMOy h (t) (ws ++ [(zI 6, zI (-1), zI z)]) (ts) (op ++ [((ws.length : Nat) : Int)]) (0) (r)) (Ls := [zMOd h (t) (ws ++ [(zI 6, zI (-1), zI z)]) (ts) ([]) (op ++ [((ws.length : Nat) : Int)]) (0) (r) (ct) (wh) (fd) (fr)]) (L2 := []) rfl (fun G w h => ⟨([], ct, wh, fd, fr), (fun e => (by first | rfl | cases e)), h⟩) ?_
      exact zw_iret hR (by subst e9; rfl) (by subst e9; rfl) rfl (by omega) (by omega) zd_MO_one_115
    · skip
      refine zw_aload_n 2 rfl zd_MO_one_109 ?_
      refine zw_iload_n 3 rfl zd_MO_one_110 ?_
      refine zw_iload_n 1 rfl zd_MO_one_111 ?_
      refine zw_callV (As := [.int (zI (z)), .int (zI (123))]) (rest := []) (L2 := []) (L' := [zMOd h (t) (ws) (ts) ([]) (op) (7) (z) (ct) (wh) (fd) (fr)]) (stk' := [.int (zI (-1))]) (c_MO_open_bad h t ws ts op 0 r ct wh fd fr z (by omega) ho) [0] [] rfl rfl rfl zcal_MO_brace zl_MO_165 zin_MO_brace zse_MO_brace 0 rfl zRv_MOd rfl (Nat.le_of_ble_eq_true rfl) (Nat.le_of_ble_eq_true rfl) (by omega) (by omega) rfl (Nat.le_of_ble_eq_true rfl) rfl rfl zd_MO_one_112 ?_
      have e9 : u1 = flS (z, ws, ts, op, 0, r, [], 0) 7 z := by rw [← hu]; rw [oneS_op (u := (z, ws, ts, op, 0, r, [], 0)) k15_123]; unfold opnS; rw [if_neg ho]
      refine zw_pack (at0 := zMOy h (t) (ws) (ts) (op) (7) (z)) (Ls := [zMOd h (t) (ws) (ts) ([]) (op) (7) (z) (ct) (wh) (fd) (fr)]) (L2 := []) rfl (fun G w h => ⟨([], ct, wh, fd, fr), (fun e => (by first | rfl | cases e)), h⟩) ?_
      exact zw_iret hR (by subst e9; rfl) (by subst e9; rfl) rfl (by omega) (by omega) zd_MO_one_115
  by_cases k15_125 : (bget t z) = 125
  · refine zw_lookup (off := 94) 109 (by omega) zd_MO_one_15 (by decide) (by rw [k15_125]; rfl) (by decide) ?_
    refine zw_eqv (lv' := [(3, .int (zI (bget t (z + 1)))), (2, .int (zI (125))), (0, .ref h), (1, .int (zI (z)))]) (by rw [k15_125]) ?_
    by_cases ho : op.length = 0
    · skip
      refine zw_aload_n 2 rfl zd_MO_one_109 ?_
      refine zw_iload_n 3 rfl zd_MO_one_110 ?_
      refine zw_iload_n 1 rfl zd_MO_one_111 ?_
      refine zw_callV (As := [.int (zI (z)), .int (zI (125))]) (rest := []) (L2 := []) (L' := [zMOd h (t) (ws) (ts) ([]) (op) (4) (z) (ct) (wh) (fd) (fr)]) (stk' := [.int (zI (-1))]) (c_MO_close_bad h t ws ts op 0 r ct wh fd fr z (by omega) ho) [0] [] rfl rfl rfl zcal_MO_brace zl_MO_165 zin_MO_brace zse_MO_brace 0 rfl zRv_MOd rfl (Nat.le_of_ble_eq_true rfl) (Nat.le_of_ble_eq_true rfl) (by omega) (by omega) rfl (Nat.le_of_ble_eq_true rfl) rfl rfl zd_MO_one_112 ?_
      have e9 : u1 = flS (z, ws, ts, op, 0, r, [], 0) 4 z := by rw [← hu]; rw [oneS_cl (u := (z, ws, ts, op, 0, r, [], 0)) k15_125]; unfold clsS; rw [if_pos ho]
      refine zw_pack (at0 := zMOy h (t) (ws) (ts) (op) (4) (z)) (Ls := [zMOd h (t) (ws) (ts) ([]) (op) (4) (z) (ct) (wh) (fd) (fr)]) (L2 := []) rfl (fun G w h => ⟨([], ct, wh, fd, fr), (fun e => (by first | rfl | cases e)), h⟩) ?_
      exact zw_iret hR (by subst e9; rfl) (by subst e9; rfl) rfl (by omega) (by omega) zd_MO_one_115
    · skip
      refine zw_aload_n 2 rfl zd_MO_one_109 ?_
      refine zw_iload_n 3 rfl zd_MO_one_110 ?_
      refine zw_iload_n 1 rfl zd_MO_one_111 ?_
      refine zw_callV (As := [.int (zI (z)), .int (zI (125))]) (rest := []) (L2 := []) (L' := [zMOd h (t) (wsetN ws (op.getD (op.length - 1) 0) (zI ((ws.length : Nat) : Int)) ++ [(zI 7, zI (op.getD (op.length - 1) 0), zI z)]) (ts) ([]) (op.take (op.length - 1)) (0) (r) (ct) (wh) (fd) (fr)]) (stk' := [.int (zI (z + 1))]) (c_MO_close_ok h t ws ts op 0 r ct wh fd fr z (by omega) ho hox) [0] [] rfl rfl rfl zcal_MO_brace zl_MO_165 zin_MO_brace zse_MO_brace 0 rfl zRv_MOd rfl (Nat.le_of_ble_eq_true rfl) (Nat.le_of_ble_eq_true rfl) (by omega) (by omega) rfl (Nat.le_of_ble_eq_true rfl) rfl rfl zd_MO_one_112 ?_
      have e9 : u1 = (z + 1, wsetN ws (op.getD (op.length - 1) 0) (zI ((ws.length : Nat) : Int)) ++ [(zI 7, zI (op.getD (op.length - 1) 0), zI z)], ts, op.take (op.length - 1), 0, r, [], 0) := by rw [← hu]; rw [oneS_cl (u := (z, ws, ts, op, 0, r, [], 0)) k15_125]; unfold clsS; rw [if_neg ho]
      refine zw_pack (at0 := zMOy h (t) (wsetN ws (op.getD (op.length - 1) 0) (zI ((ws.length : Nat) : Int)) ++ [(zI 7, zI (op.getD (op.length - 1) 0), zI z)]) (ts) (op.take (op.length - 1)) (0) (r)) (Ls := [zMOd h (t) (wsetN ws (op.getD (op.length - 1) 0) (zI ((ws.length : Nat) : Int)) ++ [(zI 7, zI (op.getD (op.length - 1) 0), zI z)]) (ts) ([]) (op.take (op.length - 1)) (0) (r) (ct) (wh) (fd) (fr)]) (L2 := []) rfl (fun G w h => ⟨([], ct, wh, fd, fr), (fun e => (by first | rfl | cases e)), h⟩) ?_
      exact zw_iret hR (by subst e9; rfl) (by subst e9; rfl) rfl (by omega) (by omega) zd_MO_one_115
  refine zw_lookup (off := 226) 241 (by omega) zd_MO_one_15 (by decide) (by rw [Op.lookupswitch.offset_cons, if_neg (Ne.symm k15_40)]; rw [Op.lookupswitch.offset_cons, if_neg (Ne.symm k15_41)]; rw [Op.lookupswitch.offset_cons, if_neg (Ne.symm k15_47)]; rw [Op.lookupswitch.offset_cons, if_neg (Ne.symm k15_60)]; rw [Op.lookupswitch.offset_cons, if_neg (Ne.symm k15_62)]; rw [Op.lookupswitch.offset_cons, if_neg (Ne.symm k15_91)]; rw [Op.lookupswitch.offset_cons, if_neg (Ne.symm k15_93)]; rw [Op.lookupswitch.offset_cons, if_neg (Ne.symm k15_123)]; rw [Op.lookupswitch.offset_cons, if_neg (Ne.symm k15_125)]; rfl) (by decide) ?_
  have hpl := plain_of hlv (by omega)
  obtain ⟨s1, s2, s3, s4⟩ := scanE_spec (f := sPlain) (t := t) (p := z) (by omega)
  have hzq : z < scanE sPlain t z := by
    rcases Int.lt_or_le z (scanE sPlain t z) with c | c
    · exact c
    · exfalso; rw [show scanE sPlain t z = z by omega] at s4; exact s4 ⟨by omega, hpl⟩
  refine zw_aload_n 2 rfl zd_MO_one_241 ?_
  refine zw_iload_n 3 rfl zd_MO_one_242 ?_
  refine zw_aload_n 2 rfl zd_MO_one_243 ?_
  refine zw_iload_n 3 rfl zd_MO_one_244 ?_
  refine zw_callV (As := [.int (zI (z))]) (rest := [.int (zI (z)), .ref h]) (L2 := []) (L' := [zMOd h (t) (ws) (ts) ([]) (op) (0) (r) (ct) (wh) (fd) (fr)]) (stk' := [.int (zI (scanE sPlain t z)), .int (zI (z)), .ref h]) (c_MO_behindRow h t ws ts ([]) op 0 r ct wh fd fr z (by omega) (by omega)) [0] [] rfl rfl rfl zcal_MO_behindRow zl_MO_171 zin_MO_behindRow zse_MO_behindRow 0 rfl zRv_MOd rfl (Nat.le_of_ble_eq_true rfl) (Nat.le_of_ble_eq_true rfl) (by omega) (by omega) rfl (Nat.le_of_ble_eq_true rfl) rfl rfl zd_MO_one_245 ?_
  have sd245 := scanE_spec (f := sPlain) (t := t) (p := z) (by omega)
  have se245 := scanE_ub (f := sPlain) (t := t) (p := z) (by omega)
  refine zw_callV (As := [.int (zI (z)), .int (zI (scanE sPlain t z))]) (rest := []) (L2 := []) (L' := [zMOy h (t) (u1.ws) (u1.ts) (u1.op) (u1.y) (u1.r)]) (stk' := [.int (zI (if u1.y = 0 then u1.p else -1))]) (c_MO_row h t ws ts op r ct wh fd fr z (scanE sPlain t z) (by omega) rfl hzq (by omega) (by omega) (by omega) u1 (by rw [← hu]; exact (oneS_row (u := (z, ws, ts, op, 0, r, [], 0)) (by show bget t z ≠ 40 ∧ bget t z ≠ 41 ∧ bget t z ≠ 60 ∧ bget t z ≠ 62 ∧ bget t z ≠ 91 ∧ bget t z ≠ 93 ∧ bget t z ≠ 123 ∧ bget t z ≠ 125 ∧ bget t z ≠ 47; omega)).symm)) [0] [] rfl rfl rfl zcal_MO_row zl_MO_174 zin_MO_row zse_MO_row 0 rfl zRv_MOd rfl (Nat.le_of_ble_eq_true rfl) (Nat.le_of_ble_eq_true rfl) (by omega) (by omega) rfl (Nat.le_of_ble_eq_true rfl) rfl rfl zd_MO_one_248 ?_
  exact zw_iret hR rfl rfl rfl (by omega) (by omega) zd_MO_one_251
