theorem satV_stuck {b : Int} (hb : 1 ≤ b ∧ b ≤ 36) : ∀ (m l : List Int), (∀ c ∈ m, 0 ≤ digV c) → satV b l = 4294967296 → satV b (l ++ m) = 4294967296
  | [], l, _, h => by rw [List.append_nil]; exact h
  | c :: m, l, hm, h => by
    have e : l ++ c :: m = (l ++ [c]) ++ m := by simp
    rw [e]
    refine satV_stuck hb m _ (fun x hx => hm x (List.mem_cons_of_mem _ hx)) ?_
    rw [satV_snoc, h]
    have h1 := hm c (List.mem_cons_self ..)
    have h2 : (4294967296 : Int) ≤ b * 4294967296 := by
      have := Int.mul_le_mul_of_nonneg_right hb.1 (show (0 : Int) ≤ 4294967296 by decide)
      omega
    omega
theorem slc_split {t : List Int} {a k b : Int} (h0 : 0 ≤ a) (h1 : a ≤ k) (h2 : k ≤ b) : slc t a b = slc t a k ++ slc t k b := by
  unfold slc
  rw [show (b - a).toNat = (k - a).toNat + (b - k).toNat by omega, List.take_add, List.drop_drop, show a.toNat + (k - a).toNat = k.toNat by omega]
theorem digV_dig {c : Int} (h : 48 ≤ c ∧ c ≤ 57) : digV c = c - 48 := by rw [digV, if_pos h]
def isB (t : List Int) (p q : Int) : Prop := bget t (scanE sDig t p) = 35 ∧ basedP t p (scanE sDig t p) (scanE sDig t p - p) q
def isRl (t : List Int) (db q : Int) : Prop := 0 < frD t (scanE sDig t db) (scanE sDig t db - db) ∧ ((frE t (scanE sDig t db) = q ∧ bget t (scanE sDig t db) = 46) ∨ expP t (frE t (scanE sDig t db)) q)
theorem rdN_rg (t : List Int) (p : Int) : (rdN t p = 1 ∧ bget t p = 45) ∨ (rdN t p = 0 ∧ bget t p ≠ 45) := by
  unfold rdN
  by_cases h : bget t p = 45
  · exact Or.inl ⟨by rw [decide_eq_true h]; rfl, h⟩
  · exact Or.inr ⟨by rw [decide_eq_false h]; rfl, h⟩
theorem base_rg {t : List Int} {z : Int} (h0 : 0 ≤ z) (h1 : z ≤ t.length) (h2 : scanE sDig t z ≤ z + 2) : 0 ≤ satV 10 (slc t z (scanE sDig t z)) ∧ satV 10 (slc t z (scanE sDig t z)) ≤ 99 := by
  obtain ⟨s1, s2, s3, s4⟩ := scanE_spec (f := sDig) (t := t) (p := z) h0
  have s5 := s2 h1
  have hd : ∀ c ∈ slc t z (scanE sDig t z), 0 ≤ digV c ∧ digV c ≤ 9 := by
    intro c hc
    obtain ⟨j, k1, k2, k3, rfl⟩ := slc_mem h0 hc
    have hb : 48 ≤ bget t j ∧ bget t j ≤ 57 := of_decide_eq_true (s3 j k1 k2).2
    rw [digV_dig hb]
    omega
  exact ⟨(satV_rg (by omega) _ (fun c hc => (hd c hc).1)).1, sat10_small h0 s1 s5 hd (by omega)⟩
set_option maxHeartbeats 4000000 in
set_option maxRecDepth 100000 in
theorem c_MO_whole_ok (h : Nat) (t : List Int) (ws : List (Int32 × Int32 × Int32)) (ts : List (List Int)) (op : List Int) (y r ct wh : Int) (fd fr : Nat → Int32) (z f q : Int) (hz : 0 ≤ z ∧ z ≤ t.length) (hf : 0 ≤ f ∧ f ≤ q ∧ q ≤ t.length) (hd : ∀ j, f ≤ j → j < q → 48 ≤ bget t j ∧ bget t j ≤ 57) (hw : ws.length < 16384) (hft : wholeF (rdN t z) (satV 10 (slc t f q)) = 1) : zCT zy_MO_wholeNumber zm_MO_wholeNumber (0) (0) [.ref h, .int (zI z), .int (zI f), .int (zI q)] [zMOd h (t) (ws) (ts) ([]) (op) (y) (r) (ct) (wh) (fd) (fr)] (some (.int (zI q))) [zMOd h (t) (ws ++ [(zI 1, zI (wholeV (rdN t z) (satV 10 (slc t f q))), zI z)]) (ts) ([]) (op) (y) (r) (ct) (wh) (fd) (fr)] := by
  refine zCT.of [(0, .ref h), (1, .int (zI (z))), (2, .int (zI (f))), (3, .int (zI (q)))] rfl (by decide) rfl (fun h => by first | rfl | cases h) (Nat.le_of_ble_eq_true rfl) (fun X hR => ?_)
  refine zw_fact 0 rfl (fun G w h => zMOd_fact h) (fun mf => ?_)
  obtain ⟨⟨ht1, hby⟩, hw1, ⟨hs1, hs2, hs3⟩, ho1⟩ := mf
  have rn := rdN_rg t z
  have hdv : ∀ c ∈ slc t f q, 0 ≤ digV c := by
    intro c hc
    obtain ⟨j, k1, k2, k3, rfl⟩ := slc_mem (by omega) hc
    have hb := hd j k1 k2
    rw [digV_dig hb]; omega
  have lp : ∀ (fuel : Nat) (v : Int) (k : Int), (((f ≤ k ∧ k ≤ q) ∧ (0 ≤ v ∧ v ≤ 1000000000000)) ∧ min 4294967296 v = satV 10 (slc t f k)) → (q - k).toNat < fuel → zZ X zm_MO_wholeNumber (0) (0) (0) (0) [zMOd h (t) (ws) (ts) ([]) (op) (y) (r) (ct) (wh) (fd) (fr)] 23 [(0, .ref h), (1, .int (zI (z))), (2, .int (zI (f))), (3, .int (zI (q))), (4, .int (zI (rdN t z))), (5, .long (zJ (v))), (7, .int (zI (k)))] [] := by
    intro fuel
    induction fuel with
    | zero => intro v k g0 hm; exact absurd hm (Nat.not_lt_zero _)
    | succ fuel ih =>
      intro v k g0 hm
      obtain ⟨⟨⟨g1, g2⟩, g3⟩, g4⟩ := g0
      refine zw_iload 6 rfl zd_MO_wholeNumber_23 ?_
      refine zw_iload_n 3 rfl zd_MO_wholeNumber_25 ?_
      refine zw_icmp_ge 64 (by omega) (by omega) zd_MO_wholeNumber_26 (by decide) (fun c26 => ?_) (fun c26 => ?_)
      · -- 26 -> 64
        obtain rfl : k = q := by omega
        refine zw_iload 4 rfl zd_MO_wholeNumber_64 ?_
        refine zw_if_eq 75 (by omega) zd_MO_wholeNumber_66 (by decide) (fun c66 => ?_) (fun c66 => ?_)
        · -- 66 -> 75
          refine zw_lload 5 rfl zd_MO_wholeNumber_75 ?_
          refine zw_lstore (lv' := [(5, .long (zJ (v))), (0, .ref h), (1, .int (zI (z))), (2, .int (zI (f))), (3, .int (zI (k))), (4, .int (zI (rdN t z))), (7, .int (zI (k)))]) (Nat.le_of_ble_eq_true rfl) rfl zd_MO_wholeNumber_77 ?_
          refine zw_lload 0 rfl zd_MO_wholeNumber_79 ?_
          refine zw_ldc2 zk_MO_120 2147483647 rfl zd_MO_wholeNumber_81 ?_
          refine zw_lcmpR zd_MO_wholeNumber_84 ?_
          refine zw_lif_gt 97 (by omega) (by omega) zd_MO_wholeNumber_85 (by decide) (fun c85 => ?_) (fun c85 => ?_)
          · -- 85 -> 97
            refine zw_aload_n 1 rfl zd_MO_wholeNumber_97 ?_
            refine zw_iconst zd_MO_wholeNumber_98 ?_
            refine zw_iload_n 2 rfl zd_MO_wholeNumber_99 ?_
            refine zw_callV (As := [.int (zI (5)), .int (zI (z))]) (rest := []) (L2 := []) (L' := [zMOd h (t) (ws) (ts) ([]) (op) (5) (z) (ct) (wh) (fd) (fr)]) (stk' := [.int (zI (-1))]) (c_MO_fail h t ws ts ([]) op y r ct wh fd fr 5 z) [0] [] rfl rfl rfl zcal_MO_fail zl_MO_80 zin_MO_fail zse_MO_fail 0 rfl zRv_MOd rfl (Nat.le_of_ble_eq_true rfl) (Nat.le_of_ble_eq_true rfl) (by omega) (by omega) rfl (Nat.le_of_ble_eq_true rfl) rfl rfl zd_MO_wholeNumber_100 ?_
            exfalso; unfold wholeF at hft; split at hft <;> omega
          · -- 85 -> 88
            refine zw_lload 0 rfl zd_MO_wholeNumber_88 ?_
            refine zw_ldc2 zk_MO_122 (-2147483648) rfl zd_MO_wholeNumber_90 ?_
            refine zw_lcmpR zd_MO_wholeNumber_93 ?_
            refine zw_lif_ge 104 (by omega) (by omega) zd_MO_wholeNumber_94 (by decide) (fun c94 => ?_) (fun c94 => ?_)
            · -- 94 -> 104
              refine zw_aload_n 1 rfl zd_MO_wholeNumber_104 ?_
              refine zw_iconst zd_MO_wholeNumber_105 ?_
              refine zw_lload 0 rfl zd_MO_wholeNumber_106 ?_
              refine zw_l2i zd_MO_wholeNumber_108 ?_
              refine zw_iload_n 2 rfl zd_MO_wholeNumber_109 ?_
              refine zw_callV (As := [.int (zI (1)), .int (zI (v)), .int (zI (z))]) (rest := []) (L2 := []) (L' := [zMOd h (t) (ws ++ [(zI 1, (zI (v)), (zI (z)))]) (ts) ([]) (op) (y) (r) (ct) (wh) (fd) (fr)]) (stk' := []) (c_MO_word h t ws ts ([]) op y r ct wh fd fr 1 (zI (v)) (zI (z)) (by omega) (by omega)) [0] [] rfl rfl rfl zcal_MO_word zl_MO_110 zin_MO_word zse_MO_word 0 rfl zRv_MOd rfl (Nat.le_of_ble_eq_true rfl) (Nat.le_of_ble_eq_true rfl) (by omega) (by omega) rfl (Nat.le_of_ble_eq_true rfl) rfl rfl zd_MO_wholeNumber_110 ?_
              refine zw_iload_n 4 rfl zd_MO_wholeNumber_113 ?_
              have e9 : v = wholeV (rdN t z) (satV 10 (slc t f k)) := by unfold wholeV; unfold wholeF at hft; split at hft; (split <;> omega); omega
              exact zw_iret hR rfl (by rw [← e9]) rfl (by omega) (by omega) zd_MO_wholeNumber_114
            · -- 94 -> 97
              refine zw_aload_n 1 rfl zd_MO_wholeNumber_97 ?_
              refine zw_iconst zd_MO_wholeNumber_98 ?_
              refine zw_iload_n 2 rfl zd_MO_wholeNumber_99 ?_
              refine zw_callV (As := [.int (zI (5)), .int (zI (z))]) (rest := []) (L2 := []) (L' := [zMOd h (t) (ws) (ts) ([]) (op) (5) (z) (ct) (wh) (fd) (fr)]) (stk' := [.int (zI (-1))]) (c_MO_fail h t ws ts ([]) op y r ct wh fd fr 5 z) [0] [] rfl rfl rfl zcal_MO_fail zl_MO_80 zin_MO_fail zse_MO_fail 0 rfl zRv_MOd rfl (Nat.le_of_ble_eq_true rfl) (Nat.le_of_ble_eq_true rfl) (by omega) (by omega) rfl (Nat.le_of_ble_eq_true rfl) rfl rfl zd_MO_wholeNumber_100 ?_
              exfalso; unfold wholeF at hft; split at hft <;> omega
        · -- 66 -> 69
          refine zw_lload 5 rfl zd_MO_wholeNumber_69 ?_
          refine zw_lneg zd_MO_wholeNumber_71 ?_
          refine zw_goto 77 zd_MO_wholeNumber_72 (by decide) ?_
          refine zw_lstore (lv' := [(5, .long (zJ (-v))), (0, .ref h), (1, .int (zI (z))), (2, .int (zI (f))), (3, .int (zI (k))), (4, .int (zI (rdN t z))), (7, .int (zI (k)))]) (Nat.le_of_ble_eq_true rfl) rfl zd_MO_wholeNumber_77 ?_
          refine zw_lload 0 rfl zd_MO_wholeNumber_79 ?_
          refine zw_ldc2 zk_MO_120 2147483647 rfl zd_MO_wholeNumber_81 ?_
          refine zw_lcmpR zd_MO_wholeNumber_84 ?_
          refine zw_lif_gt 97 (by omega) (by omega) zd_MO_wholeNumber_85 (by decide) (fun c85 => ?_) (fun c85 => ?_)
          · -- 85 -> 97
            refine zw_aload_n 1 rfl zd_MO_wholeNumber_97 ?_
            refine zw_iconst zd_MO_wholeNumber_98 ?_
            refine zw_iload_n 2 rfl zd_MO_wholeNumber_99 ?_
            refine zw_callV (As := [.int (zI (5)), .int (zI (z))]) (rest := []) (L2 := []) (L' := [zMOd h (t) (ws) (ts) ([]) (op) (5) (z) (ct) (wh) (fd) (fr)]) (stk' := [.int (zI (-1))]) (c_MO_fail h t ws ts ([]) op y r ct wh fd fr 5 z) [0] [] rfl rfl rfl zcal_MO_fail zl_MO_80 zin_MO_fail zse_MO_fail 0 rfl zRv_MOd rfl (Nat.le_of_ble_eq_true rfl) (Nat.le_of_ble_eq_true rfl) (by omega) (by omega) rfl (Nat.le_of_ble_eq_true rfl) rfl rfl zd_MO_wholeNumber_100 ?_
            exfalso; unfold wholeF at hft; split at hft <;> omega
          · -- 85 -> 88
            refine zw_lload 0 rfl zd_MO_wholeNumber_88 ?_
            refine zw_ldc2 zk_MO_122 (-2147483648) rfl zd_MO_wholeNumber_90 ?_
            refine zw_lcmpR zd_MO_wholeNumber_93 ?_
            refine zw_lif_ge 104 (by omega) (by omega) zd_MO_wholeNumber_94 (by decide) (fun c94 => ?_) (fun c94 => ?_)
            · -- 94 -> 104
              refine zw_aload_n 1 rfl zd_MO_wholeNumber_104 ?_
              refine zw_iconst zd_MO_wholeNumber_105 ?_
              refine zw_lload 0 rfl zd_MO_wholeNumber_106 ?_
              refine zw_l2i zd_MO_wholeNumber_108 ?_
              refine zw_iload_n 2 rfl zd_MO_wholeNumber_109 ?_
              refine zw_callV (As := [.int (zI (1)), .int (zI (-v)), .int (zI (z))]) (rest := []) (L2 := []) (L' := [zMOd h (t) (ws ++ [(zI 1, (zI (-v)), (zI (z)))]) (ts) ([]) (op) (y) (r) (ct) (wh) (fd) (fr)]) (stk' := []) (c_MO_word h t ws ts ([]) op y r ct wh fd fr 1 (zI (-v)) (zI (z)) (by omega) (by omega)) [0] [] rfl rfl rfl zcal_MO_word zl_MO_110 zin_MO_word zse_MO_word 0 rfl zRv_MOd rfl (Nat.le_of_ble_eq_true rfl) (Nat.le_of_ble_eq_true rfl) (by omega) (by omega) rfl (Nat.le_of_ble_eq_true rfl) rfl rfl zd_MO_wholeNumber_110 ?_
              refine zw_iload_n 4 rfl zd_MO_wholeNumber_113 ?_
              have e9 : -v = wholeV (rdN t z) (satV 10 (slc t f k)) := by unfold wholeV; unfold wholeF at hft; split at hft; (split <;> omega); omega
              exact zw_iret hR rfl (by rw [← e9]) rfl (by omega) (by omega) zd_MO_wholeNumber_114
            · -- 94 -> 97
              refine zw_aload_n 1 rfl zd_MO_wholeNumber_97 ?_
              refine zw_iconst zd_MO_wholeNumber_98 ?_
              refine zw_iload_n 2 rfl zd_MO_wholeNumber_99 ?_
              refine zw_callV (As := [.int (zI (5)), .int (zI (z))]) (rest := []) (L2 := []) (L' := [zMOd h (t) (ws) (ts) ([]) (op) (5) (z) (ct) (wh) (fd) (fr)]) (stk' := [.int (zI (-1))]) (c_MO_fail h t ws ts ([]) op y r ct wh fd fr 5 z) [0] [] rfl rfl rfl zcal_MO_fail zl_MO_80 zin_MO_fail zse_MO_fail 0 rfl zRv_MOd rfl (Nat.le_of_ble_eq_true rfl) (Nat.le_of_ble_eq_true rfl) (by omega) (by omega) rfl (Nat.le_of_ble_eq_true rfl) rfl rfl zd_MO_wholeNumber_100 ?_
              exfalso; unfold wholeF at hft; split at hft <;> omega
      · -- 26 -> 29
        refine zw_lload 5 rfl zd_MO_wholeNumber_29 ?_
        refine zw_ldc2 zk_MO_114 100000000000 rfl zd_MO_wholeNumber_31 ?_
        refine zw_lcmpR zd_MO_wholeNumber_34 ?_
        refine zw_lif_ge 58 (by omega) (by omega) zd_MO_wholeNumber_35 (by decide) (fun c35 => ?_) (fun c35 => ?_)
        · -- 35 -> 58
          refine zw_iinc (lv' := [(7, .int (zI (k + 1))), (0, .ref h), (1, .int (zI (z))), (2, .int (zI (f))), (3, .int (zI (q))), (4, .int (zI (rdN t z))), (5, .long (zJ (v)))]) 6 rfl (Nat.le_of_ble_eq_true rfl) rfl zd_MO_wholeNumber_58 ?_
          refine zw_goto 23 zd_MO_wholeNumber_61 (by decide) ?_
          refine zw_lpick (lv' := [(0, .ref h), (1, .int (zI (z))), (2, .int (zI (f))), (3, .int (zI (q))), (4, .int (zI (rdN t z))), (5, .long (zJ (v))), (7, .int (zI (k + 1)))]) [1, 2, 3, 4, 5, 6, 0] rfl ?_
          refine zw_widen (k' := 0) (n' := 0) (by omega) (by omega) ?_
          have hbk := hd k (by omega) (by omega)
          have es := satV_snoc 10 (slc t f k) (bget t k)
          rw [← slc_snoc (by omega) (by omega) (by omega), digV_dig hbk] at es
          exact ih (v) (k + 1) ⟨by omega, by omega⟩ (by omega)
        · -- 35 -> 38
          have hbk0 := hd k (by omega) (by omega)
          refine zw_ldc2 zk_MO_116 10 rfl zd_MO_wholeNumber_38 ?_
          refine zw_lload 5 rfl zd_MO_wholeNumber_41 ?_
          refine zw_lmul zd_MO_wholeNumber_43 ?_
          refine zw_aload_n 0 rfl zd_MO_wholeNumber_44 ?_
          refine zw_iload 6 rfl zd_MO_wholeNumber_45 ?_
          refine zw_callV (As := [.int (zI (k))]) (rest := [.long (zJ (10 * v))]) (L2 := []) (L' := [zMOd h (t) (ws) (ts) ([]) (op) (y) (r) (ct) (wh) (fd) (fr)]) (stk' := [.int (zI (bget t k)), .long (zJ (10 * v))]) (c_MO_byteAt h t ws ts ([]) op y r ct wh fd fr k (by omega)) [0] [] rfl rfl rfl zcal_MO_byteAt zl_MO_51 zin_MO_byteAt zse_MO_byteAt 0 rfl zRv_MOd rfl (Nat.le_of_ble_eq_true rfl) (Nat.le_of_ble_eq_true rfl) (by omega) (by omega) rfl (Nat.le_of_ble_eq_true rfl) rfl rfl zd_MO_wholeNumber_47 ?_
          have rg47 := bget_rg hby k
          refine zw_i2l (by omega) zd_MO_wholeNumber_50 ?_
          refine zw_ladd zd_MO_wholeNumber_51 ?_
          refine zw_ldc2 zk_MO_118 48 rfl zd_MO_wholeNumber_52 ?_
          refine zw_lsub zd_MO_wholeNumber_55 ?_
          refine zw_lstore (lv' := [(5, .long (zJ (((10 * v) + (bget t k)) - 48))), (0, .ref h), (1, .int (zI (z))), (2, .int (zI (f))), (3, .int (zI (q))), (4, .int (zI (rdN t z))), (7, .int (zI (k)))]) (Nat.le_of_ble_eq_true rfl) rfl zd_MO_wholeNumber_56 ?_
          refine zw_iinc (lv' := [(7, .int (zI (k + 1))), (5, .long (zJ (((10 * v) + (bget t k)) - 48))), (0, .ref h), (1, .int (zI (z))), (2, .int (zI (f))), (3, .int (zI (q))), (4, .int (zI (rdN t z)))]) 6 rfl (Nat.le_of_ble_eq_true rfl) rfl zd_MO_wholeNumber_58 ?_
          refine zw_goto 23 zd_MO_wholeNumber_61 (by decide) ?_
          refine zw_lpick (lv' := [(0, .ref h), (1, .int (zI (z))), (2, .int (zI (f))), (3, .int (zI (q))), (4, .int (zI (rdN t z))), (5, .long (zJ (((10 * v) + (bget t k)) - 48))), (7, .int (zI (k + 1)))]) [2, 3, 4, 5, 6, 1, 0] rfl ?_
          refine zw_widen (k' := 0) (n' := 0) (by omega) (by omega) ?_
          have hbk := hd k (by omega) (by omega)
          have es := satV_snoc 10 (slc t f k) (bget t k)
          rw [← slc_snoc (by omega) (by omega) (by omega), digV_dig hbk] at es
          exact ih (((10 * v) + (bget t k)) - 48) (k + 1) ⟨by omega, by omega⟩ (by omega)
  refine zw_aload_n 0 rfl zd_MO_wholeNumber_0 ?_
  refine zw_iload_n 1 rfl zd_MO_wholeNumber_1 ?_
  refine zw_callV (As := [.int (zI (z))]) (rest := []) (L2 := []) (L' := [zMOd h (t) (ws) (ts) ([]) (op) (y) (r) (ct) (wh) (fd) (fr)]) (stk' := [.int (zI (bget t z))]) (c_MO_byteAt h t ws ts ([]) op y r ct wh fd fr z (by omega)) [0] [] rfl rfl rfl zcal_MO_byteAt zl_MO_51 zin_MO_byteAt zse_MO_byteAt 0 rfl zRv_MOd rfl (Nat.le_of_ble_eq_true rfl) (Nat.le_of_ble_eq_true rfl) (by omega) (by omega) rfl (Nat.le_of_ble_eq_true rfl) rfl rfl zd_MO_wholeNumber_2 ?_
  have rg2 := bget_rg hby z
  refine zw_bipush rfl zd_MO_wholeNumber_5 ?_
  refine zw_icmp_ne 14 (by omega) (by omega) zd_MO_wholeNumber_7 (by decide) (fun c7 => ?_) (fun c7 => ?_)
  · -- 7 -> 14
    refine zw_iconst zd_MO_wholeNumber_14 ?_
    refine zw_istore (lv' := [(4, .int (zI (0))), (0, .ref h), (1, .int (zI (z))), (2, .int (zI (f))), (3, .int (zI (q)))]) (Nat.le_of_ble_eq_true rfl) rfl zd_MO_wholeNumber_15 ?_
    refine zw_lconst (a := 0) rfl zd_MO_wholeNumber_17 ?_
    refine zw_lstore (lv' := [(5, .long (zJ (0))), (4, .int (zI (0))), (0, .ref h), (1, .int (zI (z))), (2, .int (zI (f))), (3, .int (zI (q)))]) (Nat.le_of_ble_eq_true rfl) rfl zd_MO_wholeNumber_18 ?_
    refine zw_iload_n 4 rfl zd_MO_wholeNumber_20 ?_
    refine zw_istore (lv' := [(7, .int (zI (f))), (5, .long (zJ (0))), (4, .int (zI (0))), (0, .ref h), (1, .int (zI (z))), (2, .int (zI (f))), (3, .int (zI (q)))]) (Nat.le_of_ble_eq_true rfl) rfl zd_MO_wholeNumber_21 ?_
    refine zw_eqv (lv' := [(7, .int (zI (f))), (5, .long (zJ (0))), (4, .int (zI (rdN t z))), (0, .ref h), (1, .int (zI (z))), (2, .int (zI (f))), (3, .int (zI (q)))]) (by rw [show rdN t z = 0 by omega]) ?_
    refine zw_lpick (lv' := [(0, .ref h), (1, .int (zI (z))), (2, .int (zI (f))), (3, .int (zI (q))), (4, .int (zI (rdN t z))), (5, .long (zJ (0))), (7, .int (zI (f)))]) [3, 4, 5, 6, 2, 1, 0] rfl ?_
    refine zw_widen (k' := 0) (n' := 0) (by omega) (by omega) ?_
    exact lp _ 0 f ⟨by omega, by rw [slc_nil]; rfl⟩ (Nat.lt_succ_self _)
  · -- 7 -> 10
    refine zw_iconst zd_MO_wholeNumber_10 ?_
    refine zw_goto 15 zd_MO_wholeNumber_11 (by decide) ?_
    refine zw_istore (lv' := [(4, .int (zI (1))), (0, .ref h), (1, .int (zI (z))), (2, .int (zI (f))), (3, .int (zI (q)))]) (Nat.le_of_ble_eq_true rfl) rfl zd_MO_wholeNumber_15 ?_
    refine zw_lconst (a := 0) rfl zd_MO_wholeNumber_17 ?_
    refine zw_lstore (lv' := [(5, .long (zJ (0))), (4, .int (zI (1))), (0, .ref h), (1, .int (zI (z))), (2, .int (zI (f))), (3, .int (zI (q)))]) (Nat.le_of_ble_eq_true rfl) rfl zd_MO_wholeNumber_18 ?_
    refine zw_iload_n 4 rfl zd_MO_wholeNumber_20 ?_
    refine zw_istore (lv' := [(7, .int (zI (f))), (5, .long (zJ (0))), (4, .int (zI (1))), (0, .ref h), (1, .int (zI (z))), (2, .int (zI (f))), (3, .int (zI (q)))]) (Nat.le_of_ble_eq_true rfl) rfl zd_MO_wholeNumber_21 ?_
    refine zw_eqv (lv' := [(7, .int (zI (f))), (5, .long (zJ (0))), (4, .int (zI (rdN t z))), (0, .ref h), (1, .int (zI (z))), (2, .int (zI (f))), (3, .int (zI (q)))]) (by rw [show rdN t z = 1 by omega]) ?_
    refine zw_lpick (lv' := [(0, .ref h), (1, .int (zI (z))), (2, .int (zI (f))), (3, .int (zI (q))), (4, .int (zI (rdN t z))), (5, .long (zJ (0))), (7, .int (zI (f)))]) [3, 4, 5, 6, 2, 1, 0] rfl ?_
    refine zw_widen (k' := 0) (n' := 0) (by omega) (by omega) ?_
    exact lp _ 0 f ⟨by omega, by rw [slc_nil]; rfl⟩ (Nat.lt_succ_self _)
set_option maxHeartbeats 4000000 in
set_option maxRecDepth 100000 in
theorem c_MO_whole_bad (h : Nat) (t : List Int) (ws : List (Int32 × Int32 × Int32)) (ts : List (List Int)) (op : List Int) (y r ct wh : Int) (fd fr : Nat → Int32) (z f q : Int) (hz : 0 ≤ z ∧ z ≤ t.length) (hf : 0 ≤ f ∧ f ≤ q ∧ q ≤ t.length) (hd : ∀ j, f ≤ j → j < q → 48 ≤ bget t j ∧ bget t j ≤ 57) (hw : ws.length < 16384) (hft : wholeF (rdN t z) (satV 10 (slc t f q)) = 0) : zCT zy_MO_wholeNumber zm_MO_wholeNumber (0) (0) [.ref h, .int (zI z), .int (zI f), .int (zI q)] [zMOd h (t) (ws) (ts) ([]) (op) (y) (r) (ct) (wh) (fd) (fr)] (some (.int (zI (-1)))) [zMOd h (t) (ws) (ts) ([]) (op) (5) (z) (ct) (wh) (fd) (fr)] := by
  refine zCT.of [(0, .ref h), (1, .int (zI (z))), (2, .int (zI (f))), (3, .int (zI (q)))] rfl (by decide) rfl (fun h => by first | rfl | cases h) (Nat.le_of_ble_eq_true rfl) (fun X hR => ?_)
  refine zw_fact 0 rfl (fun G w h => zMOd_fact h) (fun mf => ?_)
  obtain ⟨⟨ht1, hby⟩, hw1, ⟨hs1, hs2, hs3⟩, ho1⟩ := mf
  have rn := rdN_rg t z
  have hdv : ∀ c ∈ slc t f q, 0 ≤ digV c := by
    intro c hc
    obtain ⟨j, k1, k2, k3, rfl⟩ := slc_mem (by omega) hc
    have hb := hd j k1 k2
    rw [digV_dig hb]; omega
  have lp : ∀ (fuel : Nat) (v : Int) (k : Int), (((f ≤ k ∧ k ≤ q) ∧ (0 ≤ v ∧ v ≤ 1000000000000)) ∧ min 4294967296 v = satV 10 (slc t f k)) → (q - k).toNat < fuel → zZ X zm_MO_wholeNumber (0) (0) (0) (0) [zMOd h (t) (ws) (ts) ([]) (op) (y) (r) (ct) (wh) (fd) (fr)] 23 [(0, .ref h), (1, .int (zI (z))), (2, .int (zI (f))), (3, .int (zI (q))), (4, .int (zI (rdN t z))), (5, .long (zJ (v))), (7, .int (zI (k)))] [] := by
    intro fuel
    induction fuel with
    | zero => intro v k g0 hm; exact absurd hm (Nat.not_lt_zero _)
    | succ fuel ih =>
      intro v k g0 hm
      obtain ⟨⟨⟨g1, g2⟩, g3⟩, g4⟩ := g0
      refine zw_iload 6 rfl zd_MO_wholeNumber_23 ?_
      refine zw_iload_n 3 rfl zd_MO_wholeNumber_25 ?_
      refine zw_icmp_ge 64 (by omega) (by omega) zd_MO_wholeNumber_26 (by decide) (fun c26 => ?_) (fun c26 => ?_)
      · -- 26 -> 64
        obtain rfl : k = q := by omega
        refine zw_iload 4 rfl zd_MO_wholeNumber_64 ?_
        refine zw_if_eq 75 (by omega) zd_MO_wholeNumber_66 (by decide) (fun c66 => ?_) (fun c66 => ?_)
        · -- 66 -> 75
          refine zw_lload 5 rfl zd_MO_wholeNumber_75 ?_
          refine zw_lstore (lv' := [(5, .long (zJ (v))), (0, .ref h), (1, .int (zI (z))), (2, .int (zI (f))), (3, .int (zI (k))), (4, .int (zI (rdN t z))), (7, .int (zI (k)))]) (Nat.le_of_ble_eq_true rfl) rfl zd_MO_wholeNumber_77 ?_
          refine zw_lload 0 rfl zd_MO_wholeNumber_79 ?_
          refine zw_ldc2 zk_MO_120 2147483647 rfl zd_MO_wholeNumber_81 ?_
          refine zw_lcmpR zd_MO_wholeNumber_84 ?_
          refine zw_lif_gt 97 (by omega) (by omega) zd_MO_wholeNumber_85 (by decide) (fun c85 => ?_) (fun c85 => ?_)
          · -- 85 -> 97
            refine zw_aload_n 1 rfl zd_MO_wholeNumber_97 ?_
            refine zw_iconst zd_MO_wholeNumber_98 ?_
            refine zw_iload_n 2 rfl zd_MO_wholeNumber_99 ?_
            refine zw_callV (As := [.int (zI (5)), .int (zI (z))]) (rest := []) (L2 := []) (L' := [zMOd h (t) (ws) (ts) ([]) (op) (5) (z) (ct) (wh) (fd) (fr)]) (stk' := [.int (zI (-1))]) (c_MO_fail h t ws ts ([]) op y r ct wh fd fr 5 z) [0] [] rfl rfl rfl zcal_MO_fail zl_MO_80 zin_MO_fail zse_MO_fail 0 rfl zRv_MOd rfl (Nat.le_of_ble_eq_true rfl) (Nat.le_of_ble_eq_true rfl) (by omega) (by omega) rfl (Nat.le_of_ble_eq_true rfl) rfl rfl zd_MO_wholeNumber_100 ?_
            first | (exfalso; unfold wholeF at hft; split at hft <;> omega) | exact zw_iret hR rfl rfl rfl (by omega) (by omega) zd_MO_wholeNumber_103
          · -- 85 -> 88
            refine zw_lload 0 rfl zd_MO_wholeNumber_88 ?_
            refine zw_ldc2 zk_MO_122 (-2147483648) rfl zd_MO_wholeNumber_90 ?_
            refine zw_lcmpR zd_MO_wholeNumber_93 ?_
            refine zw_lif_ge 104 (by omega) (by omega) zd_MO_wholeNumber_94 (by decide) (fun c94 => ?_) (fun c94 => ?_)
            · -- 94 -> 104
              refine zw_aload_n 1 rfl zd_MO_wholeNumber_104 ?_
              refine zw_iconst zd_MO_wholeNumber_105 ?_
              refine zw_lload 0 rfl zd_MO_wholeNumber_106 ?_
              refine zw_l2i zd_MO_wholeNumber_108 ?_
              refine zw_iload_n 2 rfl zd_MO_wholeNumber_109 ?_
              refine zw_callV (As := [.int (zI (1)), .int (zI (v)), .int (zI (z))]) (rest := []) (L2 := []) (L' := [zMOd h (t) (ws ++ [(zI 1, (zI (v)), (zI (z)))]) (ts) ([]) (op) (y) (r) (ct) (wh) (fd) (fr)]) (stk' := []) (c_MO_word h t ws ts ([]) op y r ct wh fd fr 1 (zI (v)) (zI (z)) (by omega) (by omega)) [0] [] rfl rfl rfl zcal_MO_word zl_MO_110 zin_MO_word zse_MO_word 0 rfl zRv_MOd rfl (Nat.le_of_ble_eq_true rfl) (Nat.le_of_ble_eq_true rfl) (by omega) (by omega) rfl (Nat.le_of_ble_eq_true rfl) rfl rfl zd_MO_wholeNumber_110 ?_
              refine zw_iload_n 4 rfl zd_MO_wholeNumber_113 ?_
              exfalso; unfold wholeF at hft; split at hft <;> omega
            · -- 94 -> 97
              refine zw_aload_n 1 rfl zd_MO_wholeNumber_97 ?_
              refine zw_iconst zd_MO_wholeNumber_98 ?_
              refine zw_iload_n 2 rfl zd_MO_wholeNumber_99 ?_
              refine zw_callV (As := [.int (zI (5)), .int (zI (z))]) (rest := []) (L2 := []) (L' := [zMOd h (t) (ws) (ts) ([]) (op) (5) (z) (ct) (wh) (fd) (fr)]) (stk' := [.int (zI (-1))]) (c_MO_fail h t ws ts ([]) op y r ct wh fd fr 5 z) [0] [] rfl rfl rfl zcal_MO_fail zl_MO_80 zin_MO_fail zse_MO_fail 0 rfl zRv_MOd rfl (Nat.le_of_ble_eq_true rfl) (Nat.le_of_ble_eq_true rfl) (by omega) (by omega) rfl (Nat.le_of_ble_eq_true rfl) rfl rfl zd_MO_wholeNumber_100 ?_
              first | (exfalso; unfold wholeF at hft; split at hft <;> omega) | exact zw_iret hR rfl rfl rfl (by omega) (by omega) zd_MO_wholeNumber_103
        · -- 66 -> 69
          refine zw_lload 5 rfl zd_MO_wholeNumber_69 ?_
          refine zw_lneg zd_MO_wholeNumber_71 ?_
          refine zw_goto 77 zd_MO_wholeNumber_72 (by decide) ?_
          refine zw_lstore (lv' := [(5, .long (zJ (-v))), (0, .ref h), (1, .int (zI (z))), (2, .int (zI (f))), (3, .int (zI (k))), (4, .int (zI (rdN t z))), (7, .int (zI (k)))]) (Nat.le_of_ble_eq_true rfl) rfl zd_MO_wholeNumber_77 ?_
          refine zw_lload 0 rfl zd_MO_wholeNumber_79 ?_
          refine zw_ldc2 zk_MO_120 2147483647 rfl zd_MO_wholeNumber_81 ?_
          refine zw_lcmpR zd_MO_wholeNumber_84 ?_
          refine zw_lif_gt 97 (by omega) (by omega) zd_MO_wholeNumber_85 (by decide) (fun c85 => ?_) (fun c85 => ?_)
          · -- 85 -> 97
            refine zw_aload_n 1 rfl zd_MO_wholeNumber_97 ?_
            refine zw_iconst zd_MO_wholeNumber_98 ?_
            refine zw_iload_n 2 rfl zd_MO_wholeNumber_99 ?_
            refine zw_callV (As := [.int (zI (5)), .int (zI (z))]) (rest := []) (L2 := []) (L' := [zMOd h (t) (ws) (ts) ([]) (op) (5) (z) (ct) (wh) (fd) (fr)]) (stk' := [.int (zI (-1))]) (c_MO_fail h t ws ts ([]) op y r ct wh fd fr 5 z) [0] [] rfl rfl rfl zcal_MO_fail zl_MO_80 zin_MO_fail zse_MO_fail 0 rfl zRv_MOd rfl (Nat.le_of_ble_eq_true rfl) (Nat.le_of_ble_eq_true rfl) (by omega) (by omega) rfl (Nat.le_of_ble_eq_true rfl) rfl rfl zd_MO_wholeNumber_100 ?_
            first | (exfalso; unfold wholeF at hft; split at hft <;> omega) | exact zw_iret hR rfl rfl rfl (by omega) (by omega) zd_MO_wholeNumber_103
          · -- 85 -> 88
            refine zw_lload 0 rfl zd_MO_wholeNumber_88 ?_
            refine zw_ldc2 zk_MO_122 (-2147483648) rfl zd_MO_wholeNumber_90 ?_
            refine zw_lcmpR zd_MO_wholeNumber_93 ?_
            refine zw_lif_ge 104 (by omega) (by omega) zd_MO_wholeNumber_94 (by decide) (fun c94 => ?_) (fun c94 => ?_)
            · -- 94 -> 104
              refine zw_aload_n 1 rfl zd_MO_wholeNumber_104 ?_
              refine zw_iconst zd_MO_wholeNumber_105 ?_
              refine zw_lload 0 rfl zd_MO_wholeNumber_106 ?_
              refine zw_l2i zd_MO_wholeNumber_108 ?_
              refine zw_iload_n 2 rfl zd_MO_wholeNumber_109 ?_
              refine zw_callV (As := [.int (zI (1)), .int (zI (-v)), .int (zI (z))]) (rest := []) (L2 := []) (L' := [zMOd h (t) (ws ++ [(zI 1, (zI (-v)), (zI (z)))]) (ts) ([]) (op) (y) (r) (ct) (wh) (fd) (fr)]) (stk' := []) (c_MO_word h t ws ts ([]) op y r ct wh fd fr 1 (zI (-v)) (zI (z)) (by omega) (by omega)) [0] [] rfl rfl rfl zcal_MO_word zl_MO_110 zin_MO_word zse_MO_word 0 rfl zRv_MOd rfl (Nat.le_of_ble_eq_true rfl) (Nat.le_of_ble_eq_true rfl) (by omega) (by omega) rfl (Nat.le_of_ble_eq_true rfl) rfl rfl zd_MO_wholeNumber_110 ?_
              refine zw_iload_n 4 rfl zd_MO_wholeNumber_113 ?_
              exfalso; unfold wholeF at hft; split at hft <;> omega
            · -- 94 -> 97
              refine zw_aload_n 1 rfl zd_MO_wholeNumber_97 ?_
              refine zw_iconst zd_MO_wholeNumber_98 ?_
              refine zw_iload_n 2 rfl zd_MO_wholeNumber_99 ?_
              refine zw_callV (As := [.int (zI (5)), .int (zI (z))]) (rest := []) (L2 := []) (L' := [zMOd h (t) (ws) (ts) ([]) (op) (5) (z) (ct) (wh) (fd) (fr)]) (stk' := [.int (zI (-1))]) (c_MO_fail h t ws ts ([]) op y r ct wh fd fr 5 z) [0] [] rfl rfl rfl zcal_MO_fail zl_MO_80 zin_MO_fail zse_MO_fail 0 rfl zRv_MOd rfl (Nat.le_of_ble_eq_true rfl) (Nat.le_of_ble_eq_true rfl) (by omega) (by omega) rfl (Nat.le_of_ble_eq_true rfl) rfl rfl zd_MO_wholeNumber_100 ?_
              first | (exfalso; unfold wholeF at hft; split at hft <;> omega) | exact zw_iret hR rfl rfl rfl (by omega) (by omega) zd_MO_wholeNumber_103
      · -- 26 -> 29
        refine zw_lload 5 rfl zd_MO_wholeNumber_29 ?_
        refine zw_ldc2 zk_MO_114 100000000000 rfl zd_MO_wholeNumber_31 ?_
        refine zw_lcmpR zd_MO_wholeNumber_34 ?_
        refine zw_lif_ge 58 (by omega) (by omega) zd_MO_wholeNumber_35 (by decide) (fun c35 => ?_) (fun c35 => ?_)
        · -- 35 -> 58
          refine zw_iinc (lv' := [(7, .int (zI (k + 1))), (0, .ref h), (1, .int (zI (z))), (2, .int (zI (f))), (3, .int (zI (q))), (4, .int (zI (rdN t z))), (5, .long (zJ (v)))]) 6 rfl (Nat.le_of_ble_eq_true rfl) rfl zd_MO_wholeNumber_58 ?_
          refine zw_goto 23 zd_MO_wholeNumber_61 (by decide) ?_
          refine zw_lpick (lv' := [(0, .ref h), (1, .int (zI (z))), (2, .int (zI (f))), (3, .int (zI (q))), (4, .int (zI (rdN t z))), (5, .long (zJ (v))), (7, .int (zI (k + 1)))]) [1, 2, 3, 4, 5, 6, 0] rfl ?_
          refine zw_widen (k' := 0) (n' := 0) (by omega) (by omega) ?_
          have hbk := hd k (by omega) (by omega)
          have es := satV_snoc 10 (slc t f k) (bget t k)
          rw [← slc_snoc (by omega) (by omega) (by omega), digV_dig hbk] at es
          exact ih (v) (k + 1) ⟨by omega, by omega⟩ (by omega)
        · -- 35 -> 38
          have hbk0 := hd k (by omega) (by omega)
          refine zw_ldc2 zk_MO_116 10 rfl zd_MO_wholeNumber_38 ?_
          refine zw_lload 5 rfl zd_MO_wholeNumber_41 ?_
          refine zw_lmul zd_MO_wholeNumber_43 ?_
          refine zw_aload_n 0 rfl zd_MO_wholeNumber_44 ?_
          refine zw_iload 6 rfl zd_MO_wholeNumber_45 ?_
          refine zw_callV (As := [.int (zI (k))]) (rest := [.long (zJ (10 * v))]) (L2 := []) (L' := [zMOd h (t) (ws) (ts) ([]) (op) (y) (r) (ct) (wh) (fd) (fr)]) (stk' := [.int (zI (bget t k)), .long (zJ (10 * v))]) (c_MO_byteAt h t ws ts ([]) op y r ct wh fd fr k (by omega)) [0] [] rfl rfl rfl zcal_MO_byteAt zl_MO_51 zin_MO_byteAt zse_MO_byteAt 0 rfl zRv_MOd rfl (Nat.le_of_ble_eq_true rfl) (Nat.le_of_ble_eq_true rfl) (by omega) (by omega) rfl (Nat.le_of_ble_eq_true rfl) rfl rfl zd_MO_wholeNumber_47 ?_
          have rg47 := bget_rg hby k
          refine zw_i2l (by omega) zd_MO_wholeNumber_50 ?_
          refine zw_ladd zd_MO_wholeNumber_51 ?_
          refine zw_ldc2 zk_MO_118 48 rfl zd_MO_wholeNumber_52 ?_
          refine zw_lsub zd_MO_wholeNumber_55 ?_
          refine zw_lstore (lv' := [(5, .long (zJ (((10 * v) + (bget t k)) - 48))), (0, .ref h), (1, .int (zI (z))), (2, .int (zI (f))), (3, .int (zI (q))), (4, .int (zI (rdN t z))), (7, .int (zI (k)))]) (Nat.le_of_ble_eq_true rfl) rfl zd_MO_wholeNumber_56 ?_
          refine zw_iinc (lv' := [(7, .int (zI (k + 1))), (5, .long (zJ (((10 * v) + (bget t k)) - 48))), (0, .ref h), (1, .int (zI (z))), (2, .int (zI (f))), (3, .int (zI (q))), (4, .int (zI (rdN t z)))]) 6 rfl (Nat.le_of_ble_eq_true rfl) rfl zd_MO_wholeNumber_58 ?_
          refine zw_goto 23 zd_MO_wholeNumber_61 (by decide) ?_
          refine zw_lpick (lv' := [(0, .ref h), (1, .int (zI (z))), (2, .int (zI (f))), (3, .int (zI (q))), (4, .int (zI (rdN t z))), (5, .long (zJ (((10 * v) + (bget t k)) - 48))), (7, .int (zI (k + 1)))]) [2, 3, 4, 5, 6, 1, 0] rfl ?_
          refine zw_widen (k' := 0) (n' := 0) (by omega) (by omega) ?_
          have hbk := hd k (by omega) (by omega)
          have es := satV_snoc 10 (slc t f k) (bget t k)
          rw [← slc_snoc (by omega) (by omega) (by omega), digV_dig hbk] at es
          exact ih (((10 * v) + (bget t k)) - 48) (k + 1) ⟨by omega, by omega⟩ (by omega)
  refine zw_aload_n 0 rfl zd_MO_wholeNumber_0 ?_
  refine zw_iload_n 1 rfl zd_MO_wholeNumber_1 ?_
  refine zw_callV (As := [.int (zI (z))]) (rest := []) (L2 := []) (L' := [zMOd h (t) (ws) (ts) ([]) (op) (y) (r) (ct) (wh) (fd) (fr)]) (stk' := [.int (zI (bget t z))]) (c_MO_byteAt h t ws ts ([]) op y r ct wh fd fr z (by omega)) [0] [] rfl rfl rfl zcal_MO_byteAt zl_MO_51 zin_MO_byteAt zse_MO_byteAt 0 rfl zRv_MOd rfl (Nat.le_of_ble_eq_true rfl) (Nat.le_of_ble_eq_true rfl) (by omega) (by omega) rfl (Nat.le_of_ble_eq_true rfl) rfl rfl zd_MO_wholeNumber_2 ?_
  have rg2 := bget_rg hby z
  refine zw_bipush rfl zd_MO_wholeNumber_5 ?_
  refine zw_icmp_ne 14 (by omega) (by omega) zd_MO_wholeNumber_7 (by decide) (fun c7 => ?_) (fun c7 => ?_)
  · -- 7 -> 14
    refine zw_iconst zd_MO_wholeNumber_14 ?_
    refine zw_istore (lv' := [(4, .int (zI (0))), (0, .ref h), (1, .int (zI (z))), (2, .int (zI (f))), (3, .int (zI (q)))]) (Nat.le_of_ble_eq_true rfl) rfl zd_MO_wholeNumber_15 ?_
    refine zw_lconst (a := 0) rfl zd_MO_wholeNumber_17 ?_
    refine zw_lstore (lv' := [(5, .long (zJ (0))), (4, .int (zI (0))), (0, .ref h), (1, .int (zI (z))), (2, .int (zI (f))), (3, .int (zI (q)))]) (Nat.le_of_ble_eq_true rfl) rfl zd_MO_wholeNumber_18 ?_
    refine zw_iload_n 4 rfl zd_MO_wholeNumber_20 ?_
    refine zw_istore (lv' := [(7, .int (zI (f))), (5, .long (zJ (0))), (4, .int (zI (0))), (0, .ref h), (1, .int (zI (z))), (2, .int (zI (f))), (3, .int (zI (q)))]) (Nat.le_of_ble_eq_true rfl) rfl zd_MO_wholeNumber_21 ?_
    refine zw_eqv (lv' := [(7, .int (zI (f))), (5, .long (zJ (0))), (4, .int (zI (rdN t z))), (0, .ref h), (1, .int (zI (z))), (2, .int (zI (f))), (3, .int (zI (q)))]) (by rw [show rdN t z = 0 by omega]) ?_
    refine zw_lpick (lv' := [(0, .ref h), (1, .int (zI (z))), (2, .int (zI (f))), (3, .int (zI (q))), (4, .int (zI (rdN t z))), (5, .long (zJ (0))), (7, .int (zI (f)))]) [3, 4, 5, 6, 2, 1, 0] rfl ?_
    refine zw_widen (k' := 0) (n' := 0) (by omega) (by omega) ?_
    exact lp _ 0 f ⟨by omega, by rw [slc_nil]; rfl⟩ (Nat.lt_succ_self _)
  · -- 7 -> 10
    refine zw_iconst zd_MO_wholeNumber_10 ?_
    refine zw_goto 15 zd_MO_wholeNumber_11 (by decide) ?_
    refine zw_istore (lv' := [(4, .int (zI (1))), (0, .ref h), (1, .int (zI (z))), (2, .int (zI (f))), (3, .int (zI (q)))]) (Nat.le_of_ble_eq_true rfl) rfl zd_MO_wholeNumber_15 ?_
    refine zw_lconst (a := 0) rfl zd_MO_wholeNumber_17 ?_
    refine zw_lstore (lv' := [(5, .long (zJ (0))), (4, .int (zI (1))), (0, .ref h), (1, .int (zI (z))), (2, .int (zI (f))), (3, .int (zI (q)))]) (Nat.le_of_ble_eq_true rfl) rfl zd_MO_wholeNumber_18 ?_
    refine zw_iload_n 4 rfl zd_MO_wholeNumber_20 ?_
    refine zw_istore (lv' := [(7, .int (zI (f))), (5, .long (zJ (0))), (4, .int (zI (1))), (0, .ref h), (1, .int (zI (z))), (2, .int (zI (f))), (3, .int (zI (q)))]) (Nat.le_of_ble_eq_true rfl) rfl zd_MO_wholeNumber_21 ?_
    refine zw_eqv (lv' := [(7, .int (zI (f))), (5, .long (zJ (0))), (4, .int (zI (rdN t z))), (0, .ref h), (1, .int (zI (z))), (2, .int (zI (f))), (3, .int (zI (q)))]) (by rw [show rdN t z = 1 by omega]) ?_
    refine zw_lpick (lv' := [(0, .ref h), (1, .int (zI (z))), (2, .int (zI (f))), (3, .int (zI (q))), (4, .int (zI (rdN t z))), (5, .long (zJ (0))), (7, .int (zI (f)))]) [3, 4, 5, 6, 2, 1, 0] rfl ?_
    refine zw_widen (k' := 0) (n' := 0) (by omega) (by omega) ?_
    exact lp _ 0 f ⟨by omega, by rw [slc_nil]; rfl⟩ (Nat.lt_succ_self _)
set_option maxHeartbeats 4000000 in
set_option maxRecDepth 100000 in
theorem c_MO_baseOf (h : Nat) (t : List Int) (ws : List (Int32 × Int32 × Int32)) (ts : List (List Int)) (op : List Int) (y r ct wh : Int) (fd fr : Nat → Int32) (z : Int) (hz : 0 ≤ z ∧ z ≤ t.length) (h2 : scanE sDig t z ≤ z + 2) : zCT zy_MO_baseOf zm_MO_baseOf (0) (0) [.ref h, .int (zI z)] [zMOd h (t) (ws) (ts) ([]) (op) (y) (r) (ct) (wh) (fd) (fr)] (some (.int (zI (satV 10 (slc t z (scanE sDig t z)))))) [zMOd h (t) (ws) (ts) ([]) (op) (y) (r) (ct) (wh) (fd) (fr)] := by
  refine zCT.of [(0, .ref h), (1, .int (zI (z)))] rfl (by decide) rfl (fun h => by first | rfl | cases h) (Nat.le_of_ble_eq_true rfl) (fun X hR => ?_)
  refine zw_fact 0 rfl (fun G w h => zMOd_fact h) (fun mf => ?_)
  obtain ⟨⟨ht1, hby⟩, hw1, ⟨hs1, hs2, hs3⟩, ho1⟩ := mf
  obtain ⟨s1, s2, s3, s4⟩ := scanE_spec (f := sDig) (t := t) (p := z) (by omega)
  have s5 := s2 (by omega)
  have lp : ∀ (fuel : Nat) (b : Int) (k : Int), ((z ≤ k ∧ k ≤ scanE sDig t z) ∧ b = satV 10 (slc t z k) ∧ ((k = z ∧ b = 0) ∨ (k = z + 1 ∧ 0 ≤ b ∧ b ≤ 9) ∨ (k = z + 2 ∧ 0 ≤ b ∧ b ≤ 99))) → (scanE sDig t z - k).toNat < fuel → zZ X zm_MO_baseOf (0) (0) (0) (0) [zMOd h (t) (ws) (ts) ([]) (op) (y) (r) (ct) (wh) (fd) (fr)] 4 [(0, .ref h), (1, .int (zI (z))), (2, .int (zI (b))), (3, .int (zI (k)))] [] := by
    intro fuel
    induction fuel with
    | zero => intro b k g0 hm; exact absurd hm (Nat.not_lt_zero _)
    | succ fuel ih =>
      intro b k g0 hm
      obtain ⟨g1, g2⟩ := g0
      refine zw_iload_n 3 rfl zd_MO_baseOf_4 ?_
      refine zw_aload_n 0 rfl zd_MO_baseOf_5 ?_
      refine zw_iload_n 1 rfl zd_MO_baseOf_6 ?_
      refine zw_callV (As := [.int (zI (z))]) (rest := [.int (zI (k))]) (L2 := []) (L' := [zMOd h (t) (ws) (ts) ([]) (op) (y) (r) (ct) (wh) (fd) (fr)]) (stk' := [.int (zI (scanE sDig t z)), .int (zI (k))]) (c_MO_behindDigits h t ws ts ([]) op y r ct wh fd fr z (by omega) (by omega)) [0] [] rfl rfl rfl zcal_MO_behindDigits zl_MO_87 zin_MO_behindDigits zse_MO_behindDigits 0 rfl zRv_MOd rfl (Nat.le_of_ble_eq_true rfl) (Nat.le_of_ble_eq_true rfl) (by omega) (by omega) rfl (Nat.le_of_ble_eq_true rfl) rfl rfl zd_MO_baseOf_7 ?_
      have sd7 := scanE_spec (f := sDig) (t := t) (p := z) (by omega)
      have se7 := scanE_ub (f := sDig) (t := t) (p := z) (by omega)
      refine zw_icmp_ge 33 (by omega) (by omega) zd_MO_baseOf_10 (by decide) (fun c10 => ?_) (fun c10 => ?_)
      · -- 10 -> 33
        obtain rfl : k = scanE sDig t z := by omega
        refine zw_iload_n 2 rfl zd_MO_baseOf_33 ?_
        exact zw_iret hR (by rw [g2.1]) rfl rfl (by omega) (by omega) zd_MO_baseOf_34
      · -- 10 -> 13
        refine zw_bipush rfl zd_MO_baseOf_13 ?_
        refine zw_iload_n 2 rfl zd_MO_baseOf_15 ?_
        refine zw_imul zd_MO_baseOf_16 ?_
        refine zw_aload_n 0 rfl zd_MO_baseOf_17 ?_
        refine zw_iload_n 3 rfl zd_MO_baseOf_18 ?_
        refine zw_callV (As := [.int (zI (k))]) (rest := [.int (zI (10 * b))]) (L2 := []) (L' := [zMOd h (t) (ws) (ts) ([]) (op) (y) (r) (ct) (wh) (fd) (fr)]) (stk' := [.int (zI (bget t k)), .int (zI (10 * b))]) (c_MO_byteAt h t ws ts ([]) op y r ct wh fd fr k (by omega)) [0] [] rfl rfl rfl zcal_MO_byteAt zl_MO_51 zin_MO_byteAt zse_MO_byteAt 0 rfl zRv_MOd rfl (Nat.le_of_ble_eq_true rfl) (Nat.le_of_ble_eq_true rfl) (by omega) (by omega) rfl (Nat.le_of_ble_eq_true rfl) rfl rfl zd_MO_baseOf_19 ?_
        have rg19 := bget_rg hby k
        refine zw_iadd zd_MO_baseOf_22 ?_
        refine zw_bipush rfl zd_MO_baseOf_23 ?_
        refine zw_isub zd_MO_baseOf_25 ?_
        refine zw_istore_n (lv' := [(2, .int (zI (((10 * b) + (bget t k)) - 48))), (0, .ref h), (1, .int (zI (z))), (3, .int (zI (k)))]) (Nat.le_of_ble_eq_true rfl) rfl zd_MO_baseOf_26 ?_
        refine zw_iinc (lv' := [(3, .int (zI (k + 1))), (2, .int (zI (((10 * b) + (bget t k)) - 48))), (0, .ref h), (1, .int (zI (z)))]) 3 rfl (Nat.le_of_ble_eq_true rfl) rfl zd_MO_baseOf_27 ?_
        refine zw_goto 4 zd_MO_baseOf_30 (by decide) ?_
        refine zw_lpick (lv' := [(0, .ref h), (1, .int (zI (z))), (2, .int (zI (((10 * b) + (bget t k)) - 48))), (3, .int (zI (k + 1)))]) [2, 3, 1, 0] rfl ?_
        refine zw_widen (k' := 0) (n' := 0) (by omega) (by omega) ?_
        have hbk : 48 ≤ bget t k ∧ bget t k ≤ 57 := of_decide_eq_true (s3 k (by omega) (by omega)).2
        have es := satV_snoc 10 (slc t z k) (bget t k)
        rw [← slc_snoc (by omega) (by omega) (by omega), digV_dig hbk] at es
        exact ih (((10 * b) + (bget t k)) - 48) (k + 1) ⟨by omega, by omega⟩ (by omega)
  refine zw_iconst zd_MO_baseOf_0 ?_
  refine zw_istore_n (lv' := [(2, .int (zI (0))), (0, .ref h), (1, .int (zI (z)))]) (Nat.le_of_ble_eq_true rfl) rfl zd_MO_baseOf_1 ?_
  refine zw_iload_n 2 rfl zd_MO_baseOf_2 ?_
  refine zw_istore_n (lv' := [(3, .int (zI (z))), (2, .int (zI (0))), (0, .ref h), (1, .int (zI (z)))]) (Nat.le_of_ble_eq_true rfl) rfl zd_MO_baseOf_3 ?_
  refine zw_lpick (lv' := [(0, .ref h), (1, .int (zI (z))), (2, .int (zI (0))), (3, .int (zI (z)))]) [2, 3, 1, 0] rfl ?_
  refine zw_widen (k' := 0) (n' := 0) (by omega) (by omega) ?_
  exact lp _ 0 z ⟨by omega, by rw [slc_nil]; rfl, by omega⟩ (Nat.lt_succ_self _)
set_option maxHeartbeats 4000000 in
set_option maxRecDepth 100000 in
theorem c_MO_isBased_yes (h : Nat) (t : List Int) (ws : List (Int32 × Int32 × Int32)) (ts : List (List Int)) (op : List Int) (y r ct wh : Int) (fd fr : Nat → Int32) (z q : Int) (hz : 0 ≤ z ∧ z < q ∧ q ≤ t.length) (hyes : isB t z q) : zCT zy_MO_isBased zm_MO_isBased (0) (0) [.ref h, .int (zI z), .int (zI q)] [zMOd h (t) (ws) (ts) ([]) (op) (y) (r) (ct) (wh) (fd) (fr)] (some (.int (zI 1))) [zMOd h (t) (ws) (ts) ([]) (op) (y) (r) (ct) (wh) (fd) (fr)] := by
  refine zCT.of [(0, .ref h), (1, .int (zI (z))), (2, .int (zI (q)))] rfl (by decide) rfl (fun h => by first | rfl | cases h) (Nat.le_of_ble_eq_true rfl) (fun X hR => ?_)
  refine zw_fact 0 rfl (fun G w h => zMOd_fact h) (fun mf => ?_)
  obtain ⟨⟨ht1, hby⟩, hw1, ⟨hs1, hs2, hs3⟩, ho1⟩ := mf
  obtain ⟨s1, s2, s3, s4⟩ := scanE_spec (f := sDig) (t := t) (p := z) (by omega)
  have s5 := s2 (by omega)
  obtain ⟨y1, ⟨y2, y3, y4, y5⟩, y6⟩ := id hyes
  have b0 : scanE sDig t z = z → satV 10 (slc t z (scanE sDig t z)) = 0 := fun e => by rw [e, slc_nil]; rfl
  have lp : ∀ (fuel : Nat) (g : Int) (k : Int), (((scanE sDig t z ≤ z + 2 ∧ bget t (scanE sDig t z) = 35) ∧ 2 ≤ satV 10 (slc t z (scanE sDig t z)) ∧ satV 10 (slc t z (scanE sDig t z)) ≤ 36 ∧ scanE sDig t z + 1 < q) ∧ (scanE sDig t z + 1 ≤ k ∧ k ≤ q) ∧ ((g = 1 ∧ ∀ j, scanE sDig t z + 1 ≤ j → j < k → 0 ≤ digV (bget t j) ∧ digV (bget t j) < satV 10 (slc t z (scanE sDig t z))) ∨ (g = 0 ∧ ¬ ∀ j, scanE sDig t z + 1 ≤ j → j < k → 0 ≤ digV (bget t j) ∧ digV (bget t j) < satV 10 (slc t z (scanE sDig t z))))) → (q - k).toNat < fuel → zZ X zm_MO_isBased (0) (0) (0) (0) [zMOd h (t) (ws) (ts) ([]) (op) (y) (r) (ct) (wh) (fd) (fr)] 67 [(0, .ref h), (1, .int (zI (z))), (2, .int (zI (q))), (3, .int (zI (scanE sDig t z))), (4, .int (zI (satV 10 (slc t z (scanE sDig t z))))), (5, .int (zI (g))), (6, .int (zI (k)))] [] := by
    intro fuel
    induction fuel with
    | zero => intro g k g0 hm; exact absurd hm (Nat.not_lt_zero _)
    | succ fuel ih =>
      intro g k g0 hm
      obtain ⟨hB, g1, g2⟩ := g0
      refine zw_iload 6 rfl zd_MO_isBased_67 ?_
      refine zw_iload_n 2 rfl zd_MO_isBased_69 ?_
      refine zw_icmp_ge 105 (by omega) (by omega) zd_MO_isBased_70 (by decide) (fun c70 => ?_) (fun c70 => ?_)
      · -- 70 -> 105
        refine zw_iload 5 rfl zd_MO_isBased_105 ?_
        rcases g2 with ⟨e1, e2⟩ | ⟨e1, e2⟩
        · subst e1; exact zw_zret hR rfl rfl rfl rfl (by omega) (by omega) zd_MO_isBased_107
        · exact absurd (fun j a b => y6 j a (by omega)) e2
      · -- 70 -> 73
        refine zw_iload 5 rfl zd_MO_isBased_73 ?_
        refine zw_if_eq 96 (by omega) zd_MO_isBased_75 (by decide) (fun c75 => ?_) (fun c75 => ?_)
        · -- 75 -> 96
          refine zw_iconst zd_MO_isBased_96 ?_
          refine zw_istore (lv' := [(5, .int (zI (0))), (0, .ref h), (1, .int (zI (z))), (2, .int (zI (q))), (3, .int (zI (scanE sDig t z))), (4, .int (zI (satV 10 (slc t z (scanE sDig t z))))), (6, .int (zI (k)))]) (Nat.le_of_ble_eq_true rfl) rfl zd_MO_isBased_97 ?_
          refine zw_iinc (lv' := [(6, .int (zI (k + 1))), (5, .int (zI (0))), (0, .ref h), (1, .int (zI (z))), (2, .int (zI (q))), (3, .int (zI (scanE sDig t z))), (4, .int (zI (satV 10 (slc t z (scanE sDig t z)))))]) 6 rfl (Nat.le_of_ble_eq_true rfl) rfl zd_MO_isBased_99 ?_
          refine zw_goto 67 zd_MO_isBased_102 (by decide) ?_
          refine zw_lpick (lv' := [(0, .ref h), (1, .int (zI (z))), (2, .int (zI (q))), (3, .int (zI (scanE sDig t z))), (4, .int (zI (satV 10 (slc t z (scanE sDig t z))))), (5, .int (zI (0))), (6, .int (zI (k + 1)))]) [2, 3, 4, 5, 6, 1, 0] rfl ?_
          refine zw_widen (k' := 0) (n' := 0) (by omega) (by omega) ?_
          refine ih (0) (k + 1) ⟨hB, by omega, ?_⟩ (by omega)
          rcases g2 with ⟨e1, e2⟩ | ⟨e1, e2⟩
          · first | (exfalso; omega) | (have dm := digM_rg (bget t k); exact Or.inr ⟨rfl, fun H => by have := H k (by omega) (by omega); omega⟩)
          · exact Or.inr ⟨rfl, fun H => e2 (fun j a b => H j a (by omega))⟩
        · -- 75 -> 78
          refine zw_aload_n 0 rfl zd_MO_isBased_78 ?_
          refine zw_iload 6 rfl zd_MO_isBased_79 ?_
          refine zw_callV (As := [.int (zI (k))]) (rest := []) (L2 := []) (L' := [zMOd h (t) (ws) (ts) ([]) (op) (y) (r) (ct) (wh) (fd) (fr)]) (stk' := [.int (zI (bget t k))]) (c_MO_byteAt h t ws ts ([]) op y r ct wh fd fr k (by omega)) [0] [] rfl rfl rfl zcal_MO_byteAt zl_MO_51 zin_MO_byteAt zse_MO_byteAt 0 rfl zRv_MOd rfl (Nat.le_of_ble_eq_true rfl) (Nat.le_of_ble_eq_true rfl) (by omega) (by omega) rfl (Nat.le_of_ble_eq_true rfl) rfl rfl zd_MO_isBased_81 ?_
          have rg81 := bget_rg hby k
          refine zw_callS (a := 0) (As := [.int (zI (bget t k))]) (rest := []) (L2 := [zMOd h (t) (ws) (ts) ([]) (op) (y) (r) (ct) (wh) (fd) (fr)]) (L' := [zMOd h (t) (ws) (ts) ([]) (op) (y) (r) (ct) (wh) (fd) (fr)]) (stk' := [.int (zI (digM (bget t k)))]) (c_MO_digitOf (bget t k) (by omega)) [] [0] rfl rfl rfl zcal_MO_digitOf zl_MO_127 zst_MO_digitOf (Nat.le_of_ble_eq_true rfl) (Nat.le_of_ble_eq_true rfl) (by omega) (by omega) rfl (Nat.le_of_ble_eq_true rfl) rfl rfl zd_MO_isBased_84 ?_
          have rb84 := digM_rg (bget t k)
          refine zw_iload 4 rfl zd_MO_isBased_87 ?_
          refine zw_icmp_ge 96 (by omega) (by omega) zd_MO_isBased_89 (by decide) (fun c89 => ?_) (fun c89 => ?_)
          · -- 89 -> 96
            refine zw_iconst zd_MO_isBased_96 ?_
            refine zw_istore (lv' := [(5, .int (zI (0))), (0, .ref h), (1, .int (zI (z))), (2, .int (zI (q))), (3, .int (zI (scanE sDig t z))), (4, .int (zI (satV 10 (slc t z (scanE sDig t z))))), (6, .int (zI (k)))]) (Nat.le_of_ble_eq_true rfl) rfl zd_MO_isBased_97 ?_
            refine zw_iinc (lv' := [(6, .int (zI (k + 1))), (5, .int (zI (0))), (0, .ref h), (1, .int (zI (z))), (2, .int (zI (q))), (3, .int (zI (scanE sDig t z))), (4, .int (zI (satV 10 (slc t z (scanE sDig t z)))))]) 6 rfl (Nat.le_of_ble_eq_true rfl) rfl zd_MO_isBased_99 ?_
            refine zw_goto 67 zd_MO_isBased_102 (by decide) ?_
            refine zw_lpick (lv' := [(0, .ref h), (1, .int (zI (z))), (2, .int (zI (q))), (3, .int (zI (scanE sDig t z))), (4, .int (zI (satV 10 (slc t z (scanE sDig t z))))), (5, .int (zI (0))), (6, .int (zI (k + 1)))]) [2, 3, 4, 5, 6, 1, 0] rfl ?_
            refine zw_widen (k' := 0) (n' := 0) (by omega) (by omega) ?_
            refine ih (0) (k + 1) ⟨hB, by omega, ?_⟩ (by omega)
            rcases g2 with ⟨e1, e2⟩ | ⟨e1, e2⟩
            · first | (exfalso; omega) | (have dm := digM_rg (bget t k); exact Or.inr ⟨rfl, fun H => by have := H k (by omega) (by omega); omega⟩)
            · exact Or.inr ⟨rfl, fun H => e2 (fun j a b => H j a (by omega))⟩
          · -- 89 -> 92
            refine zw_iconst zd_MO_isBased_92 ?_
            refine zw_goto 97 zd_MO_isBased_93 (by decide) ?_
            refine zw_istore (lv' := [(5, .int (zI (1))), (0, .ref h), (1, .int (zI (z))), (2, .int (zI (q))), (3, .int (zI (scanE sDig t z))), (4, .int (zI (satV 10 (slc t z (scanE sDig t z))))), (6, .int (zI (k)))]) (Nat.le_of_ble_eq_true rfl) rfl zd_MO_isBased_97 ?_
            refine zw_iinc (lv' := [(6, .int (zI (k + 1))), (5, .int (zI (1))), (0, .ref h), (1, .int (zI (z))), (2, .int (zI (q))), (3, .int (zI (scanE sDig t z))), (4, .int (zI (satV 10 (slc t z (scanE sDig t z)))))]) 6 rfl (Nat.le_of_ble_eq_true rfl) rfl zd_MO_isBased_99 ?_
            refine zw_goto 67 zd_MO_isBased_102 (by decide) ?_
            refine zw_lpick (lv' := [(0, .ref h), (1, .int (zI (z))), (2, .int (zI (q))), (3, .int (zI (scanE sDig t z))), (4, .int (zI (satV 10 (slc t z (scanE sDig t z))))), (5, .int (zI (1))), (6, .int (zI (k + 1)))]) [2, 3, 4, 5, 6, 1, 0] rfl ?_
            refine zw_widen (k' := 0) (n' := 0) (by omega) (by omega) ?_
            refine ih (1) (k + 1) ⟨hB, by omega, ?_⟩ (by omega)
            have dm := digM_rg (bget t k)
            rcases g2 with ⟨e1, e2⟩ | ⟨e1, e2⟩
            · refine Or.inl ⟨rfl, fun j h1 h2 => ?_⟩
              rcases Int.lt_or_le j k with c | c
              · exact e2 j h1 c
              · rw [show j = k by omega]; omega
            · omega
  refine zw_aload_n 0 rfl zd_MO_isBased_0 ?_
  refine zw_iload_n 1 rfl zd_MO_isBased_1 ?_
  refine zw_callV (As := [.int (zI (z))]) (rest := []) (L2 := []) (L' := [zMOd h (t) (ws) (ts) ([]) (op) (y) (r) (ct) (wh) (fd) (fr)]) (stk' := [.int (zI (scanE sDig t z))]) (c_MO_behindDigits h t ws ts ([]) op y r ct wh fd fr z (by omega) (by omega)) [0] [] rfl rfl rfl zcal_MO_behindDigits zl_MO_87 zin_MO_behindDigits zse_MO_behindDigits 0 rfl zRv_MOd rfl (Nat.le_of_ble_eq_true rfl) (Nat.le_of_ble_eq_true rfl) (by omega) (by omega) rfl (Nat.le_of_ble_eq_true rfl) rfl rfl zd_MO_isBased_2 ?_
  have sd2 := scanE_spec (f := sDig) (t := t) (p := z) (by omega)
  have se2 := scanE_ub (f := sDig) (t := t) (p := z) (by omega)
  refine zw_istore_n (lv' := [(3, .int (zI (scanE sDig t z))), (0, .ref h), (1, .int (zI (z))), (2, .int (zI (q)))]) (Nat.le_of_ble_eq_true rfl) rfl zd_MO_isBased_5 ?_
  refine zw_iload_n 0 rfl zd_MO_isBased_6 ?_
  refine zw_iload_n 2 rfl zd_MO_isBased_7 ?_
  refine zw_icmp_eq 35 (by omega) (by omega) zd_MO_isBased_8 (by decide) (fun c8 => ?_) (fun c8 => ?_)
  · -- 8 -> 35
    refine zw_iconst zd_MO_isBased_35 ?_
    exfalso; omega
  · -- 8 -> 11
    refine zw_iload_n 0 rfl zd_MO_isBased_11 ?_
    refine zw_iload_n 2 rfl zd_MO_isBased_12 ?_
    refine zw_iconst zd_MO_isBased_13 ?_
    refine zw_iadd zd_MO_isBased_14 ?_
    refine zw_icmp_gt 35 (by omega) (by omega) zd_MO_isBased_15 (by decide) (fun c15 => ?_) (fun c15 => ?_)
    · -- 15 -> 35
      refine zw_iconst zd_MO_isBased_35 ?_
      exfalso; omega
    · -- 15 -> 18
      refine zw_aload_n 1 rfl zd_MO_isBased_18 ?_
      refine zw_iload_n 0 rfl zd_MO_isBased_19 ?_
      refine zw_callV (As := [.int (zI (scanE sDig t z))]) (rest := []) (L2 := []) (L' := [zMOd h (t) (ws) (ts) ([]) (op) (y) (r) (ct) (wh) (fd) (fr)]) (stk' := [.int (zI (bget t (scanE sDig t z)))]) (c_MO_byteAt h t ws ts ([]) op y r ct wh fd fr (scanE sDig t z) (by omega)) [0] [] rfl rfl rfl zcal_MO_byteAt zl_MO_51 zin_MO_byteAt zse_MO_byteAt 0 rfl zRv_MOd rfl (Nat.le_of_ble_eq_true rfl) (Nat.le_of_ble_eq_true rfl) (by omega) (by omega) rfl (Nat.le_of_ble_eq_true rfl) rfl rfl zd_MO_isBased_20 ?_
      have rg20 := bget_rg hby (scanE sDig t z)
      refine zw_bipush rfl zd_MO_isBased_23 ?_
      refine zw_icmp_ne 35 (by omega) (by omega) zd_MO_isBased_25 (by decide) (fun c25 => ?_) (fun c25 => ?_)
      · -- 25 -> 35
        refine zw_iconst zd_MO_isBased_35 ?_
        exfalso; omega
      · -- 25 -> 28
        refine zw_iload_n 0 rfl zd_MO_isBased_28 ?_
        refine zw_iconst zd_MO_isBased_29 ?_
        refine zw_iadd zd_MO_isBased_30 ?_
        refine zw_iload_n 3 rfl zd_MO_isBased_31 ?_
        refine zw_icmp_ne 37 (by omega) (by omega) zd_MO_isBased_32 (by decide) (fun c32 => ?_) (fun c32 => ?_)
        · -- 32 -> 37
          refine zw_aload_n 1 rfl zd_MO_isBased_37 ?_
          refine zw_iload_n 2 rfl zd_MO_isBased_38 ?_
          refine zw_callV (As := [.int (zI (z))]) (rest := []) (L2 := []) (L' := [zMOd h (t) (ws) (ts) ([]) (op) (y) (r) (ct) (wh) (fd) (fr)]) (stk' := [.int (zI (satV 10 (slc t z (scanE sDig t z))))]) (c_MO_baseOf h t ws ts op y r ct wh fd fr z (by omega) (by omega)) [0] [] rfl rfl rfl zcal_MO_baseOf zl_MO_124 zin_MO_baseOf zse_MO_baseOf 0 rfl zRv_MOd rfl (Nat.le_of_ble_eq_true rfl) (Nat.le_of_ble_eq_true rfl) (by omega) (by omega) rfl (Nat.le_of_ble_eq_true rfl) rfl rfl zd_MO_isBased_39 ?_
          have bs39 := base_rg (t := t) (z := z) (by omega) (by omega) (by omega)
          refine zw_istore (lv' := [(4, .int (zI (satV 10 (slc t z (scanE sDig t z))))), (3, .int (zI (scanE sDig t z))), (0, .ref h), (1, .int (zI (z))), (2, .int (zI (q)))]) (Nat.le_of_ble_eq_true rfl) rfl zd_MO_isBased_42 ?_
          refine zw_iload 0 rfl zd_MO_isBased_44 ?_
          refine zw_iconst zd_MO_isBased_46 ?_
          refine zw_icmp_lt 57 (by omega) (by omega) zd_MO_isBased_47 (by decide) (fun c47 => ?_) (fun c47 => ?_)
          · -- 47 -> 57
            refine zw_iconst zd_MO_isBased_57 ?_
            exfalso; omega
          · -- 47 -> 50
            refine zw_iload 0 rfl zd_MO_isBased_50 ?_
            refine zw_bipush rfl zd_MO_isBased_52 ?_
            refine zw_icmp_le 59 (by omega) (by omega) zd_MO_isBased_54 (by decide) (fun c54 => ?_) (fun c54 => ?_)
            · -- 54 -> 59
              refine zw_iconst zd_MO_isBased_59 ?_
              refine zw_istore (lv' := [(5, .int (zI (1))), (4, .int (zI (satV 10 (slc t z (scanE sDig t z))))), (3, .int (zI (scanE sDig t z))), (0, .ref h), (1, .int (zI (z))), (2, .int (zI (q)))]) (Nat.le_of_ble_eq_true rfl) rfl zd_MO_isBased_60 ?_
              refine zw_iload_n 2 rfl zd_MO_isBased_62 ?_
              refine zw_iconst zd_MO_isBased_63 ?_
              refine zw_iadd zd_MO_isBased_64 ?_
              refine zw_istore (lv' := [(6, .int (zI ((scanE sDig t z) + 1))), (5, .int (zI (1))), (4, .int (zI (satV 10 (slc t z (scanE sDig t z))))), (3, .int (zI (scanE sDig t z))), (0, .ref h), (1, .int (zI (z))), (2, .int (zI (q)))]) (Nat.le_of_ble_eq_true rfl) rfl zd_MO_isBased_65 ?_
              refine zw_lpick (lv' := [(0, .ref h), (1, .int (zI (z))), (2, .int (zI (q))), (3, .int (zI (scanE sDig t z))), (4, .int (zI (satV 10 (slc t z (scanE sDig t z))))), (5, .int (zI (1))), (6, .int (zI ((scanE sDig t z) + 1)))]) [4, 5, 6, 3, 2, 1, 0] rfl ?_
              refine zw_widen (k' := 0) (n' := 0) (by omega) (by omega) ?_
              exact lp _ 1 (scanE sDig t z + 1) ⟨by omega, by omega, Or.inl ⟨rfl, fun j a b => by omega⟩⟩ (Nat.lt_succ_self _)
            · -- 54 -> 57
              refine zw_iconst zd_MO_isBased_57 ?_
              exfalso; omega
        · -- 32 -> 35
          refine zw_iconst zd_MO_isBased_35 ?_
          exfalso; omega
set_option maxHeartbeats 4000000 in
set_option maxRecDepth 100000 in
theorem c_MO_isBased_no (h : Nat) (t : List Int) (ws : List (Int32 × Int32 × Int32)) (ts : List (List Int)) (op : List Int) (y r ct wh : Int) (fd fr : Nat → Int32) (z q : Int) (hz : 0 ≤ z ∧ z < q ∧ q ≤ t.length) (hqe : scanE sDig t z ≤ q) (q3 : bget t q ≠ 35) (hno : ¬ isB t z q) : zCT zy_MO_isBased zm_MO_isBased (0) (0) [.ref h, .int (zI z), .int (zI q)] [zMOd h (t) (ws) (ts) ([]) (op) (y) (r) (ct) (wh) (fd) (fr)] (some (.int (zI 0))) [zMOd h (t) (ws) (ts) ([]) (op) (y) (r) (ct) (wh) (fd) (fr)] := by
  refine zCT.of [(0, .ref h), (1, .int (zI (z))), (2, .int (zI (q)))] rfl (by decide) rfl (fun h => by first | rfl | cases h) (Nat.le_of_ble_eq_true rfl) (fun X hR => ?_)
  refine zw_fact 0 rfl (fun G w h => zMOd_fact h) (fun mf => ?_)
  obtain ⟨⟨ht1, hby⟩, hw1, ⟨hs1, hs2, hs3⟩, ho1⟩ := mf
  obtain ⟨s1, s2, s3, s4⟩ := scanE_spec (f := sDig) (t := t) (p := z) (by omega)
  have s5 := s2 (by omega)
  have b0 : scanE sDig t z = z → satV 10 (slc t z (scanE sDig t z)) = 0 := fun e => by rw [e, slc_nil]; rfl
  have lp : ∀ (fuel : Nat) (g : Int) (k : Int), (((scanE sDig t z ≤ z + 2 ∧ bget t (scanE sDig t z) = 35) ∧ 2 ≤ satV 10 (slc t z (scanE sDig t z)) ∧ satV 10 (slc t z (scanE sDig t z)) ≤ 36 ∧ scanE sDig t z + 1 < q) ∧ (scanE sDig t z + 1 ≤ k ∧ k ≤ q) ∧ ((g = 1 ∧ ∀ j, scanE sDig t z + 1 ≤ j → j < k → 0 ≤ digV (bget t j) ∧ digV (bget t j) < satV 10 (slc t z (scanE sDig t z))) ∨ (g = 0 ∧ ¬ ∀ j, scanE sDig t z + 1 ≤ j → j < k → 0 ≤ digV (bget t j) ∧ digV (bget t j) < satV 10 (slc t z (scanE sDig t z))))) → (q - k).toNat < fuel → zZ X zm_MO_isBased (0) (0) (0) (0) [zMOd h (t) (ws) (ts) ([]) (op) (y) (r) (ct) (wh) (fd) (fr)] 67 [(0, .ref h), (1, .int (zI (z))), (2, .int (zI (q))), (3, .int (zI (scanE sDig t z))), (4, .int (zI (satV 10 (slc t z (scanE sDig t z))))), (5, .int (zI (g))), (6, .int (zI (k)))] [] := by
    intro fuel
    induction fuel with
    | zero => intro g k g0 hm; exact absurd hm (Nat.not_lt_zero _)
    | succ fuel ih =>
      intro g k g0 hm
      obtain ⟨hB, g1, g2⟩ := g0
      refine zw_iload 6 rfl zd_MO_isBased_67 ?_
      refine zw_iload_n 2 rfl zd_MO_isBased_69 ?_
      refine zw_icmp_ge 105 (by omega) (by omega) zd_MO_isBased_70 (by decide) (fun c70 => ?_) (fun c70 => ?_)
      · -- 70 -> 105
        refine zw_iload 5 rfl zd_MO_isBased_105 ?_
        rcases g2 with ⟨e1, e2⟩ | ⟨e1, e2⟩
        · exact absurd ⟨by omega, by omega, fun j a b => e2 j a (by omega)⟩ hno
        · subst e1; exact zw_zret hR rfl rfl rfl rfl (by omega) (by omega) zd_MO_isBased_107
      · -- 70 -> 73
        refine zw_iload 5 rfl zd_MO_isBased_73 ?_
        refine zw_if_eq 96 (by omega) zd_MO_isBased_75 (by decide) (fun c75 => ?_) (fun c75 => ?_)
        · -- 75 -> 96
          refine zw_iconst zd_MO_isBased_96 ?_
          refine zw_istore (lv' := [(5, .int (zI (0))), (0, .ref h), (1, .int (zI (z))), (2, .int (zI (q))), (3, .int (zI (scanE sDig t z))), (4, .int (zI (satV 10 (slc t z (scanE sDig t z))))), (6, .int (zI (k)))]) (Nat.le_of_ble_eq_true rfl) rfl zd_MO_isBased_97 ?_
          refine zw_iinc (lv' := [(6, .int (zI (k + 1))), (5, .int (zI (0))), (0, .ref h), (1, .int (zI (z))), (2, .int (zI (q))), (3, .int (zI (scanE sDig t z))), (4, .int (zI (satV 10 (slc t z (scanE sDig t z)))))]) 6 rfl (Nat.le_of_ble_eq_true rfl) rfl zd_MO_isBased_99 ?_
          refine zw_goto 67 zd_MO_isBased_102 (by decide) ?_
          refine zw_lpick (lv' := [(0, .ref h), (1, .int (zI (z))), (2, .int (zI (q))), (3, .int (zI (scanE sDig t z))), (4, .int (zI (satV 10 (slc t z (scanE sDig t z))))), (5, .int (zI (0))), (6, .int (zI (k + 1)))]) [2, 3, 4, 5, 6, 1, 0] rfl ?_
          refine zw_widen (k' := 0) (n' := 0) (by omega) (by omega) ?_
          refine ih (0) (k + 1) ⟨hB, by omega, ?_⟩ (by omega)
          rcases g2 with ⟨e1, e2⟩ | ⟨e1, e2⟩
          · first | (exfalso; omega) | (have dm := digM_rg (bget t k); exact Or.inr ⟨rfl, fun H => by have := H k (by omega) (by omega); omega⟩)
          · exact Or.inr ⟨rfl, fun H => e2 (fun j a b => H j a (by omega))⟩
        · -- 75 -> 78
          refine zw_aload_n 0 rfl zd_MO_isBased_78 ?_
          refine zw_iload 6 rfl zd_MO_isBased_79 ?_
          refine zw_callV (As := [.int (zI (k))]) (rest := []) (L2 := []) (L' := [zMOd h (t) (ws) (ts) ([]) (op) (y) (r) (ct) (wh) (fd) (fr)]) (stk' := [.int (zI (bget t k))]) (c_MO_byteAt h t ws ts ([]) op y r ct wh fd fr k (by omega)) [0] [] rfl rfl rfl zcal_MO_byteAt zl_MO_51 zin_MO_byteAt zse_MO_byteAt 0 rfl zRv_MOd rfl (Nat.le_of_ble_eq_true rfl) (Nat.le_of_ble_eq_true rfl) (by omega) (by omega) rfl (Nat.le_of_ble_eq_true rfl) rfl rfl zd_MO_isBased_81 ?_
          have rg81 := bget_rg hby k
          refine zw_callS (a := 0) (As := [.int (zI (bget t k))]) (rest := []) (L2 := [zMOd h (t) (ws) (ts) ([]) (op) (y) (r) (ct) (wh) (fd) (fr)]) (L' := [zMOd h (t) (ws) (ts) ([]) (op) (y) (r) (ct) (wh) (fd) (fr)]) (stk' := [.int (zI (digM (bget t k)))]) (c_MO_digitOf (bget t k) (by omega)) [] [0] rfl rfl rfl zcal_MO_digitOf zl_MO_127 zst_MO_digitOf (Nat.le_of_ble_eq_true rfl) (Nat.le_of_ble_eq_true rfl) (by omega) (by omega) rfl (Nat.le_of_ble_eq_true rfl) rfl rfl zd_MO_isBased_84 ?_
          have rb84 := digM_rg (bget t k)
          refine zw_iload 4 rfl zd_MO_isBased_87 ?_
          refine zw_icmp_ge 96 (by omega) (by omega) zd_MO_isBased_89 (by decide) (fun c89 => ?_) (fun c89 => ?_)
          · -- 89 -> 96
            refine zw_iconst zd_MO_isBased_96 ?_
            refine zw_istore (lv' := [(5, .int (zI (0))), (0, .ref h), (1, .int (zI (z))), (2, .int (zI (q))), (3, .int (zI (scanE sDig t z))), (4, .int (zI (satV 10 (slc t z (scanE sDig t z))))), (6, .int (zI (k)))]) (Nat.le_of_ble_eq_true rfl) rfl zd_MO_isBased_97 ?_
            refine zw_iinc (lv' := [(6, .int (zI (k + 1))), (5, .int (zI (0))), (0, .ref h), (1, .int (zI (z))), (2, .int (zI (q))), (3, .int (zI (scanE sDig t z))), (4, .int (zI (satV 10 (slc t z (scanE sDig t z)))))]) 6 rfl (Nat.le_of_ble_eq_true rfl) rfl zd_MO_isBased_99 ?_
            refine zw_goto 67 zd_MO_isBased_102 (by decide) ?_
            refine zw_lpick (lv' := [(0, .ref h), (1, .int (zI (z))), (2, .int (zI (q))), (3, .int (zI (scanE sDig t z))), (4, .int (zI (satV 10 (slc t z (scanE sDig t z))))), (5, .int (zI (0))), (6, .int (zI (k + 1)))]) [2, 3, 4, 5, 6, 1, 0] rfl ?_
            refine zw_widen (k' := 0) (n' := 0) (by omega) (by omega) ?_
            refine ih (0) (k + 1) ⟨hB, by omega, ?_⟩ (by omega)
            rcases g2 with ⟨e1, e2⟩ | ⟨e1, e2⟩
            · first | (exfalso; omega) | (have dm := digM_rg (bget t k); exact Or.inr ⟨rfl, fun H => by have := H k (by omega) (by omega); omega⟩)
            · exact Or.inr ⟨rfl, fun H => e2 (fun j a b => H j a (by omega))⟩
          · -- 89 -> 92
            refine zw_iconst zd_MO_isBased_92 ?_
            refine zw_goto 97 zd_MO_isBased_93 (by decide) ?_
            refine zw_istore (lv' := [(5, .int (zI (1))), (0, .ref h), (1, .int (zI (z))), (2, .int (zI (q))), (3, .int (zI (scanE sDig t z))), (4, .int (zI (satV 10 (slc t z (scanE sDig t z))))), (6, .int (zI (k)))]) (Nat.le_of_ble_eq_true rfl) rfl zd_MO_isBased_97 ?_
            refine zw_iinc (lv' := [(6, .int (zI (k + 1))), (5, .int (zI (1))), (0, .ref h), (1, .int (zI (z))), (2, .int (zI (q))), (3, .int (zI (scanE sDig t z))), (4, .int (zI (satV 10 (slc t z (scanE sDig t z)))))]) 6 rfl (Nat.le_of_ble_eq_true rfl) rfl zd_MO_isBased_99 ?_
            refine zw_goto 67 zd_MO_isBased_102 (by decide) ?_
            refine zw_lpick (lv' := [(0, .ref h), (1, .int (zI (z))), (2, .int (zI (q))), (3, .int (zI (scanE sDig t z))), (4, .int (zI (satV 10 (slc t z (scanE sDig t z))))), (5, .int (zI (1))), (6, .int (zI (k + 1)))]) [2, 3, 4, 5, 6, 1, 0] rfl ?_
            refine zw_widen (k' := 0) (n' := 0) (by omega) (by omega) ?_
            refine ih (1) (k + 1) ⟨hB, by omega, ?_⟩ (by omega)
            have dm := digM_rg (bget t k)
            rcases g2 with ⟨e1, e2⟩ | ⟨e1, e2⟩
            · refine Or.inl ⟨rfl, fun j h1 h2 => ?_⟩
              rcases Int.lt_or_le j k with c | c
              · exact e2 j h1 c
              · rw [show j = k by omega]; omega
            · omega
  refine zw_aload_n 0 rfl zd_MO_isBased_0 ?_
  refine zw_iload_n 1 rfl zd_MO_isBased_1 ?_
  refine zw_callV (As := [.int (zI (z))]) (rest := []) (L2 := []) (L' := [zMOd h (t) (ws) (ts) ([]) (op) (y) (r) (ct) (wh) (fd) (fr)]) (stk' := [.int (zI (scanE sDig t z))]) (c_MO_behindDigits h t ws ts ([]) op y r ct wh fd fr z (by omega) (by omega)) [0] [] rfl rfl rfl zcal_MO_behindDigits zl_MO_87 zin_MO_behindDigits zse_MO_behindDigits 0 rfl zRv_MOd rfl (Nat.le_of_ble_eq_true rfl) (Nat.le_of_ble_eq_true rfl) (by omega) (by omega) rfl (Nat.le_of_ble_eq_true rfl) rfl rfl zd_MO_isBased_2 ?_
  have sd2 := scanE_spec (f := sDig) (t := t) (p := z) (by omega)
  have se2 := scanE_ub (f := sDig) (t := t) (p := z) (by omega)
  refine zw_istore_n (lv' := [(3, .int (zI (scanE sDig t z))), (0, .ref h), (1, .int (zI (z))), (2, .int (zI (q)))]) (Nat.le_of_ble_eq_true rfl) rfl zd_MO_isBased_5 ?_
  refine zw_iload_n 0 rfl zd_MO_isBased_6 ?_
  refine zw_iload_n 2 rfl zd_MO_isBased_7 ?_
  refine zw_icmp_eq 35 (by omega) (by omega) zd_MO_isBased_8 (by decide) (fun c8 => ?_) (fun c8 => ?_)
  · -- 8 -> 35
    refine zw_iconst zd_MO_isBased_35 ?_
    exact zw_zret hR rfl rfl rfl rfl (by omega) (by omega) zd_MO_isBased_36
  · -- 8 -> 11
    refine zw_iload_n 0 rfl zd_MO_isBased_11 ?_
    refine zw_iload_n 2 rfl zd_MO_isBased_12 ?_
    refine zw_iconst zd_MO_isBased_13 ?_
    refine zw_iadd zd_MO_isBased_14 ?_
    refine zw_icmp_gt 35 (by omega) (by omega) zd_MO_isBased_15 (by decide) (fun c15 => ?_) (fun c15 => ?_)
    · -- 15 -> 35
      refine zw_iconst zd_MO_isBased_35 ?_
      exact zw_zret hR rfl rfl rfl rfl (by omega) (by omega) zd_MO_isBased_36
    · -- 15 -> 18
      refine zw_aload_n 1 rfl zd_MO_isBased_18 ?_
      refine zw_iload_n 0 rfl zd_MO_isBased_19 ?_
      refine zw_callV (As := [.int (zI (scanE sDig t z))]) (rest := []) (L2 := []) (L' := [zMOd h (t) (ws) (ts) ([]) (op) (y) (r) (ct) (wh) (fd) (fr)]) (stk' := [.int (zI (bget t (scanE sDig t z)))]) (c_MO_byteAt h t ws ts ([]) op y r ct wh fd fr (scanE sDig t z) (by omega)) [0] [] rfl rfl rfl zcal_MO_byteAt zl_MO_51 zin_MO_byteAt zse_MO_byteAt 0 rfl zRv_MOd rfl (Nat.le_of_ble_eq_true rfl) (Nat.le_of_ble_eq_true rfl) (by omega) (by omega) rfl (Nat.le_of_ble_eq_true rfl) rfl rfl zd_MO_isBased_20 ?_
      have rg20 := bget_rg hby (scanE sDig t z)
      refine zw_bipush rfl zd_MO_isBased_23 ?_
      refine zw_icmp_ne 35 (by omega) (by omega) zd_MO_isBased_25 (by decide) (fun c25 => ?_) (fun c25 => ?_)
      · -- 25 -> 35
        refine zw_iconst zd_MO_isBased_35 ?_
        exact zw_zret hR rfl rfl rfl rfl (by omega) (by omega) zd_MO_isBased_36
      · -- 25 -> 28
        refine zw_iload_n 0 rfl zd_MO_isBased_28 ?_
        refine zw_iconst zd_MO_isBased_29 ?_
        refine zw_iadd zd_MO_isBased_30 ?_
        refine zw_iload_n 3 rfl zd_MO_isBased_31 ?_
        refine zw_icmp_ne 37 (by omega) (by omega) zd_MO_isBased_32 (by decide) (fun c32 => ?_) (fun c32 => ?_)
        · -- 32 -> 37
          refine zw_aload_n 1 rfl zd_MO_isBased_37 ?_
          refine zw_iload_n 2 rfl zd_MO_isBased_38 ?_
          refine zw_callV (As := [.int (zI (z))]) (rest := []) (L2 := []) (L' := [zMOd h (t) (ws) (ts) ([]) (op) (y) (r) (ct) (wh) (fd) (fr)]) (stk' := [.int (zI (satV 10 (slc t z (scanE sDig t z))))]) (c_MO_baseOf h t ws ts op y r ct wh fd fr z (by omega) (by omega)) [0] [] rfl rfl rfl zcal_MO_baseOf zl_MO_124 zin_MO_baseOf zse_MO_baseOf 0 rfl zRv_MOd rfl (Nat.le_of_ble_eq_true rfl) (Nat.le_of_ble_eq_true rfl) (by omega) (by omega) rfl (Nat.le_of_ble_eq_true rfl) rfl rfl zd_MO_isBased_39 ?_
          have bs39 := base_rg (t := t) (z := z) (by omega) (by omega) (by omega)
          refine zw_istore (lv' := [(4, .int (zI (satV 10 (slc t z (scanE sDig t z))))), (3, .int (zI (scanE sDig t z))), (0, .ref h), (1, .int (zI (z))), (2, .int (zI (q)))]) (Nat.le_of_ble_eq_true rfl) rfl zd_MO_isBased_42 ?_
          refine zw_iload 0 rfl zd_MO_isBased_44 ?_
          refine zw_iconst zd_MO_isBased_46 ?_
          refine zw_icmp_lt 57 (by omega) (by omega) zd_MO_isBased_47 (by decide) (fun c47 => ?_) (fun c47 => ?_)
          · -- 47 -> 57
            refine zw_iconst zd_MO_isBased_57 ?_
            exact zw_zret hR rfl rfl rfl rfl (by omega) (by omega) zd_MO_isBased_58
          · -- 47 -> 50
            refine zw_iload 0 rfl zd_MO_isBased_50 ?_
            refine zw_bipush rfl zd_MO_isBased_52 ?_
            refine zw_icmp_le 59 (by omega) (by omega) zd_MO_isBased_54 (by decide) (fun c54 => ?_) (fun c54 => ?_)
            · -- 54 -> 59
              refine zw_iconst zd_MO_isBased_59 ?_
              refine zw_istore (lv' := [(5, .int (zI (1))), (4, .int (zI (satV 10 (slc t z (scanE sDig t z))))), (3, .int (zI (scanE sDig t z))), (0, .ref h), (1, .int (zI (z))), (2, .int (zI (q)))]) (Nat.le_of_ble_eq_true rfl) rfl zd_MO_isBased_60 ?_
              refine zw_iload_n 2 rfl zd_MO_isBased_62 ?_
              refine zw_iconst zd_MO_isBased_63 ?_
              refine zw_iadd zd_MO_isBased_64 ?_
              refine zw_istore (lv' := [(6, .int (zI ((scanE sDig t z) + 1))), (5, .int (zI (1))), (4, .int (zI (satV 10 (slc t z (scanE sDig t z))))), (3, .int (zI (scanE sDig t z))), (0, .ref h), (1, .int (zI (z))), (2, .int (zI (q)))]) (Nat.le_of_ble_eq_true rfl) rfl zd_MO_isBased_65 ?_
              refine zw_lpick (lv' := [(0, .ref h), (1, .int (zI (z))), (2, .int (zI (q))), (3, .int (zI (scanE sDig t z))), (4, .int (zI (satV 10 (slc t z (scanE sDig t z))))), (5, .int (zI (1))), (6, .int (zI ((scanE sDig t z) + 1)))]) [4, 5, 6, 3, 2, 1, 0] rfl ?_
              refine zw_widen (k' := 0) (n' := 0) (by omega) (by omega) ?_
              have hDq : scanE sDig t z ≠ q := fun e => by rw [e] at c25; exact q3 c25
              exact lp _ 1 (scanE sDig t z + 1) ⟨by omega, by omega, Or.inl ⟨rfl, fun j a b => by omega⟩⟩ (Nat.lt_succ_self _)
            · -- 54 -> 57
              refine zw_iconst zd_MO_isBased_57 ?_
              exact zw_zret hR rfl rfl rfl rfl (by omega) (by omega) zd_MO_isBased_58
        · -- 32 -> 35
          refine zw_iconst zd_MO_isBased_35 ?_
          exact zw_zret hR rfl rfl rfl rfl (by omega) (by omega) zd_MO_isBased_36
set_option maxHeartbeats 4000000 in
set_option maxRecDepth 100000 in
theorem c_MO_based_ok (h : Nat) (t : List Int) (ws : List (Int32 × Int32 × Int32)) (ts : List (List Int)) (op : List Int) (y r ct wh : Int) (fd fr : Nat → Int32) (z q : Int) (hz : 0 ≤ z ∧ z < q ∧ q ≤ t.length) (hyes : isB t z q) (hw : ws.length < 16384) (hft : satV (satV 10 (slc t z (scanE sDig t z))) (slc t (scanE sDig t z + 1) q) < 4294967296) : zCT zy_MO_based zm_MO_based (0) (0) [.ref h, .int (zI z), .int (zI q)] [zMOd h (t) (ws) (ts) ([]) (op) (y) (r) (ct) (wh) (fd) (fr)] (some (.int (zI q))) [zMOd h (t) (ws ++ [(zI 1, zI (satV (satV 10 (slc t z (scanE sDig t z))) (slc t (scanE sDig t z + 1) q)), zI z)]) (ts) ([]) (op) (y) (r) (ct) (wh) (fd) (fr)] := by
  refine zCT.of [(0, .ref h), (1, .int (zI (z))), (2, .int (zI (q)))] rfl (by decide) rfl (fun h => by first | rfl | cases h) (Nat.le_of_ble_eq_true rfl) (fun X hR => ?_)
  refine zw_fact 0 rfl (fun G w h => zMOd_fact h) (fun mf => ?_)
  obtain ⟨⟨ht1, hby⟩, hw1, ⟨hs1, hs2, hs3⟩, ho1⟩ := mf
  obtain ⟨s1, s2, s3, s4⟩ := scanE_spec (f := sDig) (t := t) (p := z) (by omega)
  have s5 := s2 (by omega)
  obtain ⟨y1, ⟨y2, y3, y4, y5⟩, y6⟩ := id hyes
  have lp : ∀ (fuel : Nat) (v : Int) (k : Int), (((scanE sDig t z + 1 ≤ k ∧ k ≤ q) ∧ (0 ≤ v ∧ v ≤ 4294967295)) ∧ v = satV (satV 10 (slc t z (scanE sDig t z))) (slc t (scanE sDig t z + 1) k)) → (q - k).toNat < fuel → zZ X zm_MO_based (0) (0) (0) (0) [zMOd h (t) (ws) (ts) ([]) (op) (y) (r) (ct) (wh) (fd) (fr)] 18 [(0, .ref h), (1, .int (zI (z))), (2, .int (zI (q))), (3, .int (zI (satV 10 (slc t z (scanE sDig t z))))), (4, .long (zJ (v))), (6, .int (zI (k)))] [] := by
    intro fuel
    induction fuel with
    | zero => intro v k g0 hm; exact absurd hm (Nat.not_lt_zero _)
    | succ fuel ih =>
      intro v k g0 hm
      obtain ⟨⟨g1, g2⟩, g3⟩ := g0
      have zb := zmul_bd (b := satV 10 (slc t z (scanE sDig t z))) (s := v) (by omega) (by omega)
      refine zw_iload 5 rfl zd_MO_based_18 ?_
      refine zw_iload_n 2 rfl zd_MO_based_20 ?_
      refine zw_icmp_ge 64 (by omega) (by omega) zd_MO_based_21 (by decide) (fun c21 => ?_) (fun c21 => ?_)
      · -- 21 -> 64
        obtain rfl : k = q := by omega
        refine zw_aload_n 0 rfl zd_MO_based_64 ?_
        refine zw_iconst zd_MO_based_65 ?_
        refine zw_lload 4 rfl zd_MO_based_66 ?_
        refine zw_l2i zd_MO_based_68 ?_
        refine zw_iload_n 1 rfl zd_MO_based_69 ?_
        refine zw_callV (As := [.int (zI (1)), .int (zI (v)), .int (zI (z))]) (rest := []) (L2 := []) (L' := [zMOd h (t) (ws ++ [(zI 1, (zI (v)), (zI (z)))]) (ts) ([]) (op) (y) (r) (ct) (wh) (fd) (fr)]) (stk' := []) (c_MO_word h t ws ts ([]) op y r ct wh fd fr 1 (zI (v)) (zI (z)) (by omega) (by omega)) [0] [] rfl rfl rfl zcal_MO_word zl_MO_110 zin_MO_word zse_MO_word 0 rfl zRv_MOd rfl (Nat.le_of_ble_eq_true rfl) (Nat.le_of_ble_eq_true rfl) (by omega) (by omega) rfl (Nat.le_of_ble_eq_true rfl) rfl rfl zd_MO_based_70 ?_
        refine zw_iload_n 2 rfl zd_MO_based_73 ?_
        exact zw_iret hR (rfl) (by rw [← g3]) rfl (by omega) (by omega) zd_MO_based_74
      · -- 21 -> 24
        refine zw_iload_n 3 rfl zd_MO_based_24 ?_
        refine zw_i2l (by omega) zd_MO_based_25 ?_
        refine zw_lload 4 rfl zd_MO_based_26 ?_
        refine zw_lmul zd_MO_based_28 ?_
        have hbk := y6 k (by omega) (by omega)
        have dm := digM_rg (bget t k)
        have es := satV_snoc (satV 10 (slc t z (scanE sDig t z))) (slc t (scanE sDig t z + 1) k) (bget t k)
        rw [← slc_snoc (by omega) (by omega) (by omega), ← g3] at es
        refine zw_aload_n 0 rfl zd_MO_based_29 ?_
        refine zw_iload 5 rfl zd_MO_based_30 ?_
        refine zw_callV (As := [.int (zI (k))]) (rest := [.long (zJ ((satV 10 (slc t z (scanE sDig t z))) * v))]) (L2 := []) (L' := [zMOd h (t) (ws) (ts) ([]) (op) (y) (r) (ct) (wh) (fd) (fr)]) (stk' := [.int (zI (bget t k)), .long (zJ ((satV 10 (slc t z (scanE sDig t z))) * v))]) (c_MO_byteAt h t ws ts ([]) op y r ct wh fd fr k (by omega)) [0] [] rfl rfl rfl zcal_MO_byteAt zl_MO_51 zin_MO_byteAt zse_MO_byteAt 0 rfl zRv_MOd rfl (Nat.le_of_ble_eq_true rfl) (Nat.le_of_ble_eq_true rfl) (by omega) (by omega) rfl (Nat.le_of_ble_eq_true rfl) rfl rfl zd_MO_based_32 ?_
        have rg32 := bget_rg hby k
        refine zw_callS (a := 0) (As := [.int (zI (bget t k))]) (rest := [.long (zJ ((satV 10 (slc t z (scanE sDig t z))) * v))]) (L2 := [zMOd h (t) (ws) (ts) ([]) (op) (y) (r) (ct) (wh) (fd) (fr)]) (L' := [zMOd h (t) (ws) (ts) ([]) (op) (y) (r) (ct) (wh) (fd) (fr)]) (stk' := [.int (zI (digM (bget t k))), .long (zJ ((satV 10 (slc t z (scanE sDig t z))) * v))]) (c_MO_digitOf (bget t k) (by omega)) [] [0] rfl rfl rfl zcal_MO_digitOf zl_MO_127 zst_MO_digitOf (Nat.le_of_ble_eq_true rfl) (Nat.le_of_ble_eq_true rfl) (by omega) (by omega) rfl (Nat.le_of_ble_eq_true rfl) rfl rfl zd_MO_based_35 ?_
        have rb35 := digM_rg (bget t k)
        refine zw_i2l (by omega) zd_MO_based_38 ?_
        refine zw_ladd zd_MO_based_39 ?_
        refine zw_lstore (lv' := [(4, .long (zJ (((satV 10 (slc t z (scanE sDig t z))) * v) + (digM (bget t k))))), (0, .ref h), (1, .int (zI (z))), (2, .int (zI (q))), (3, .int (zI (satV 10 (slc t z (scanE sDig t z))))), (6, .int (zI (k)))]) (Nat.le_of_ble_eq_true rfl) rfl zd_MO_based_40 ?_
        refine zw_lload 0 rfl zd_MO_based_42 ?_
        refine zw_ldc2 zk_MO_130 4294967295 rfl zd_MO_based_44 ?_
        refine zw_lcmpR zd_MO_based_47 ?_
        refine zw_lif_le 58 (by omega) (by omega) zd_MO_based_48 (by decide) (fun c48 => ?_) (fun c48 => ?_)
        · -- 48 -> 58
          refine zw_iinc (lv' := [(6, .int (zI (k + 1))), (4, .long (zJ (((satV 10 (slc t z (scanE sDig t z))) * v) + (digM (bget t k))))), (0, .ref h), (1, .int (zI (z))), (2, .int (zI (q))), (3, .int (zI (satV 10 (slc t z (scanE sDig t z)))))]) 5 rfl (Nat.le_of_ble_eq_true rfl) rfl zd_MO_based_58 ?_
          refine zw_goto 18 zd_MO_based_61 (by decide) ?_
          refine zw_lpick (lv' := [(0, .ref h), (1, .int (zI (z))), (2, .int (zI (q))), (3, .int (zI (satV 10 (slc t z (scanE sDig t z))))), (4, .long (zJ (((satV 10 (slc t z (scanE sDig t z))) * v) + (digM (bget t k))))), (6, .int (zI (k + 1)))]) [2, 3, 4, 5, 1, 0] rfl ?_
          refine zw_widen (k' := 0) (n' := 0) (by omega) (by omega) ?_
          exact ih (((satV 10 (slc t z (scanE sDig t z))) * v) + (digM (bget t k))) (k + 1) ⟨by omega, by omega⟩ (by omega)
        · -- 48 -> 51
          have stk := satV_stuck (b := satV 10 (slc t z (scanE sDig t z))) (by omega) (slc t (k + 1) q) (slc t (scanE sDig t z + 1) (k + 1)) (fun c hc => by obtain ⟨j, k1, k2, k3, rfl⟩ := slc_mem (by omega) hc; exact (y6 j (by omega) k2).1) (by omega)
          rw [← slc_split (by omega) (by omega) (by omega)] at stk
          exfalso; omega
  refine zw_aload_n 0 rfl zd_MO_based_0 ?_
  refine zw_iload_n 1 rfl zd_MO_based_1 ?_
  refine zw_callV (As := [.int (zI (z))]) (rest := []) (L2 := []) (L' := [zMOd h (t) (ws) (ts) ([]) (op) (y) (r) (ct) (wh) (fd) (fr)]) (stk' := [.int (zI (satV 10 (slc t z (scanE sDig t z))))]) (c_MO_baseOf h t ws ts op y r ct wh fd fr z (by omega) (by omega)) [0] [] rfl rfl rfl zcal_MO_baseOf zl_MO_124 zin_MO_baseOf zse_MO_baseOf 0 rfl zRv_MOd rfl (Nat.le_of_ble_eq_true rfl) (Nat.le_of_ble_eq_true rfl) (by omega) (by omega) rfl (Nat.le_of_ble_eq_true rfl) rfl rfl zd_MO_based_2 ?_
  have bs2 := base_rg (t := t) (z := z) (by omega) (by omega) (by omega)
  refine zw_istore_n (lv' := [(3, .int (zI (satV 10 (slc t z (scanE sDig t z))))), (0, .ref h), (1, .int (zI (z))), (2, .int (zI (q)))]) (Nat.le_of_ble_eq_true rfl) rfl zd_MO_based_5 ?_
  refine zw_lconst (a := 0) rfl zd_MO_based_6 ?_
  refine zw_lstore (lv' := [(4, .long (zJ (0))), (3, .int (zI (satV 10 (slc t z (scanE sDig t z))))), (0, .ref h), (1, .int (zI (z))), (2, .int (zI (q)))]) (Nat.le_of_ble_eq_true rfl) rfl zd_MO_based_7 ?_
  refine zw_aload_n 2 rfl zd_MO_based_9 ?_
  refine zw_iload_n 3 rfl zd_MO_based_10 ?_
  refine zw_callV (As := [.int (zI (z))]) (rest := []) (L2 := []) (L' := [zMOd h (t) (ws) (ts) ([]) (op) (y) (r) (ct) (wh) (fd) (fr)]) (stk' := [.int (zI (scanE sDig t z))]) (c_MO_behindDigits h t ws ts ([]) op y r ct wh fd fr z (by omega) (by omega)) [0] [] rfl rfl rfl zcal_MO_behindDigits zl_MO_87 zin_MO_behindDigits zse_MO_behindDigits 0 rfl zRv_MOd rfl (Nat.le_of_ble_eq_true rfl) (Nat.le_of_ble_eq_true rfl) (by omega) (by omega) rfl (Nat.le_of_ble_eq_true rfl) rfl rfl zd_MO_based_11 ?_
  have sd11 := scanE_spec (f := sDig) (t := t) (p := z) (by omega)
  have se11 := scanE_ub (f := sDig) (t := t) (p := z) (by omega)
  refine zw_iconst zd_MO_based_14 ?_
  refine zw_iadd zd_MO_based_15 ?_
  refine zw_istore (lv' := [(6, .int (zI ((scanE sDig t z) + 1))), (4, .long (zJ (0))), (3, .int (zI (satV 10 (slc t z (scanE sDig t z))))), (0, .ref h), (1, .int (zI (z))), (2, .int (zI (q)))]) (Nat.le_of_ble_eq_true rfl) rfl zd_MO_based_16 ?_
  refine zw_lpick (lv' := [(0, .ref h), (1, .int (zI (z))), (2, .int (zI (q))), (3, .int (zI (satV 10 (slc t z (scanE sDig t z))))), (4, .long (zJ (0))), (6, .int (zI ((scanE sDig t z) + 1)))]) [3, 4, 5, 2, 1, 0] rfl ?_
  refine zw_widen (k' := 0) (n' := 0) (by omega) (by omega) ?_
  exact lp _ 0 (scanE sDig t z + 1) ⟨by omega, by rw [slc_nil]; rfl⟩ (Nat.lt_succ_self _)
set_option maxHeartbeats 4000000 in
set_option maxRecDepth 100000 in
theorem c_MO_based_bad (h : Nat) (t : List Int) (ws : List (Int32 × Int32 × Int32)) (ts : List (List Int)) (op : List Int) (y r ct wh : Int) (fd fr : Nat → Int32) (z q : Int) (hz : 0 ≤ z ∧ z < q ∧ q ≤ t.length) (hyes : isB t z q) (hw : ws.length < 16384) (hft : ¬ satV (satV 10 (slc t z (scanE sDig t z))) (slc t (scanE sDig t z + 1) q) < 4294967296) : zCT zy_MO_based zm_MO_based (0) (0) [.ref h, .int (zI z), .int (zI q)] [zMOd h (t) (ws) (ts) ([]) (op) (y) (r) (ct) (wh) (fd) (fr)] (some (.int (zI (-1)))) [zMOd h (t) (ws) (ts) ([]) (op) (5) (z) (ct) (wh) (fd) (fr)] := by
  refine zCT.of [(0, .ref h), (1, .int (zI (z))), (2, .int (zI (q)))] rfl (by decide) rfl (fun h => by first | rfl | cases h) (Nat.le_of_ble_eq_true rfl) (fun X hR => ?_)
  refine zw_fact 0 rfl (fun G w h => zMOd_fact h) (fun mf => ?_)
  obtain ⟨⟨ht1, hby⟩, hw1, ⟨hs1, hs2, hs3⟩, ho1⟩ := mf
  obtain ⟨s1, s2, s3, s4⟩ := scanE_spec (f := sDig) (t := t) (p := z) (by omega)
  have s5 := s2 (by omega)
  obtain ⟨y1, ⟨y2, y3, y4, y5⟩, y6⟩ := id hyes
  have lp : ∀ (fuel : Nat) (v : Int) (k : Int), (((scanE sDig t z + 1 ≤ k ∧ k ≤ q) ∧ (0 ≤ v ∧ v ≤ 4294967295)) ∧ v = satV (satV 10 (slc t z (scanE sDig t z))) (slc t (scanE sDig t z + 1) k)) → (q - k).toNat < fuel → zZ X zm_MO_based (0) (0) (0) (0) [zMOd h (t) (ws) (ts) ([]) (op) (y) (r) (ct) (wh) (fd) (fr)] 18 [(0, .ref h), (1, .int (zI (z))), (2, .int (zI (q))), (3, .int (zI (satV 10 (slc t z (scanE sDig t z))))), (4, .long (zJ (v))), (6, .int (zI (k)))] [] := by
    intro fuel
    induction fuel with
    | zero => intro v k g0 hm; exact absurd hm (Nat.not_lt_zero _)
    | succ fuel ih =>
      intro v k g0 hm
      obtain ⟨⟨g1, g2⟩, g3⟩ := g0
      have zb := zmul_bd (b := satV 10 (slc t z (scanE sDig t z))) (s := v) (by omega) (by omega)
      refine zw_iload 5 rfl zd_MO_based_18 ?_
      refine zw_iload_n 2 rfl zd_MO_based_20 ?_
      refine zw_icmp_ge 64 (by omega) (by omega) zd_MO_based_21 (by decide) (fun c21 => ?_) (fun c21 => ?_)
      · -- 21 -> 64
        obtain rfl : k = q := by omega
        exfalso; omega
      · -- 21 -> 24
        refine zw_iload_n 3 rfl zd_MO_based_24 ?_
        refine zw_i2l (by omega) zd_MO_based_25 ?_
        refine zw_lload 4 rfl zd_MO_based_26 ?_
        refine zw_lmul zd_MO_based_28 ?_
        have hbk := y6 k (by omega) (by omega)
        have dm := digM_rg (bget t k)
        have es := satV_snoc (satV 10 (slc t z (scanE sDig t z))) (slc t (scanE sDig t z + 1) k) (bget t k)
        rw [← slc_snoc (by omega) (by omega) (by omega), ← g3] at es
        refine zw_aload_n 0 rfl zd_MO_based_29 ?_
        refine zw_iload 5 rfl zd_MO_based_30 ?_
        refine zw_callV (As := [.int (zI (k))]) (rest := [.long (zJ ((satV 10 (slc t z (scanE sDig t z))) * v))]) (L2 := []) (L' := [zMOd h (t) (ws) (ts) ([]) (op) (y) (r) (ct) (wh) (fd) (fr)]) (stk' := [.int (zI (bget t k)), .long (zJ ((satV 10 (slc t z (scanE sDig t z))) * v))]) (c_MO_byteAt h t ws ts ([]) op y r ct wh fd fr k (by omega)) [0] [] rfl rfl rfl zcal_MO_byteAt zl_MO_51 zin_MO_byteAt zse_MO_byteAt 0 rfl zRv_MOd rfl (Nat.le_of_ble_eq_true rfl) (Nat.le_of_ble_eq_true rfl) (by omega) (by omega) rfl (Nat.le_of_ble_eq_true rfl) rfl rfl zd_MO_based_32 ?_
        have rg32 := bget_rg hby k
        refine zw_callS (a := 0) (As := [.int (zI (bget t k))]) (rest := [.long (zJ ((satV 10 (slc t z (scanE sDig t z))) * v))]) (L2 := [zMOd h (t) (ws) (ts) ([]) (op) (y) (r) (ct) (wh) (fd) (fr)]) (L' := [zMOd h (t) (ws) (ts) ([]) (op) (y) (r) (ct) (wh) (fd) (fr)]) (stk' := [.int (zI (digM (bget t k))), .long (zJ ((satV 10 (slc t z (scanE sDig t z))) * v))]) (c_MO_digitOf (bget t k) (by omega)) [] [0] rfl rfl rfl zcal_MO_digitOf zl_MO_127 zst_MO_digitOf (Nat.le_of_ble_eq_true rfl) (Nat.le_of_ble_eq_true rfl) (by omega) (by omega) rfl (Nat.le_of_ble_eq_true rfl) rfl rfl zd_MO_based_35 ?_
        have rb35 := digM_rg (bget t k)
        refine zw_i2l (by omega) zd_MO_based_38 ?_
        refine zw_ladd zd_MO_based_39 ?_
        refine zw_lstore (lv' := [(4, .long (zJ (((satV 10 (slc t z (scanE sDig t z))) * v) + (digM (bget t k))))), (0, .ref h), (1, .int (zI (z))), (2, .int (zI (q))), (3, .int (zI (satV 10 (slc t z (scanE sDig t z))))), (6, .int (zI (k)))]) (Nat.le_of_ble_eq_true rfl) rfl zd_MO_based_40 ?_
        refine zw_lload 0 rfl zd_MO_based_42 ?_
        refine zw_ldc2 zk_MO_130 4294967295 rfl zd_MO_based_44 ?_
        refine zw_lcmpR zd_MO_based_47 ?_
        refine zw_lif_le 58 (by omega) (by omega) zd_MO_based_48 (by decide) (fun c48 => ?_) (fun c48 => ?_)
        · -- 48 -> 58
          refine zw_iinc (lv' := [(6, .int (zI (k + 1))), (4, .long (zJ (((satV 10 (slc t z (scanE sDig t z))) * v) + (digM (bget t k))))), (0, .ref h), (1, .int (zI (z))), (2, .int (zI (q))), (3, .int (zI (satV 10 (slc t z (scanE sDig t z)))))]) 5 rfl (Nat.le_of_ble_eq_true rfl) rfl zd_MO_based_58 ?_
          refine zw_goto 18 zd_MO_based_61 (by decide) ?_
          refine zw_lpick (lv' := [(0, .ref h), (1, .int (zI (z))), (2, .int (zI (q))), (3, .int (zI (satV 10 (slc t z (scanE sDig t z))))), (4, .long (zJ (((satV 10 (slc t z (scanE sDig t z))) * v) + (digM (bget t k))))), (6, .int (zI (k + 1)))]) [2, 3, 4, 5, 1, 0] rfl ?_
          refine zw_widen (k' := 0) (n' := 0) (by omega) (by omega) ?_
          exact ih (((satV 10 (slc t z (scanE sDig t z))) * v) + (digM (bget t k))) (k + 1) ⟨by omega, by omega⟩ (by omega)
        · -- 48 -> 51
          have stk := satV_stuck (b := satV 10 (slc t z (scanE sDig t z))) (by omega) (slc t (k + 1) q) (slc t (scanE sDig t z + 1) (k + 1)) (fun c hc => by obtain ⟨j, k1, k2, k3, rfl⟩ := slc_mem (by omega) hc; exact (y6 j (by omega) k2).1) (by omega)
          rw [← slc_split (by omega) (by omega) (by omega)] at stk
          refine zw_aload_n 1 rfl zd_MO_based_51 ?_
          refine zw_iconst zd_MO_based_52 ?_
          refine zw_iload_n 2 rfl zd_MO_based_53 ?_
          refine zw_callV (As := [.int (zI (5)), .int (zI (z))]) (rest := []) (L2 := []) (L' := [zMOd h (t) (ws) (ts) ([]) (op) (5) (z) (ct) (wh) (fd) (fr)]) (stk' := [.int (zI (-1))]) (c_MO_fail h t ws ts ([]) op y r ct wh fd fr 5 z) [0] [] rfl rfl rfl zcal_MO_fail zl_MO_80 zin_MO_fail zse_MO_fail 0 rfl zRv_MOd rfl (Nat.le_of_ble_eq_true rfl) (Nat.le_of_ble_eq_true rfl) (by omega) (by omega) rfl (Nat.le_of_ble_eq_true rfl) rfl rfl zd_MO_based_54 ?_
          exact zw_iret hR (rfl) (rfl) rfl (by omega) (by omega) zd_MO_based_57
  refine zw_aload_n 0 rfl zd_MO_based_0 ?_
  refine zw_iload_n 1 rfl zd_MO_based_1 ?_
  refine zw_callV (As := [.int (zI (z))]) (rest := []) (L2 := []) (L' := [zMOd h (t) (ws) (ts) ([]) (op) (y) (r) (ct) (wh) (fd) (fr)]) (stk' := [.int (zI (satV 10 (slc t z (scanE sDig t z))))]) (c_MO_baseOf h t ws ts op y r ct wh fd fr z (by omega) (by omega)) [0] [] rfl rfl rfl zcal_MO_baseOf zl_MO_124 zin_MO_baseOf zse_MO_baseOf 0 rfl zRv_MOd rfl (Nat.le_of_ble_eq_true rfl) (Nat.le_of_ble_eq_true rfl) (by omega) (by omega) rfl (Nat.le_of_ble_eq_true rfl) rfl rfl zd_MO_based_2 ?_
  have bs2 := base_rg (t := t) (z := z) (by omega) (by omega) (by omega)
  refine zw_istore_n (lv' := [(3, .int (zI (satV 10 (slc t z (scanE sDig t z))))), (0, .ref h), (1, .int (zI (z))), (2, .int (zI (q)))]) (Nat.le_of_ble_eq_true rfl) rfl zd_MO_based_5 ?_
  refine zw_lconst (a := 0) rfl zd_MO_based_6 ?_
  refine zw_lstore (lv' := [(4, .long (zJ (0))), (3, .int (zI (satV 10 (slc t z (scanE sDig t z))))), (0, .ref h), (1, .int (zI (z))), (2, .int (zI (q)))]) (Nat.le_of_ble_eq_true rfl) rfl zd_MO_based_7 ?_
  refine zw_aload_n 2 rfl zd_MO_based_9 ?_
  refine zw_iload_n 3 rfl zd_MO_based_10 ?_
  refine zw_callV (As := [.int (zI (z))]) (rest := []) (L2 := []) (L' := [zMOd h (t) (ws) (ts) ([]) (op) (y) (r) (ct) (wh) (fd) (fr)]) (stk' := [.int (zI (scanE sDig t z))]) (c_MO_behindDigits h t ws ts ([]) op y r ct wh fd fr z (by omega) (by omega)) [0] [] rfl rfl rfl zcal_MO_behindDigits zl_MO_87 zin_MO_behindDigits zse_MO_behindDigits 0 rfl zRv_MOd rfl (Nat.le_of_ble_eq_true rfl) (Nat.le_of_ble_eq_true rfl) (by omega) (by omega) rfl (Nat.le_of_ble_eq_true rfl) rfl rfl zd_MO_based_11 ?_
  have sd11 := scanE_spec (f := sDig) (t := t) (p := z) (by omega)
  have se11 := scanE_ub (f := sDig) (t := t) (p := z) (by omega)
  refine zw_iconst zd_MO_based_14 ?_
  refine zw_iadd zd_MO_based_15 ?_
  refine zw_istore (lv' := [(6, .int (zI ((scanE sDig t z) + 1))), (4, .long (zJ (0))), (3, .int (zI (satV 10 (slc t z (scanE sDig t z))))), (0, .ref h), (1, .int (zI (z))), (2, .int (zI (q)))]) (Nat.le_of_ble_eq_true rfl) rfl zd_MO_based_16 ?_
  refine zw_lpick (lv' := [(0, .ref h), (1, .int (zI (z))), (2, .int (zI (q))), (3, .int (zI (satV 10 (slc t z (scanE sDig t z))))), (4, .long (zJ (0))), (6, .int (zI ((scanE sDig t z) + 1)))]) [3, 4, 5, 2, 1, 0] rfl ?_
  refine zw_widen (k' := 0) (n' := 0) (by omega) (by omega) ?_
  exact lp _ 0 (scanE sDig t z + 1) ⟨by omega, by rw [slc_nil]; rfl⟩ (Nat.lt_succ_self _)
set_option maxHeartbeats 4000000 in
set_option maxRecDepth 100000 in
theorem c_MO_isReal_yes (h : Nat) (t : List Int) (ws : List (Int32 × Int32 × Int32)) (ts : List (List Int)) (op : List Int) (y r ct wh : Int) (fd fr : Nat → Int32) (z q : Int) (hz : 0 ≤ z ∧ z ≤ q ∧ q ≤ t.length) (q1 : sDig (bget t q) = false) (q4 : bget t q ≠ 46) (hyes : isRl t z q) : zCT zy_MO_isReal zm_MO_isReal (0) (0) [.ref h, .int (zI z), .int (zI q)] [zMOd h (t) (ws) (ts) ([]) (op) (y) (r) (ct) (wh) (fd) (fr)] (some (.int (zI 1))) [zMOd h (t) (ws) (ts) ([]) (op) (y) (r) (ct) (wh) (fd) (fr)] := by
  refine zCT.of [(0, .ref h), (1, .int (zI (z))), (2, .int (zI (q)))] rfl (by decide) rfl (fun h => by first | rfl | cases h) (Nat.le_of_ble_eq_true rfl) (fun X hR => ?_)
  refine zw_fact 0 rfl (fun G w h => zMOd_fact h) (fun mf => ?_)
  obtain ⟨⟨ht1, hby⟩, hw1, ⟨hs1, hs2, hs3⟩, ho1⟩ := mf
  obtain ⟨s1, s2, s3⟩ := scanD_rg (t := t) (f := z) (e := q) (by omega) q1
  obtain ⟨hF1, hF2⟩ : (bget t (scanE sDig t z) = 46 → frE t (scanE sDig t z) = scanE sDig t (scanE sDig t z + 1) ∧ frD t (scanE sDig t z) (scanE sDig t z - z) = scanE sDig t z - z + (scanE sDig t (scanE sDig t z + 1) - (scanE sDig t z + 1))) ∧ (bget t (scanE sDig t z) ≠ 46 → frE t (scanE sDig t z) = scanE sDig t z ∧ frD t (scanE sDig t z) (scanE sDig t z - z) = scanE sDig t z - z) := ⟨fun e => by unfold frE frD; rw [if_pos e, if_pos e]; exact ⟨rfl, rfl⟩, fun e => by unfold frE frD; rw [if_neg e, if_neg e]; exact ⟨rfl, by omega⟩⟩
  obtain ⟨y1, y2⟩ := id hyes
  refine zw_aload_n 0 rfl zd_MO_isReal_0 ?_
  refine zw_iload_n 1 rfl zd_MO_isReal_1 ?_
  refine zw_callV (As := [.int (zI (z))]) (rest := []) (L2 := []) (L' := [zMOd h (t) (ws) (ts) ([]) (op) (y) (r) (ct) (wh) (fd) (fr)]) (stk' := [.int (zI (scanE sDig t z))]) (c_MO_behindDigits h t ws ts ([]) op y r ct wh fd fr z (by omega) (by omega)) [0] [] rfl rfl rfl zcal_MO_behindDigits zl_MO_87 zin_MO_behindDigits zse_MO_behindDigits 0 rfl zRv_MOd rfl (Nat.le_of_ble_eq_true rfl) (Nat.le_of_ble_eq_true rfl) (by omega) (by omega) rfl (Nat.le_of_ble_eq_true rfl) rfl rfl zd_MO_isReal_2 ?_
  have sd2 := scanE_spec (f := sDig) (t := t) (p := z) (by omega)
  have se2 := scanE_ub (f := sDig) (t := t) (p := z) (by omega)
  refine zw_istore_n (lv' := [(3, .int (zI (scanE sDig t z))), (0, .ref h), (1, .int (zI (z))), (2, .int (zI (q)))]) (Nat.le_of_ble_eq_true rfl) rfl zd_MO_isReal_5 ?_
  refine zw_aload_n 1 rfl zd_MO_isReal_6 ?_
  refine zw_iload_n 0 rfl zd_MO_isReal_7 ?_
  refine zw_callV (As := [.int (zI (scanE sDig t z))]) (rest := []) (L2 := []) (L' := [zMOd h (t) (ws) (ts) ([]) (op) (y) (r) (ct) (wh) (fd) (fr)]) (stk' := [.int (zI (bget t (scanE sDig t z)))]) (c_MO_byteAt h t ws ts ([]) op y r ct wh fd fr (scanE sDig t z) (by omega)) [0] [] rfl rfl rfl zcal_MO_byteAt zl_MO_51 zin_MO_byteAt zse_MO_byteAt 0 rfl zRv_MOd rfl (Nat.le_of_ble_eq_true rfl) (Nat.le_of_ble_eq_true rfl) (by omega) (by omega) rfl (Nat.le_of_ble_eq_true rfl) rfl rfl zd_MO_isReal_8 ?_
  have rg8 := bget_rg hby (scanE sDig t z)
  refine zw_bipush rfl zd_MO_isReal_11 ?_
  refine zw_icmp_ne 20 (by omega) (by omega) zd_MO_isReal_13 (by decide) (fun c13 => ?_) (fun c13 => ?_)
  · -- 13 -> 20
    refine zw_iconst zd_MO_isReal_20 ?_
    refine zw_istore (lv' := [(4, .int (zI (0))), (3, .int (zI (scanE sDig t z))), (0, .ref h), (1, .int (zI (z))), (2, .int (zI (q)))]) (Nat.le_of_ble_eq_true rfl) rfl zd_MO_isReal_21 ?_
    refine zw_iload 0 rfl zd_MO_isReal_23 ?_
    refine zw_if_eq 38 (by omega) zd_MO_isReal_25 (by decide) (fun c25 => ?_) (fun c25 => ?_)
    · -- 25 -> 38
      refine zw_iload_n 1 rfl zd_MO_isReal_38 ?_
      refine zw_istore (lv' := [(5, .int (zI (scanE sDig t z))), (4, .int (zI (0))), (3, .int (zI (scanE sDig t z))), (0, .ref h), (1, .int (zI (z))), (2, .int (zI (q)))]) (Nat.le_of_ble_eq_true rfl) rfl zd_MO_isReal_39 ?_
      refine zw_iload 0 rfl zd_MO_isReal_41 ?_
      refine zw_iload_n 4 rfl zd_MO_isReal_43 ?_
      refine zw_isub zd_MO_isReal_44 ?_
      refine zw_iload 1 rfl zd_MO_isReal_45 ?_
      refine zw_if_eq 54 (by omega) zd_MO_isReal_47 (by decide) (fun c47 => ?_) (fun c47 => ?_)
      · -- 47 -> 54
        refine zw_iconst zd_MO_isReal_54 ?_
        refine zw_icmp_ne 60 (by omega) (by omega) zd_MO_isReal_55 (by decide) (fun c55 => ?_) (fun c55 => ?_)
        · -- 55 -> 60
          refine zw_iload 0 rfl zd_MO_isReal_60 ?_
          refine zw_iload_n 5 rfl zd_MO_isReal_62 ?_
          refine zw_icmp_ne 69 (by omega) (by omega) zd_MO_isReal_63 (by decide) (fun c63 => ?_) (fun c63 => ?_)
          · -- 63 -> 69
            refine zw_aload_n 3 rfl zd_MO_isReal_69 ?_
            refine zw_iload 0 rfl zd_MO_isReal_70 ?_
            refine zw_callV (As := [.int (zI (scanE sDig t z))]) (rest := []) (L2 := []) (L' := [zMOd h (t) (ws) (ts) ([]) (op) (y) (r) (ct) (wh) (fd) (fr)]) (stk' := [.int (zI (bget t (scanE sDig t z)))]) (c_MO_byteAt h t ws ts ([]) op y r ct wh fd fr (scanE sDig t z) (by omega)) [0] [] rfl rfl rfl zcal_MO_byteAt zl_MO_51 zin_MO_byteAt zse_MO_byteAt 0 rfl zRv_MOd rfl (Nat.le_of_ble_eq_true rfl) (Nat.le_of_ble_eq_true rfl) (by omega) (by omega) rfl (Nat.le_of_ble_eq_true rfl) rfl rfl zd_MO_isReal_72 ?_
            have rg72 := bget_rg hby (scanE sDig t z)
            refine zw_istore (lv' := [(6, .int (zI (bget t (scanE sDig t z)))), (5, .int (zI (scanE sDig t z))), (4, .int (zI (0))), (3, .int (zI (scanE sDig t z))), (0, .ref h), (1, .int (zI (z))), (2, .int (zI (q)))]) (Nat.le_of_ble_eq_true rfl) rfl zd_MO_isReal_75 ?_
            refine zw_iload 0 rfl zd_MO_isReal_77 ?_
            refine zw_bipush rfl zd_MO_isReal_79 ?_
            refine zw_icmp_eq 93 (by omega) (by omega) zd_MO_isReal_81 (by decide) (fun c81 => ?_) (fun c81 => ?_)
            · -- 81 -> 93
              refine zw_aload_n 4 rfl zd_MO_isReal_93 ?_
              refine zw_iload 1 rfl zd_MO_isReal_94 ?_
              refine zw_iconst zd_MO_isReal_96 ?_
              refine zw_iadd zd_MO_isReal_97 ?_
              refine zw_callV (As := [.int (zI ((scanE sDig t z) + 1))]) (rest := []) (L2 := []) (L' := [zMOd h (t) (ws) (ts) ([]) (op) (y) (r) (ct) (wh) (fd) (fr)]) (stk' := [.int (zI (bget t ((scanE sDig t z) + 1)))]) (c_MO_byteAt h t ws ts ([]) op y r ct wh fd fr ((scanE sDig t z) + 1) (by omega)) [0] [] rfl rfl rfl zcal_MO_byteAt zl_MO_51 zin_MO_byteAt zse_MO_byteAt 0 rfl zRv_MOd rfl (Nat.le_of_ble_eq_true rfl) (Nat.le_of_ble_eq_true rfl) (by omega) (by omega) rfl (Nat.le_of_ble_eq_true rfl) rfl rfl zd_MO_isReal_98 ?_
              have rg98 := bget_rg hby ((scanE sDig t z) + 1)
              refine zw_callS (a := 0) (As := [.int (zI (bget t ((scanE sDig t z) + 1)))]) (rest := []) (L2 := [zMOd h (t) (ws) (ts) ([]) (op) (y) (r) (ct) (wh) (fd) (fr)]) (L' := [zMOd h (t) (ws) (ts) ([]) (op) (y) (r) (ct) (wh) (fd) (fr)]) (stk' := [.int (zI (bI (sSign (bget t ((scanE sDig t z) + 1)))))]) (c_MO_isSign (bget t ((scanE sDig t z) + 1)) (by omega)) [] [0] rfl rfl rfl zcal_MO_isSign zl_MO_84 zst_MO_isSign (Nat.le_of_ble_eq_true rfl) (Nat.le_of_ble_eq_true rfl) (by omega) (by omega) rfl (Nat.le_of_ble_eq_true rfl) rfl rfl zd_MO_isReal_101 ?_
              have rb101 := bI_rg (sSign (bget t ((scanE sDig t z) + 1)))
              refine zw_if_eq 114 (by omega) zd_MO_isReal_104 (by decide) (fun c104 => ?_) (fun c104 => ?_)
              · -- 104 -> 114
                refine zw_iload 1 rfl zd_MO_isReal_114 ?_
                refine zw_iconst zd_MO_isReal_116 ?_
                refine zw_iadd zd_MO_isReal_117 ?_
                refine zw_istore (lv' := [(7, .int (zI ((scanE sDig t z) + 1))), (6, .int (zI (bget t (scanE sDig t z)))), (5, .int (zI (scanE sDig t z))), (4, .int (zI (0))), (3, .int (zI (scanE sDig t z))), (0, .ref h), (1, .int (zI (z))), (2, .int (zI (q)))]) (Nat.le_of_ble_eq_true rfl) rfl zd_MO_isReal_118 ?_
                refine zw_aload_n 5 rfl zd_MO_isReal_120 ?_
                refine zw_iload 0 rfl zd_MO_isReal_121 ?_
                refine zw_callV (As := [.int (zI ((scanE sDig t z) + 1))]) (rest := []) (L2 := []) (L' := [zMOd h (t) (ws) (ts) ([]) (op) (y) (r) (ct) (wh) (fd) (fr)]) (stk' := [.int (zI (scanE sDig t ((scanE sDig t z) + 1)))]) (c_MO_behindDigits h t ws ts ([]) op y r ct wh fd fr ((scanE sDig t z) + 1) (by omega) (by omega)) [0] [] rfl rfl rfl zcal_MO_behindDigits zl_MO_87 zin_MO_behindDigits zse_MO_behindDigits 0 rfl zRv_MOd rfl (Nat.le_of_ble_eq_true rfl) (Nat.le_of_ble_eq_true rfl) (by omega) (by omega) rfl (Nat.le_of_ble_eq_true rfl) rfl rfl zd_MO_isReal_123 ?_
                have sd123 := scanE_spec (f := sDig) (t := t) (p := (scanE sDig t z) + 1) (by omega)
                have se123 := scanE_ub (f := sDig) (t := t) (p := (scanE sDig t z) + 1) (by omega)
                refine zw_iload_n 7 rfl zd_MO_isReal_126 ?_
                refine zw_icmp_ne 140 (by omega) (by omega) zd_MO_isReal_127 (by decide) (fun c127 => ?_) (fun c127 => ?_)
                · -- 127 -> 140
                  refine zw_iconst zd_MO_isReal_140 ?_
                  have hF3 := hF2 (by omega)
                  have hX : exF t (scanE sDig t z) = scanE sDig t z + 1 := by unfold exF; rw [if_neg (by rw [zbI0 (b := sSign (bget t (scanE sDig t z + 1))) (by omega)]; decide)]
                  exfalso
                  rcases y2 with ⟨y3, y4⟩ | ⟨y3, y4, y5⟩
                  · omega
                  · rw [hF3.1, hX] at y4 y5; omega
                · -- 127 -> 130
                  refine zw_iload 0 rfl zd_MO_isReal_130 ?_
                  refine zw_iload_n 7 rfl zd_MO_isReal_132 ?_
                  refine zw_icmp_ge 140 (by omega) (by omega) zd_MO_isReal_133 (by decide) (fun c133 => ?_) (fun c133 => ?_)
                  · -- 133 -> 140
                    refine zw_iconst zd_MO_isReal_140 ?_
                    have hF3 := hF2 (by omega)
                    have hX : exF t (scanE sDig t z) = scanE sDig t z + 1 := by unfold exF; rw [if_neg (by rw [zbI0 (b := sSign (bget t (scanE sDig t z + 1))) (by omega)]; decide)]
                    exfalso
                    rcases y2 with ⟨y3, y4⟩ | ⟨y3, y4, y5⟩
                    · omega
                    · rw [hF3.1, hX] at y4 y5; omega
                  · -- 133 -> 136
                    refine zw_iconst zd_MO_isReal_136 ?_
                    refine zw_goto 141 zd_MO_isReal_137 (by decide) ?_
                    have hF3 := hF2 (by omega)
                    have hX : exF t (scanE sDig t z) = scanE sDig t z + 1 := by unfold exF; rw [if_neg (by rw [zbI0 (b := sSign (bget t (scanE sDig t z + 1))) (by omega)]; decide)]
                    exact zw_zret hR rfl rfl rfl rfl (by omega) (by omega) zd_MO_isReal_141
              · -- 104 -> 107
                refine zw_iload 1 rfl zd_MO_isReal_107 ?_
                refine zw_iconst zd_MO_isReal_109 ?_
                refine zw_iadd zd_MO_isReal_110 ?_
                refine zw_goto 118 zd_MO_isReal_111 (by decide) ?_
                refine zw_istore (lv' := [(7, .int (zI ((scanE sDig t z) + 2))), (6, .int (zI (bget t (scanE sDig t z)))), (5, .int (zI (scanE sDig t z))), (4, .int (zI (0))), (3, .int (zI (scanE sDig t z))), (0, .ref h), (1, .int (zI (z))), (2, .int (zI (q)))]) (Nat.le_of_ble_eq_true rfl) rfl zd_MO_isReal_118 ?_
                refine zw_aload_n 5 rfl zd_MO_isReal_120 ?_
                refine zw_iload 0 rfl zd_MO_isReal_121 ?_
                refine zw_callV (As := [.int (zI ((scanE sDig t z) + 2))]) (rest := []) (L2 := []) (L' := [zMOd h (t) (ws) (ts) ([]) (op) (y) (r) (ct) (wh) (fd) (fr)]) (stk' := [.int (zI (scanE sDig t ((scanE sDig t z) + 2)))]) (c_MO_behindDigits h t ws ts ([]) op y r ct wh fd fr ((scanE sDig t z) + 2) (by omega) (by omega)) [0] [] rfl rfl rfl zcal_MO_behindDigits zl_MO_87 zin_MO_behindDigits zse_MO_behindDigits 0 rfl zRv_MOd rfl (Nat.le_of_ble_eq_true rfl) (Nat.le_of_ble_eq_true rfl) (by omega) (by omega) rfl (Nat.le_of_ble_eq_true rfl) rfl rfl zd_MO_isReal_123 ?_
                have sd123 := scanE_spec (f := sDig) (t := t) (p := (scanE sDig t z) + 2) (by omega)
                have se123 := scanE_ub (f := sDig) (t := t) (p := (scanE sDig t z) + 2) (by omega)
                refine zw_iload_n 7 rfl zd_MO_isReal_126 ?_
                refine zw_icmp_ne 140 (by omega) (by omega) zd_MO_isReal_127 (by decide) (fun c127 => ?_) (fun c127 => ?_)
                · -- 127 -> 140
                  refine zw_iconst zd_MO_isReal_140 ?_
                  have hF3 := hF2 (by omega)
                  have hX : exF t (scanE sDig t z) = scanE sDig t z + 2 := by unfold exF; rw [if_pos (zbI1 (by omega))]
                  exfalso
                  rcases y2 with ⟨y3, y4⟩ | ⟨y3, y4, y5⟩
                  · omega
                  · rw [hF3.1, hX] at y4 y5; omega
                · -- 127 -> 130
                  refine zw_iload 0 rfl zd_MO_isReal_130 ?_
                  refine zw_iload_n 7 rfl zd_MO_isReal_132 ?_
                  refine zw_icmp_ge 140 (by omega) (by omega) zd_MO_isReal_133 (by decide) (fun c133 => ?_) (fun c133 => ?_)
                  · -- 133 -> 140
                    refine zw_iconst zd_MO_isReal_140 ?_
                    have hF3 := hF2 (by omega)
                    have hX : exF t (scanE sDig t z) = scanE sDig t z + 2 := by unfold exF; rw [if_pos (zbI1 (by omega))]
                    exfalso
                    rcases y2 with ⟨y3, y4⟩ | ⟨y3, y4, y5⟩
                    · omega
                    · rw [hF3.1, hX] at y4 y5; omega
                  · -- 133 -> 136
                    refine zw_iconst zd_MO_isReal_136 ?_
                    refine zw_goto 141 zd_MO_isReal_137 (by decide) ?_
                    have hF3 := hF2 (by omega)
                    have hX : exF t (scanE sDig t z) = scanE sDig t z + 2 := by unfold exF; rw [if_pos (zbI1 (by omega))]
                    exact zw_zret hR rfl rfl rfl rfl (by omega) (by omega) zd_MO_isReal_141
            · -- 81 -> 84
              refine zw_iload 0 rfl zd_MO_isReal_84 ?_
              refine zw_bipush rfl zd_MO_isReal_86 ?_
              refine zw_icmp_eq 93 (by omega) (by omega) zd_MO_isReal_88 (by decide) (fun c88 => ?_) (fun c88 => ?_)
              · -- 88 -> 93
                refine zw_aload_n 4 rfl zd_MO_isReal_93 ?_
                refine zw_iload 1 rfl zd_MO_isReal_94 ?_
                refine zw_iconst zd_MO_isReal_96 ?_
                refine zw_iadd zd_MO_isReal_97 ?_
                refine zw_callV (As := [.int (zI ((scanE sDig t z) + 1))]) (rest := []) (L2 := []) (L' := [zMOd h (t) (ws) (ts) ([]) (op) (y) (r) (ct) (wh) (fd) (fr)]) (stk' := [.int (zI (bget t ((scanE sDig t z) + 1)))]) (c_MO_byteAt h t ws ts ([]) op y r ct wh fd fr ((scanE sDig t z) + 1) (by omega)) [0] [] rfl rfl rfl zcal_MO_byteAt zl_MO_51 zin_MO_byteAt zse_MO_byteAt 0 rfl zRv_MOd rfl (Nat.le_of_ble_eq_true rfl) (Nat.le_of_ble_eq_true rfl) (by omega) (by omega) rfl (Nat.le_of_ble_eq_true rfl) rfl rfl zd_MO_isReal_98 ?_
                have rg98 := bget_rg hby ((scanE sDig t z) + 1)
                refine zw_callS (a := 0) (As := [.int (zI (bget t ((scanE sDig t z) + 1)))]) (rest := []) (L2 := [zMOd h (t) (ws) (ts) ([]) (op) (y) (r) (ct) (wh) (fd) (fr)]) (L' := [zMOd h (t) (ws) (ts) ([]) (op) (y) (r) (ct) (wh) (fd) (fr)]) (stk' := [.int (zI (bI (sSign (bget t ((scanE sDig t z) + 1)))))]) (c_MO_isSign (bget t ((scanE sDig t z) + 1)) (by omega)) [] [0] rfl rfl rfl zcal_MO_isSign zl_MO_84 zst_MO_isSign (Nat.le_of_ble_eq_true rfl) (Nat.le_of_ble_eq_true rfl) (by omega) (by omega) rfl (Nat.le_of_ble_eq_true rfl) rfl rfl zd_MO_isReal_101 ?_
                have rb101 := bI_rg (sSign (bget t ((scanE sDig t z) + 1)))
                refine zw_if_eq 114 (by omega) zd_MO_isReal_104 (by decide) (fun c104 => ?_) (fun c104 => ?_)
                · -- 104 -> 114
                  refine zw_iload 1 rfl zd_MO_isReal_114 ?_
                  refine zw_iconst zd_MO_isReal_116 ?_
                  refine zw_iadd zd_MO_isReal_117 ?_
                  refine zw_istore (lv' := [(7, .int (zI ((scanE sDig t z) + 1))), (6, .int (zI (bget t (scanE sDig t z)))), (5, .int (zI (scanE sDig t z))), (4, .int (zI (0))), (3, .int (zI (scanE sDig t z))), (0, .ref h), (1, .int (zI (z))), (2, .int (zI (q)))]) (Nat.le_of_ble_eq_true rfl) rfl zd_MO_isReal_118 ?_
                  refine zw_aload_n 5 rfl zd_MO_isReal_120 ?_
                  refine zw_iload 0 rfl zd_MO_isReal_121 ?_
                  refine zw_callV (As := [.int (zI ((scanE sDig t z) + 1))]) (rest := []) (L2 := []) (L' := [zMOd h (t) (ws) (ts) ([]) (op) (y) (r) (ct) (wh) (fd) (fr)]) (stk' := [.int (zI (scanE sDig t ((scanE sDig t z) + 1)))]) (c_MO_behindDigits h t ws ts ([]) op y r ct wh fd fr ((scanE sDig t z) + 1) (by omega) (by omega)) [0] [] rfl rfl rfl zcal_MO_behindDigits zl_MO_87 zin_MO_behindDigits zse_MO_behindDigits 0 rfl zRv_MOd rfl (Nat.le_of_ble_eq_true rfl) (Nat.le_of_ble_eq_true rfl) (by omega) (by omega) rfl (Nat.le_of_ble_eq_true rfl) rfl rfl zd_MO_isReal_123 ?_
                  have sd123 := scanE_spec (f := sDig) (t := t) (p := (scanE sDig t z) + 1) (by omega)
                  have se123 := scanE_ub (f := sDig) (t := t) (p := (scanE sDig t z) + 1) (by omega)
                  refine zw_iload_n 7 rfl zd_MO_isReal_126 ?_
                  refine zw_icmp_ne 140 (by omega) (by omega) zd_MO_isReal_127 (by decide) (fun c127 => ?_) (fun c127 => ?_)
                  · -- 127 -> 140
                    refine zw_iconst zd_MO_isReal_140 ?_
                    have hF3 := hF2 (by omega)
                    have hX : exF t (scanE sDig t z) = scanE sDig t z + 1 := by unfold exF; rw [if_neg (by rw [zbI0 (b := sSign (bget t (scanE sDig t z + 1))) (by omega)]; decide)]
                    exfalso
                    rcases y2 with ⟨y3, y4⟩ | ⟨y3, y4, y5⟩
                    · omega
                    · rw [hF3.1, hX] at y4 y5; omega
                  · -- 127 -> 130
                    refine zw_iload 0 rfl zd_MO_isReal_130 ?_
                    refine zw_iload_n 7 rfl zd_MO_isReal_132 ?_
                    refine zw_icmp_ge 140 (by omega) (by omega) zd_MO_isReal_133 (by decide) (fun c133 => ?_) (fun c133 => ?_)
                    · -- 133 -> 140
                      refine zw_iconst zd_MO_isReal_140 ?_
                      have hF3 := hF2 (by omega)
                      have hX : exF t (scanE sDig t z) = scanE sDig t z + 1 := by unfold exF; rw [if_neg (by rw [zbI0 (b := sSign (bget t (scanE sDig t z + 1))) (by omega)]; decide)]
                      exfalso
                      rcases y2 with ⟨y3, y4⟩ | ⟨y3, y4, y5⟩
                      · omega
                      · rw [hF3.1, hX] at y4 y5; omega
                    · -- 133 -> 136
                      refine zw_iconst zd_MO_isReal_136 ?_
                      refine zw_goto 141 zd_MO_isReal_137 (by decide) ?_
                      have hF3 := hF2 (by omega)
                      have hX : exF t (scanE sDig t z) = scanE sDig t z + 1 := by unfold exF; rw [if_neg (by rw [zbI0 (b := sSign (bget t (scanE sDig t z + 1))) (by omega)]; decide)]
                      exact zw_zret hR rfl rfl rfl rfl (by omega) (by omega) zd_MO_isReal_141
                · -- 104 -> 107
                  refine zw_iload 1 rfl zd_MO_isReal_107 ?_
                  refine zw_iconst zd_MO_isReal_109 ?_
                  refine zw_iadd zd_MO_isReal_110 ?_
                  refine zw_goto 118 zd_MO_isReal_111 (by decide) ?_
                  refine zw_istore (lv' := [(7, .int (zI ((scanE sDig t z) + 2))), (6, .int (zI (bget t (scanE sDig t z)))), (5, .int (zI (scanE sDig t z))), (4, .int (zI (0))), (3, .int (zI (scanE sDig t z))), (0, .ref h), (1, .int (zI (z))), (2, .int (zI (q)))]) (Nat.le_of_ble_eq_true rfl) rfl zd_MO_isReal_118 ?_
                  refine zw_aload_n 5 rfl zd_MO_isReal_120 ?_
                  refine zw_iload 0 rfl zd_MO_isReal_121 ?_
                  refine zw_callV (As := [.int (zI ((scanE sDig t z) + 2))]) (rest := []) (L2 := []) (L' := [zMOd h (t) (ws) (ts) ([]) (op) (y) (r) (ct) (wh) (fd) (fr)]) (stk' := [.int (zI (scanE sDig t ((scanE sDig t z) + 2)))]) (c_MO_behindDigits h t ws ts ([]) op y r ct wh fd fr ((scanE sDig t z) + 2) (by omega) (by omega)) [0] [] rfl rfl rfl zcal_MO_behindDigits zl_MO_87 zin_MO_behindDigits zse_MO_behindDigits 0 rfl zRv_MOd rfl (Nat.le_of_ble_eq_true rfl) (Nat.le_of_ble_eq_true rfl) (by omega) (by omega) rfl (Nat.le_of_ble_eq_true rfl) rfl rfl zd_MO_isReal_123 ?_
                  have sd123 := scanE_spec (f := sDig) (t := t) (p := (scanE sDig t z) + 2) (by omega)
                  have se123 := scanE_ub (f := sDig) (t := t) (p := (scanE sDig t z) + 2) (by omega)
                  refine zw_iload_n 7 rfl zd_MO_isReal_126 ?_
                  refine zw_icmp_ne 140 (by omega) (by omega) zd_MO_isReal_127 (by decide) (fun c127 => ?_) (fun c127 => ?_)
                  · -- 127 -> 140
                    refine zw_iconst zd_MO_isReal_140 ?_
                    have hF3 := hF2 (by omega)
                    have hX : exF t (scanE sDig t z) = scanE sDig t z + 2 := by unfold exF; rw [if_pos (zbI1 (by omega))]
                    exfalso
                    rcases y2 with ⟨y3, y4⟩ | ⟨y3, y4, y5⟩
                    · omega
                    · rw [hF3.1, hX] at y4 y5; omega
                  · -- 127 -> 130
                    refine zw_iload 0 rfl zd_MO_isReal_130 ?_
                    refine zw_iload_n 7 rfl zd_MO_isReal_132 ?_
                    refine zw_icmp_ge 140 (by omega) (by omega) zd_MO_isReal_133 (by decide) (fun c133 => ?_) (fun c133 => ?_)
                    · -- 133 -> 140
                      refine zw_iconst zd_MO_isReal_140 ?_
                      have hF3 := hF2 (by omega)
                      have hX : exF t (scanE sDig t z) = scanE sDig t z + 2 := by unfold exF; rw [if_pos (zbI1 (by omega))]
                      exfalso
                      rcases y2 with ⟨y3, y4⟩ | ⟨y3, y4, y5⟩
                      · omega
                      · rw [hF3.1, hX] at y4 y5; omega
                    · -- 133 -> 136
                      refine zw_iconst zd_MO_isReal_136 ?_
                      refine zw_goto 141 zd_MO_isReal_137 (by decide) ?_
                      have hF3 := hF2 (by omega)
                      have hX : exF t (scanE sDig t z) = scanE sDig t z + 2 := by unfold exF; rw [if_pos (zbI1 (by omega))]
                      exact zw_zret hR rfl rfl rfl rfl (by omega) (by omega) zd_MO_isReal_141
              · -- 88 -> 91
                refine zw_iconst zd_MO_isReal_91 ?_
                have hF3 := hF2 (by omega)
                exfalso; rcases y2 with ⟨y3, y4⟩ | ⟨y3, -⟩
                · omega
                · rw [hF3.1] at y3; omega
          · -- 63 -> 66
            refine zw_iload 1 rfl zd_MO_isReal_66 ?_
            have hF3 := hF2 (by omega)
            exfalso
            rcases y2 with ⟨y3, y4⟩ | ⟨y3, y4, y5⟩
            · omega
            · unfold exF at y4; rw [hF3.1] at y4; split at y4 <;> omega
        · -- 55 -> 58
          refine zw_iconst zd_MO_isReal_58 ?_
          have hF3 := hF2 (by omega)
          exfalso; omega
      · -- 47 -> 50
        exact absurd c47 (by decide)
    · -- 25 -> 28
      exact absurd c25 (by decide)
  · -- 13 -> 16
    refine zw_iconst zd_MO_isReal_16 ?_
    refine zw_goto 21 zd_MO_isReal_17 (by decide) ?_
    refine zw_istore (lv' := [(4, .int (zI (1))), (3, .int (zI (scanE sDig t z))), (0, .ref h), (1, .int (zI (z))), (2, .int (zI (q)))]) (Nat.le_of_ble_eq_true rfl) rfl zd_MO_isReal_21 ?_
    refine zw_iload 0 rfl zd_MO_isReal_23 ?_
    refine zw_if_eq 38 (by omega) zd_MO_isReal_25 (by decide) (fun c25 => ?_) (fun c25 => ?_)
    · -- 25 -> 38
      exact absurd c25 (by decide)
    · -- 25 -> 28
      refine zw_aload_n 2 rfl zd_MO_isReal_28 ?_
      refine zw_iload_n 1 rfl zd_MO_isReal_29 ?_
      refine zw_iconst zd_MO_isReal_30 ?_
      refine zw_iadd zd_MO_isReal_31 ?_
      refine zw_callV (As := [.int (zI ((scanE sDig t z) + 1))]) (rest := []) (L2 := []) (L' := [zMOd h (t) (ws) (ts) ([]) (op) (y) (r) (ct) (wh) (fd) (fr)]) (stk' := [.int (zI (scanE sDig t ((scanE sDig t z) + 1)))]) (c_MO_behindDigits h t ws ts ([]) op y r ct wh fd fr ((scanE sDig t z) + 1) (by omega) (by omega)) [0] [] rfl rfl rfl zcal_MO_behindDigits zl_MO_87 zin_MO_behindDigits zse_MO_behindDigits 0 rfl zRv_MOd rfl (Nat.le_of_ble_eq_true rfl) (Nat.le_of_ble_eq_true rfl) (by omega) (by omega) rfl (Nat.le_of_ble_eq_true rfl) rfl rfl zd_MO_isReal_32 ?_
      have sd32 := scanE_spec (f := sDig) (t := t) (p := (scanE sDig t z) + 1) (by omega)
      have se32 := scanE_ub (f := sDig) (t := t) (p := (scanE sDig t z) + 1) (by omega)
      refine zw_goto 39 zd_MO_isReal_35 (by decide) ?_
      refine zw_istore (lv' := [(5, .int (zI (scanE sDig t ((scanE sDig t z) + 1)))), (4, .int (zI (1))), (3, .int (zI (scanE sDig t z))), (0, .ref h), (1, .int (zI (z))), (2, .int (zI (q)))]) (Nat.le_of_ble_eq_true rfl) rfl zd_MO_isReal_39 ?_
      have sdp := scanD_rg (t := t) (f := scanE sDig t z + 1) (e := q) (by have := bget_in (l := t) (z := scanE sDig t z) (by omega); have : scanE sDig t z ≠ q := (fun e => by rw [e] at c13; omega); omega) q1
      refine zw_iload 0 rfl zd_MO_isReal_41 ?_
      refine zw_iload_n 4 rfl zd_MO_isReal_43 ?_
      refine zw_isub zd_MO_isReal_44 ?_
      refine zw_iload 1 rfl zd_MO_isReal_45 ?_
      refine zw_if_eq 54 (by omega) zd_MO_isReal_47 (by decide) (fun c47 => ?_) (fun c47 => ?_)
      · -- 47 -> 54
        exact absurd c47 (by decide)
      · -- 47 -> 50
        refine zw_iconst zd_MO_isReal_50 ?_
        refine zw_goto 55 zd_MO_isReal_51 (by decide) ?_
        refine zw_icmp_ne 60 (by omega) (by omega) zd_MO_isReal_55 (by decide) (fun c55 => ?_) (fun c55 => ?_)
        · -- 55 -> 60
          refine zw_iload 0 rfl zd_MO_isReal_60 ?_
          refine zw_iload_n 5 rfl zd_MO_isReal_62 ?_
          refine zw_icmp_ne 69 (by omega) (by omega) zd_MO_isReal_63 (by decide) (fun c63 => ?_) (fun c63 => ?_)
          · -- 63 -> 69
            refine zw_aload_n 3 rfl zd_MO_isReal_69 ?_
            refine zw_iload 0 rfl zd_MO_isReal_70 ?_
            refine zw_callV (As := [.int (zI (scanE sDig t ((scanE sDig t z) + 1)))]) (rest := []) (L2 := []) (L' := [zMOd h (t) (ws) (ts) ([]) (op) (y) (r) (ct) (wh) (fd) (fr)]) (stk' := [.int (zI (bget t (scanE sDig t ((scanE sDig t z) + 1))))]) (c_MO_byteAt h t ws ts ([]) op y r ct wh fd fr (scanE sDig t ((scanE sDig t z) + 1)) (by omega)) [0] [] rfl rfl rfl zcal_MO_byteAt zl_MO_51 zin_MO_byteAt zse_MO_byteAt 0 rfl zRv_MOd rfl (Nat.le_of_ble_eq_true rfl) (Nat.le_of_ble_eq_true rfl) (by omega) (by omega) rfl (Nat.le_of_ble_eq_true rfl) rfl rfl zd_MO_isReal_72 ?_
            have rg72 := bget_rg hby (scanE sDig t ((scanE sDig t z) + 1))
            refine zw_istore (lv' := [(6, .int (zI (bget t (scanE sDig t ((scanE sDig t z) + 1))))), (5, .int (zI (scanE sDig t ((scanE sDig t z) + 1)))), (4, .int (zI (1))), (3, .int (zI (scanE sDig t z))), (0, .ref h), (1, .int (zI (z))), (2, .int (zI (q)))]) (Nat.le_of_ble_eq_true rfl) rfl zd_MO_isReal_75 ?_
            refine zw_iload 0 rfl zd_MO_isReal_77 ?_
            refine zw_bipush rfl zd_MO_isReal_79 ?_
            refine zw_icmp_eq 93 (by omega) (by omega) zd_MO_isReal_81 (by decide) (fun c81 => ?_) (fun c81 => ?_)
            · -- 81 -> 93
              refine zw_aload_n 4 rfl zd_MO_isReal_93 ?_
              refine zw_iload 1 rfl zd_MO_isReal_94 ?_
              refine zw_iconst zd_MO_isReal_96 ?_
              refine zw_iadd zd_MO_isReal_97 ?_
              refine zw_callV (As := [.int (zI ((scanE sDig t ((scanE sDig t z) + 1)) + 1))]) (rest := []) (L2 := []) (L' := [zMOd h (t) (ws) (ts) ([]) (op) (y) (r) (ct) (wh) (fd) (fr)]) (stk' := [.int (zI (bget t ((scanE sDig t ((scanE sDig t z) + 1)) + 1)))]) (c_MO_byteAt h t ws ts ([]) op y r ct wh fd fr ((scanE sDig t ((scanE sDig t z) + 1)) + 1) (by omega)) [0] [] rfl rfl rfl zcal_MO_byteAt zl_MO_51 zin_MO_byteAt zse_MO_byteAt 0 rfl zRv_MOd rfl (Nat.le_of_ble_eq_true rfl) (Nat.le_of_ble_eq_true rfl) (by omega) (by omega) rfl (Nat.le_of_ble_eq_true rfl) rfl rfl zd_MO_isReal_98 ?_
              have rg98 := bget_rg hby ((scanE sDig t ((scanE sDig t z) + 1)) + 1)
              refine zw_callS (a := 0) (As := [.int (zI (bget t ((scanE sDig t ((scanE sDig t z) + 1)) + 1)))]) (rest := []) (L2 := [zMOd h (t) (ws) (ts) ([]) (op) (y) (r) (ct) (wh) (fd) (fr)]) (L' := [zMOd h (t) (ws) (ts) ([]) (op) (y) (r) (ct) (wh) (fd) (fr)]) (stk' := [.int (zI (bI (sSign (bget t ((scanE sDig t ((scanE sDig t z) + 1)) + 1)))))]) (c_MO_isSign (bget t ((scanE sDig t ((scanE sDig t z) + 1)) + 1)) (by omega)) [] [0] rfl rfl rfl zcal_MO_isSign zl_MO_84 zst_MO_isSign (Nat.le_of_ble_eq_true rfl) (Nat.le_of_ble_eq_true rfl) (by omega) (by omega) rfl (Nat.le_of_ble_eq_true rfl) rfl rfl zd_MO_isReal_101 ?_
              have rb101 := bI_rg (sSign (bget t ((scanE sDig t ((scanE sDig t z) + 1)) + 1)))
              refine zw_if_eq 114 (by omega) zd_MO_isReal_104 (by decide) (fun c104 => ?_) (fun c104 => ?_)
              · -- 104 -> 114
                refine zw_iload 1 rfl zd_MO_isReal_114 ?_
                refine zw_iconst zd_MO_isReal_116 ?_
                refine zw_iadd zd_MO_isReal_117 ?_
                refine zw_istore (lv' := [(7, .int (zI ((scanE sDig t ((scanE sDig t z) + 1)) + 1))), (6, .int (zI (bget t (scanE sDig t ((scanE sDig t z) + 1))))), (5, .int (zI (scanE sDig t ((scanE sDig t z) + 1)))), (4, .int (zI (1))), (3, .int (zI (scanE sDig t z))), (0, .ref h), (1, .int (zI (z))), (2, .int (zI (q)))]) (Nat.le_of_ble_eq_true rfl) rfl zd_MO_isReal_118 ?_
                refine zw_aload_n 5 rfl zd_MO_isReal_120 ?_
                refine zw_iload 0 rfl zd_MO_isReal_121 ?_
                refine zw_callV (As := [.int (zI ((scanE sDig t ((scanE sDig t z) + 1)) + 1))]) (rest := []) (L2 := []) (L' := [zMOd h (t) (ws) (ts) ([]) (op) (y) (r) (ct) (wh) (fd) (fr)]) (stk' := [.int (zI (scanE sDig t ((scanE sDig t ((scanE sDig t z) + 1)) + 1)))]) (c_MO_behindDigits h t ws ts ([]) op y r ct wh fd fr ((scanE sDig t ((scanE sDig t z) + 1)) + 1) (by omega) (by omega)) [0] [] rfl rfl rfl zcal_MO_behindDigits zl_MO_87 zin_MO_behindDigits zse_MO_behindDigits 0 rfl zRv_MOd rfl (Nat.le_of_ble_eq_true rfl) (Nat.le_of_ble_eq_true rfl) (by omega) (by omega) rfl (Nat.le_of_ble_eq_true rfl) rfl rfl zd_MO_isReal_123 ?_
                have sd123 := scanE_spec (f := sDig) (t := t) (p := (scanE sDig t ((scanE sDig t z) + 1)) + 1) (by omega)
                have se123 := scanE_ub (f := sDig) (t := t) (p := (scanE sDig t ((scanE sDig t z) + 1)) + 1) (by omega)
                refine zw_iload_n 7 rfl zd_MO_isReal_126 ?_
                refine zw_icmp_ne 140 (by omega) (by omega) zd_MO_isReal_127 (by decide) (fun c127 => ?_) (fun c127 => ?_)
                · -- 127 -> 140
                  refine zw_iconst zd_MO_isReal_140 ?_
                  have hF3 := hF1 (by omega)
                  have hX : exF t (scanE sDig t ((scanE sDig t z) + 1)) = scanE sDig t ((scanE sDig t z) + 1) + 1 := by unfold exF; rw [if_neg (by rw [zbI0 (b := sSign (bget t (scanE sDig t ((scanE sDig t z) + 1) + 1))) (by omega)]; decide)]
                  exfalso
                  rcases y2 with ⟨y3, y4⟩ | ⟨y3, y4, y5⟩
                  · omega
                  · rw [hF3.1, hX] at y4 y5; omega
                · -- 127 -> 130
                  refine zw_iload 0 rfl zd_MO_isReal_130 ?_
                  refine zw_iload_n 7 rfl zd_MO_isReal_132 ?_
                  refine zw_icmp_ge 140 (by omega) (by omega) zd_MO_isReal_133 (by decide) (fun c133 => ?_) (fun c133 => ?_)
                  · -- 133 -> 140
                    refine zw_iconst zd_MO_isReal_140 ?_
                    have hF3 := hF1 (by omega)
                    have hX : exF t (scanE sDig t ((scanE sDig t z) + 1)) = scanE sDig t ((scanE sDig t z) + 1) + 1 := by unfold exF; rw [if_neg (by rw [zbI0 (b := sSign (bget t (scanE sDig t ((scanE sDig t z) + 1) + 1))) (by omega)]; decide)]
                    exfalso
                    rcases y2 with ⟨y3, y4⟩ | ⟨y3, y4, y5⟩
                    · omega
                    · rw [hF3.1, hX] at y4 y5; omega
                  · -- 133 -> 136
                    refine zw_iconst zd_MO_isReal_136 ?_
                    refine zw_goto 141 zd_MO_isReal_137 (by decide) ?_
                    have hF3 := hF1 (by omega)
                    have hX : exF t (scanE sDig t ((scanE sDig t z) + 1)) = scanE sDig t ((scanE sDig t z) + 1) + 1 := by unfold exF; rw [if_neg (by rw [zbI0 (b := sSign (bget t (scanE sDig t ((scanE sDig t z) + 1) + 1))) (by omega)]; decide)]
                    exact zw_zret hR rfl rfl rfl rfl (by omega) (by omega) zd_MO_isReal_141
              · -- 104 -> 107
                refine zw_iload 1 rfl zd_MO_isReal_107 ?_
                refine zw_iconst zd_MO_isReal_109 ?_
                refine zw_iadd zd_MO_isReal_110 ?_
                refine zw_goto 118 zd_MO_isReal_111 (by decide) ?_
                refine zw_istore (lv' := [(7, .int (zI ((scanE sDig t ((scanE sDig t z) + 1)) + 2))), (6, .int (zI (bget t (scanE sDig t ((scanE sDig t z) + 1))))), (5, .int (zI (scanE sDig t ((scanE sDig t z) + 1)))), (4, .int (zI (1))), (3, .int (zI (scanE sDig t z))), (0, .ref h), (1, .int (zI (z))), (2, .int (zI (q)))]) (Nat.le_of_ble_eq_true rfl) rfl zd_MO_isReal_118 ?_
                refine zw_aload_n 5 rfl zd_MO_isReal_120 ?_
                refine zw_iload 0 rfl zd_MO_isReal_121 ?_
                refine zw_callV (As := [.int (zI ((scanE sDig t ((scanE sDig t z) + 1)) + 2))]) (rest := []) (L2 := []) (L' := [zMOd h (t) (ws) (ts) ([]) (op) (y) (r) (ct) (wh) (fd) (fr)]) (stk' := [.int (zI (scanE sDig t ((scanE sDig t ((scanE sDig t z) + 1)) + 2)))]) (c_MO_behindDigits h t ws ts ([]) op y r ct wh fd fr ((scanE sDig t ((scanE sDig t z) + 1)) + 2) (by omega) (by omega)) [0] [] rfl rfl rfl zcal_MO_behindDigits zl_MO_87 zin_MO_behindDigits zse_MO_behindDigits 0 rfl zRv_MOd rfl (Nat.le_of_ble_eq_true rfl) (Nat.le_of_ble_eq_true rfl) (by omega) (by omega) rfl (Nat.le_of_ble_eq_true rfl) rfl rfl zd_MO_isReal_123 ?_
                have sd123 := scanE_spec (f := sDig) (t := t) (p := (scanE sDig t ((scanE sDig t z) + 1)) + 2) (by omega)
                have se123 := scanE_ub (f := sDig) (t := t) (p := (scanE sDig t ((scanE sDig t z) + 1)) + 2) (by omega)
                refine zw_iload_n 7 rfl zd_MO_isReal_126 ?_
                refine zw_icmp_ne 140 (by omega) (by omega) zd_MO_isReal_127 (by decide) (fun c127 => ?_) (fun c127 => ?_)
                · -- 127 -> 140
                  refine zw_iconst zd_MO_isReal_140 ?_
                  have hF3 := hF1 (by omega)
                  have hX : exF t (scanE sDig t ((scanE sDig t z) + 1)) = scanE sDig t ((scanE sDig t z) + 1) + 2 := by unfold exF; rw [if_pos (zbI1 (by omega))]
                  exfalso
                  rcases y2 with ⟨y3, y4⟩ | ⟨y3, y4, y5⟩
                  · omega
                  · rw [hF3.1, hX] at y4 y5; omega
                · -- 127 -> 130
                  refine zw_iload 0 rfl zd_MO_isReal_130 ?_
                  refine zw_iload_n 7 rfl zd_MO_isReal_132 ?_
                  refine zw_icmp_ge 140 (by omega) (by omega) zd_MO_isReal_133 (by decide) (fun c133 => ?_) (fun c133 => ?_)
                  · -- 133 -> 140
                    refine zw_iconst zd_MO_isReal_140 ?_
                    have hF3 := hF1 (by omega)
                    have hX : exF t (scanE sDig t ((scanE sDig t z) + 1)) = scanE sDig t ((scanE sDig t z) + 1) + 2 := by unfold exF; rw [if_pos (zbI1 (by omega))]
                    exfalso
                    rcases y2 with ⟨y3, y4⟩ | ⟨y3, y4, y5⟩
                    · omega
                    · rw [hF3.1, hX] at y4 y5; omega
                  · -- 133 -> 136
                    refine zw_iconst zd_MO_isReal_136 ?_
                    refine zw_goto 141 zd_MO_isReal_137 (by decide) ?_
                    have hF3 := hF1 (by omega)
                    have hX : exF t (scanE sDig t ((scanE sDig t z) + 1)) = scanE sDig t ((scanE sDig t z) + 1) + 2 := by unfold exF; rw [if_pos (zbI1 (by omega))]
                    exact zw_zret hR rfl rfl rfl rfl (by omega) (by omega) zd_MO_isReal_141
            · -- 81 -> 84
              refine zw_iload 0 rfl zd_MO_isReal_84 ?_
              refine zw_bipush rfl zd_MO_isReal_86 ?_
              refine zw_icmp_eq 93 (by omega) (by omega) zd_MO_isReal_88 (by decide) (fun c88 => ?_) (fun c88 => ?_)
              · -- 88 -> 93
                refine zw_aload_n 4 rfl zd_MO_isReal_93 ?_
                refine zw_iload 1 rfl zd_MO_isReal_94 ?_
                refine zw_iconst zd_MO_isReal_96 ?_
                refine zw_iadd zd_MO_isReal_97 ?_
                refine zw_callV (As := [.int (zI ((scanE sDig t ((scanE sDig t z) + 1)) + 1))]) (rest := []) (L2 := []) (L' := [zMOd h (t) (ws) (ts) ([]) (op) (y) (r) (ct) (wh) (fd) (fr)]) (stk' := [.int (zI (bget t ((scanE sDig t ((scanE sDig t z) + 1)) + 1)))]) (c_MO_byteAt h t ws ts ([]) op y r ct wh fd fr ((scanE sDig t ((scanE sDig t z) + 1)) + 1) (by omega)) [0] [] rfl rfl rfl zcal_MO_byteAt zl_MO_51 zin_MO_byteAt zse_MO_byteAt 0 rfl zRv_MOd rfl (Nat.le_of_ble_eq_true rfl) (Nat.le_of_ble_eq_true rfl) (by omega) (by omega) rfl (Nat.le_of_ble_eq_true rfl) rfl rfl zd_MO_isReal_98 ?_
                have rg98 := bget_rg hby ((scanE sDig t ((scanE sDig t z) + 1)) + 1)
                refine zw_callS (a := 0) (As := [.int (zI (bget t ((scanE sDig t ((scanE sDig t z) + 1)) + 1)))]) (rest := []) (L2 := [zMOd h (t) (ws) (ts) ([]) (op) (y) (r) (ct) (wh) (fd) (fr)]) (L' := [zMOd h (t) (ws) (ts) ([]) (op) (y) (r) (ct) (wh) (fd) (fr)]) (stk' := [.int (zI (bI (sSign (bget t ((scanE sDig t ((scanE sDig t z) + 1)) + 1)))))]) (c_MO_isSign (bget t ((scanE sDig t ((scanE sDig t z) + 1)) + 1)) (by omega)) [] [0] rfl rfl rfl zcal_MO_isSign zl_MO_84 zst_MO_isSign (Nat.le_of_ble_eq_true rfl) (Nat.le_of_ble_eq_true rfl) (by omega) (by omega) rfl (Nat.le_of_ble_eq_true rfl) rfl rfl zd_MO_isReal_101 ?_
                have rb101 := bI_rg (sSign (bget t ((scanE sDig t ((scanE sDig t z) + 1)) + 1)))
                refine zw_if_eq 114 (by omega) zd_MO_isReal_104 (by decide) (fun c104 => ?_) (fun c104 => ?_)
                · -- 104 -> 114
                  refine zw_iload 1 rfl zd_MO_isReal_114 ?_
                  refine zw_iconst zd_MO_isReal_116 ?_
                  refine zw_iadd zd_MO_isReal_117 ?_
                  refine zw_istore (lv' := [(7, .int (zI ((scanE sDig t ((scanE sDig t z) + 1)) + 1))), (6, .int (zI (bget t (scanE sDig t ((scanE sDig t z) + 1))))), (5, .int (zI (scanE sDig t ((scanE sDig t z) + 1)))), (4, .int (zI (1))), (3, .int (zI (scanE sDig t z))), (0, .ref h), (1, .int (zI (z))), (2, .int (zI (q)))]) (Nat.le_of_ble_eq_true rfl) rfl zd_MO_isReal_118 ?_
                  refine zw_aload_n 5 rfl zd_MO_isReal_120 ?_
                  refine zw_iload 0 rfl zd_MO_isReal_121 ?_
                  refine zw_callV (As := [.int (zI ((scanE sDig t ((scanE sDig t z) + 1)) + 1))]) (rest := []) (L2 := []) (L' := [zMOd h (t) (ws) (ts) ([]) (op) (y) (r) (ct) (wh) (fd) (fr)]) (stk' := [.int (zI (scanE sDig t ((scanE sDig t ((scanE sDig t z) + 1)) + 1)))]) (c_MO_behindDigits h t ws ts ([]) op y r ct wh fd fr ((scanE sDig t ((scanE sDig t z) + 1)) + 1) (by omega) (by omega)) [0] [] rfl rfl rfl zcal_MO_behindDigits zl_MO_87 zin_MO_behindDigits zse_MO_behindDigits 0 rfl zRv_MOd rfl (Nat.le_of_ble_eq_true rfl) (Nat.le_of_ble_eq_true rfl) (by omega) (by omega) rfl (Nat.le_of_ble_eq_true rfl) rfl rfl zd_MO_isReal_123 ?_
                  have sd123 := scanE_spec (f := sDig) (t := t) (p := (scanE sDig t ((scanE sDig t z) + 1)) + 1) (by omega)
                  have se123 := scanE_ub (f := sDig) (t := t) (p := (scanE sDig t ((scanE sDig t z) + 1)) + 1) (by omega)
                  refine zw_iload_n 7 rfl zd_MO_isReal_126 ?_
                  refine zw_icmp_ne 140 (by omega) (by omega) zd_MO_isReal_127 (by decide) (fun c127 => ?_) (fun c127 => ?_)
                  · -- 127 -> 140
                    refine zw_iconst zd_MO_isReal_140 ?_
                    have hF3 := hF1 (by omega)
                    have hX : exF t (scanE sDig t ((scanE sDig t z) + 1)) = scanE sDig t ((scanE sDig t z) + 1) + 1 := by unfold exF; rw [if_neg (by rw [zbI0 (b := sSign (bget t (scanE sDig t ((scanE sDig t z) + 1) + 1))) (by omega)]; decide)]
                    exfalso
                    rcases y2 with ⟨y3, y4⟩ | ⟨y3, y4, y5⟩
                    · omega
                    · rw [hF3.1, hX] at y4 y5; omega
                  · -- 127 -> 130
                    refine zw_iload 0 rfl zd_MO_isReal_130 ?_
                    refine zw_iload_n 7 rfl zd_MO_isReal_132 ?_
                    refine zw_icmp_ge 140 (by omega) (by omega) zd_MO_isReal_133 (by decide) (fun c133 => ?_) (fun c133 => ?_)
                    · -- 133 -> 140
                      refine zw_iconst zd_MO_isReal_140 ?_
                      have hF3 := hF1 (by omega)
                      have hX : exF t (scanE sDig t ((scanE sDig t z) + 1)) = scanE sDig t ((scanE sDig t z) + 1) + 1 := by unfold exF; rw [if_neg (by rw [zbI0 (b := sSign (bget t (scanE sDig t ((scanE sDig t z) + 1) + 1))) (by omega)]; decide)]
                      exfalso
                      rcases y2 with ⟨y3, y4⟩ | ⟨y3, y4, y5⟩
                      · omega
                      · rw [hF3.1, hX] at y4 y5; omega
                    · -- 133 -> 136
                      refine zw_iconst zd_MO_isReal_136 ?_
                      refine zw_goto 141 zd_MO_isReal_137 (by decide) ?_
                      have hF3 := hF1 (by omega)
                      have hX : exF t (scanE sDig t ((scanE sDig t z) + 1)) = scanE sDig t ((scanE sDig t z) + 1) + 1 := by unfold exF; rw [if_neg (by rw [zbI0 (b := sSign (bget t (scanE sDig t ((scanE sDig t z) + 1) + 1))) (by omega)]; decide)]
                      exact zw_zret hR rfl rfl rfl rfl (by omega) (by omega) zd_MO_isReal_141
                · -- 104 -> 107
                  refine zw_iload 1 rfl zd_MO_isReal_107 ?_
                  refine zw_iconst zd_MO_isReal_109 ?_
                  refine zw_iadd zd_MO_isReal_110 ?_
                  refine zw_goto 118 zd_MO_isReal_111 (by decide) ?_
                  refine zw_istore (lv' := [(7, .int (zI ((scanE sDig t ((scanE sDig t z) + 1)) + 2))), (6, .int (zI (bget t (scanE sDig t ((scanE sDig t z) + 1))))), (5, .int (zI (scanE sDig t ((scanE sDig t z) + 1)))), (4, .int (zI (1))), (3, .int (zI (scanE sDig t z))), (0, .ref h), (1, .int (zI (z))), (2, .int (zI (q)))]) (Nat.le_of_ble_eq_true rfl) rfl zd_MO_isReal_118 ?_
                  refine zw_aload_n 5 rfl zd_MO_isReal_120 ?_
                  refine zw_iload 0 rfl zd_MO_isReal_121 ?_
                  refine zw_callV (As := [.int (zI ((scanE sDig t ((scanE sDig t z) + 1)) + 2))]) (rest := []) (L2 := []) (L' := [zMOd h (t) (ws) (ts) ([]) (op) (y) (r) (ct) (wh) (fd) (fr)]) (stk' := [.int (zI (scanE sDig t ((scanE sDig t ((scanE sDig t z) + 1)) + 2)))]) (c_MO_behindDigits h t ws ts ([]) op y r ct wh fd fr ((scanE sDig t ((scanE sDig t z) + 1)) + 2) (by omega) (by omega)) [0] [] rfl rfl rfl zcal_MO_behindDigits zl_MO_87 zin_MO_behindDigits zse_MO_behindDigits 0 rfl zRv_MOd rfl (Nat.le_of_ble_eq_true rfl) (Nat.le_of_ble_eq_true rfl) (by omega) (by omega) rfl (Nat.le_of_ble_eq_true rfl) rfl rfl zd_MO_isReal_123 ?_
                  have sd123 := scanE_spec (f := sDig) (t := t) (p := (scanE sDig t ((scanE sDig t z) + 1)) + 2) (by omega)
                  have se123 := scanE_ub (f := sDig) (t := t) (p := (scanE sDig t ((scanE sDig t z) + 1)) + 2) (by omega)
                  refine zw_iload_n 7 rfl zd_MO_isReal_126 ?_
                  refine zw_icmp_ne 140 (by omega) (by omega) zd_MO_isReal_127 (by decide) (fun c127 => ?_) (fun c127 => ?_)
                  · -- 127 -> 140
                    refine zw_iconst zd_MO_isReal_140 ?_
                    have hF3 := hF1 (by omega)
                    have hX : exF t (scanE sDig t ((scanE sDig t z) + 1)) = scanE sDig t ((scanE sDig t z) + 1) + 2 := by unfold exF; rw [if_pos (zbI1 (by omega))]
                    exfalso
                    rcases y2 with ⟨y3, y4⟩ | ⟨y3, y4, y5⟩
                    · omega
                    · rw [hF3.1, hX] at y4 y5; omega
                  · -- 127 -> 130
                    refine zw_iload 0 rfl zd_MO_isReal_130 ?_
                    refine zw_iload_n 7 rfl zd_MO_isReal_132 ?_
                    refine zw_icmp_ge 140 (by omega) (by omega) zd_MO_isReal_133 (by decide) (fun c133 => ?_) (fun c133 => ?_)
                    · -- 133 -> 140
                      refine zw_iconst zd_MO_isReal_140 ?_
                      have hF3 := hF1 (by omega)
                      have hX : exF t (scanE sDig t ((scanE sDig t z) + 1)) = scanE sDig t ((scanE sDig t z) + 1) + 2 := by unfold exF; rw [if_pos (zbI1 (by omega))]
                      exfalso
                      rcases y2 with ⟨y3, y4⟩ | ⟨y3, y4, y5⟩
                      · omega
                      · rw [hF3.1, hX] at y4 y5; omega
                    · -- 133 -> 136
                      refine zw_iconst zd_MO_isReal_136 ?_
                      refine zw_goto 141 zd_MO_isReal_137 (by decide) ?_
                      have hF3 := hF1 (by omega)
                      have hX : exF t (scanE sDig t ((scanE sDig t z) + 1)) = scanE sDig t ((scanE sDig t z) + 1) + 2 := by unfold exF; rw [if_pos (zbI1 (by omega))]
                      exact zw_zret hR rfl rfl rfl rfl (by omega) (by omega) zd_MO_isReal_141
              · -- 88 -> 91
                refine zw_iconst zd_MO_isReal_91 ?_
                have hF3 := hF1 (by omega)
                exfalso; rcases y2 with ⟨y3, y4⟩ | ⟨y3, -⟩
                · omega
                · rw [hF3.1] at y3; omega
          · -- 63 -> 66
            refine zw_iload 1 rfl zd_MO_isReal_66 ?_
            have hF3 := hF1 (by omega)
            exact zw_zret hR rfl rfl rfl rfl (by omega) (by omega) zd_MO_isReal_68
        · -- 55 -> 58
          refine zw_iconst zd_MO_isReal_58 ?_
          have hF3 := hF1 (by omega)
          exfalso; omega
set_option maxHeartbeats 4000000 in
set_option maxRecDepth 100000 in
theorem c_MO_isReal_no (h : Nat) (t : List Int) (ws : List (Int32 × Int32 × Int32)) (ts : List (List Int)) (op : List Int) (y r ct wh : Int) (fd fr : Nat → Int32) (z q : Int) (hz : 0 ≤ z ∧ z ≤ q ∧ q ≤ t.length) (q1 : sDig (bget t q) = false) (q4 : bget t q ≠ 46) (hno : ¬ isRl t z q) : zCT zy_MO_isReal zm_MO_isReal (0) (0) [.ref h, .int (zI z), .int (zI q)] [zMOd h (t) (ws) (ts) ([]) (op) (y) (r) (ct) (wh) (fd) (fr)] (some (.int (zI 0))) [zMOd h (t) (ws) (ts) ([]) (op) (y) (r) (ct) (wh) (fd) (fr)] := by
  refine zCT.of [(0, .ref h), (1, .int (zI (z))), (2, .int (zI (q)))] rfl (by decide) rfl (fun h => by first | rfl | cases h) (Nat.le_of_ble_eq_true rfl) (fun X hR => ?_)
  refine zw_fact 0 rfl (fun G w h => zMOd_fact h) (fun mf => ?_)
  obtain ⟨⟨ht1, hby⟩, hw1, ⟨hs1, hs2, hs3⟩, ho1⟩ := mf
  obtain ⟨s1, s2, s3⟩ := scanD_rg (t := t) (f := z) (e := q) (by omega) q1
  obtain ⟨hF1, hF2⟩ : (bget t (scanE sDig t z) = 46 → frE t (scanE sDig t z) = scanE sDig t (scanE sDig t z + 1) ∧ frD t (scanE sDig t z) (scanE sDig t z - z) = scanE sDig t z - z + (scanE sDig t (scanE sDig t z + 1) - (scanE sDig t z + 1))) ∧ (bget t (scanE sDig t z) ≠ 46 → frE t (scanE sDig t z) = scanE sDig t z ∧ frD t (scanE sDig t z) (scanE sDig t z - z) = scanE sDig t z - z) := ⟨fun e => by unfold frE frD; rw [if_pos e, if_pos e]; exact ⟨rfl, rfl⟩, fun e => by unfold frE frD; rw [if_neg e, if_neg e]; exact ⟨rfl, by omega⟩⟩
  refine zw_aload_n 0 rfl zd_MO_isReal_0 ?_
  refine zw_iload_n 1 rfl zd_MO_isReal_1 ?_
  refine zw_callV (As := [.int (zI (z))]) (rest := []) (L2 := []) (L' := [zMOd h (t) (ws) (ts) ([]) (op) (y) (r) (ct) (wh) (fd) (fr)]) (stk' := [.int (zI (scanE sDig t z))]) (c_MO_behindDigits h t ws ts ([]) op y r ct wh fd fr z (by omega) (by omega)) [0] [] rfl rfl rfl zcal_MO_behindDigits zl_MO_87 zin_MO_behindDigits zse_MO_behindDigits 0 rfl zRv_MOd rfl (Nat.le_of_ble_eq_true rfl) (Nat.le_of_ble_eq_true rfl) (by omega) (by omega) rfl (Nat.le_of_ble_eq_true rfl) rfl rfl zd_MO_isReal_2 ?_
  have sd2 := scanE_spec (f := sDig) (t := t) (p := z) (by omega)
  have se2 := scanE_ub (f := sDig) (t := t) (p := z) (by omega)
  refine zw_istore_n (lv' := [(3, .int (zI (scanE sDig t z))), (0, .ref h), (1, .int (zI (z))), (2, .int (zI (q)))]) (Nat.le_of_ble_eq_true rfl) rfl zd_MO_isReal_5 ?_
  refine zw_aload_n 1 rfl zd_MO_isReal_6 ?_
  refine zw_iload_n 0 rfl zd_MO_isReal_7 ?_
  refine zw_callV (As := [.int (zI (scanE sDig t z))]) (rest := []) (L2 := []) (L' := [zMOd h (t) (ws) (ts) ([]) (op) (y) (r) (ct) (wh) (fd) (fr)]) (stk' := [.int (zI (bget t (scanE sDig t z)))]) (c_MO_byteAt h t ws ts ([]) op y r ct wh fd fr (scanE sDig t z) (by omega)) [0] [] rfl rfl rfl zcal_MO_byteAt zl_MO_51 zin_MO_byteAt zse_MO_byteAt 0 rfl zRv_MOd rfl (Nat.le_of_ble_eq_true rfl) (Nat.le_of_ble_eq_true rfl) (by omega) (by omega) rfl (Nat.le_of_ble_eq_true rfl) rfl rfl zd_MO_isReal_8 ?_
  have rg8 := bget_rg hby (scanE sDig t z)
  refine zw_bipush rfl zd_MO_isReal_11 ?_
  refine zw_icmp_ne 20 (by omega) (by omega) zd_MO_isReal_13 (by decide) (fun c13 => ?_) (fun c13 => ?_)
  · -- 13 -> 20
    refine zw_iconst zd_MO_isReal_20 ?_
    refine zw_istore (lv' := [(4, .int (zI (0))), (3, .int (zI (scanE sDig t z))), (0, .ref h), (1, .int (zI (z))), (2, .int (zI (q)))]) (Nat.le_of_ble_eq_true rfl) rfl zd_MO_isReal_21 ?_
    refine zw_iload 0 rfl zd_MO_isReal_23 ?_
    refine zw_if_eq 38 (by omega) zd_MO_isReal_25 (by decide) (fun c25 => ?_) (fun c25 => ?_)
    · -- 25 -> 38
      refine zw_iload_n 1 rfl zd_MO_isReal_38 ?_
      refine zw_istore (lv' := [(5, .int (zI (scanE sDig t z))), (4, .int (zI (0))), (3, .int (zI (scanE sDig t z))), (0, .ref h), (1, .int (zI (z))), (2, .int (zI (q)))]) (Nat.le_of_ble_eq_true rfl) rfl zd_MO_isReal_39 ?_
      refine zw_iload 0 rfl zd_MO_isReal_41 ?_
      refine zw_iload_n 4 rfl zd_MO_isReal_43 ?_
      refine zw_isub zd_MO_isReal_44 ?_
      refine zw_iload 1 rfl zd_MO_isReal_45 ?_
      refine zw_if_eq 54 (by omega) zd_MO_isReal_47 (by decide) (fun c47 => ?_) (fun c47 => ?_)
      · -- 47 -> 54
        refine zw_iconst zd_MO_isReal_54 ?_
        refine zw_icmp_ne 60 (by omega) (by omega) zd_MO_isReal_55 (by decide) (fun c55 => ?_) (fun c55 => ?_)
        · -- 55 -> 60
          refine zw_iload 0 rfl zd_MO_isReal_60 ?_
          refine zw_iload_n 5 rfl zd_MO_isReal_62 ?_
          refine zw_icmp_ne 69 (by omega) (by omega) zd_MO_isReal_63 (by decide) (fun c63 => ?_) (fun c63 => ?_)
          · -- 63 -> 69
            refine zw_aload_n 3 rfl zd_MO_isReal_69 ?_
            refine zw_iload 0 rfl zd_MO_isReal_70 ?_
            refine zw_callV (As := [.int (zI (scanE sDig t z))]) (rest := []) (L2 := []) (L' := [zMOd h (t) (ws) (ts) ([]) (op) (y) (r) (ct) (wh) (fd) (fr)]) (stk' := [.int (zI (bget t (scanE sDig t z)))]) (c_MO_byteAt h t ws ts ([]) op y r ct wh fd fr (scanE sDig t z) (by omega)) [0] [] rfl rfl rfl zcal_MO_byteAt zl_MO_51 zin_MO_byteAt zse_MO_byteAt 0 rfl zRv_MOd rfl (Nat.le_of_ble_eq_true rfl) (Nat.le_of_ble_eq_true rfl) (by omega) (by omega) rfl (Nat.le_of_ble_eq_true rfl) rfl rfl zd_MO_isReal_72 ?_
            have rg72 := bget_rg hby (scanE sDig t z)
            refine zw_istore (lv' := [(6, .int (zI (bget t (scanE sDig t z)))), (5, .int (zI (scanE sDig t z))), (4, .int (zI (0))), (3, .int (zI (scanE sDig t z))), (0, .ref h), (1, .int (zI (z))), (2, .int (zI (q)))]) (Nat.le_of_ble_eq_true rfl) rfl zd_MO_isReal_75 ?_
            refine zw_iload 0 rfl zd_MO_isReal_77 ?_
            refine zw_bipush rfl zd_MO_isReal_79 ?_
            refine zw_icmp_eq 93 (by omega) (by omega) zd_MO_isReal_81 (by decide) (fun c81 => ?_) (fun c81 => ?_)
            · -- 81 -> 93
              refine zw_aload_n 4 rfl zd_MO_isReal_93 ?_
              refine zw_iload 1 rfl zd_MO_isReal_94 ?_
              refine zw_iconst zd_MO_isReal_96 ?_
              refine zw_iadd zd_MO_isReal_97 ?_
              refine zw_callV (As := [.int (zI ((scanE sDig t z) + 1))]) (rest := []) (L2 := []) (L' := [zMOd h (t) (ws) (ts) ([]) (op) (y) (r) (ct) (wh) (fd) (fr)]) (stk' := [.int (zI (bget t ((scanE sDig t z) + 1)))]) (c_MO_byteAt h t ws ts ([]) op y r ct wh fd fr ((scanE sDig t z) + 1) (by omega)) [0] [] rfl rfl rfl zcal_MO_byteAt zl_MO_51 zin_MO_byteAt zse_MO_byteAt 0 rfl zRv_MOd rfl (Nat.le_of_ble_eq_true rfl) (Nat.le_of_ble_eq_true rfl) (by omega) (by omega) rfl (Nat.le_of_ble_eq_true rfl) rfl rfl zd_MO_isReal_98 ?_
              have rg98 := bget_rg hby ((scanE sDig t z) + 1)
              refine zw_callS (a := 0) (As := [.int (zI (bget t ((scanE sDig t z) + 1)))]) (rest := []) (L2 := [zMOd h (t) (ws) (ts) ([]) (op) (y) (r) (ct) (wh) (fd) (fr)]) (L' := [zMOd h (t) (ws) (ts) ([]) (op) (y) (r) (ct) (wh) (fd) (fr)]) (stk' := [.int (zI (bI (sSign (bget t ((scanE sDig t z) + 1)))))]) (c_MO_isSign (bget t ((scanE sDig t z) + 1)) (by omega)) [] [0] rfl rfl rfl zcal_MO_isSign zl_MO_84 zst_MO_isSign (Nat.le_of_ble_eq_true rfl) (Nat.le_of_ble_eq_true rfl) (by omega) (by omega) rfl (Nat.le_of_ble_eq_true rfl) rfl rfl zd_MO_isReal_101 ?_
              have rb101 := bI_rg (sSign (bget t ((scanE sDig t z) + 1)))
              refine zw_if_eq 114 (by omega) zd_MO_isReal_104 (by decide) (fun c104 => ?_) (fun c104 => ?_)
              · -- 104 -> 114
                refine zw_iload 1 rfl zd_MO_isReal_114 ?_
                refine zw_iconst zd_MO_isReal_116 ?_
                refine zw_iadd zd_MO_isReal_117 ?_
                refine zw_istore (lv' := [(7, .int (zI ((scanE sDig t z) + 1))), (6, .int (zI (bget t (scanE sDig t z)))), (5, .int (zI (scanE sDig t z))), (4, .int (zI (0))), (3, .int (zI (scanE sDig t z))), (0, .ref h), (1, .int (zI (z))), (2, .int (zI (q)))]) (Nat.le_of_ble_eq_true rfl) rfl zd_MO_isReal_118 ?_
                refine zw_aload_n 5 rfl zd_MO_isReal_120 ?_
                refine zw_iload 0 rfl zd_MO_isReal_121 ?_
                refine zw_callV (As := [.int (zI ((scanE sDig t z) + 1))]) (rest := []) (L2 := []) (L' := [zMOd h (t) (ws) (ts) ([]) (op) (y) (r) (ct) (wh) (fd) (fr)]) (stk' := [.int (zI (scanE sDig t ((scanE sDig t z) + 1)))]) (c_MO_behindDigits h t ws ts ([]) op y r ct wh fd fr ((scanE sDig t z) + 1) (by omega) (by omega)) [0] [] rfl rfl rfl zcal_MO_behindDigits zl_MO_87 zin_MO_behindDigits zse_MO_behindDigits 0 rfl zRv_MOd rfl (Nat.le_of_ble_eq_true rfl) (Nat.le_of_ble_eq_true rfl) (by omega) (by omega) rfl (Nat.le_of_ble_eq_true rfl) rfl rfl zd_MO_isReal_123 ?_
                have sd123 := scanE_spec (f := sDig) (t := t) (p := (scanE sDig t z) + 1) (by omega)
                have se123 := scanE_ub (f := sDig) (t := t) (p := (scanE sDig t z) + 1) (by omega)
                refine zw_iload_n 7 rfl zd_MO_isReal_126 ?_
                refine zw_icmp_ne 140 (by omega) (by omega) zd_MO_isReal_127 (by decide) (fun c127 => ?_) (fun c127 => ?_)
                · -- 127 -> 140
                  refine zw_iconst zd_MO_isReal_140 ?_
                  have hF3 := hF2 (by omega)
                  have hX : exF t (scanE sDig t z) = scanE sDig t z + 1 := by unfold exF; rw [if_neg (by rw [zbI0 (b := sSign (bget t (scanE sDig t z + 1))) (by omega)]; decide)]
                  exact zw_zret hR rfl rfl rfl rfl (by omega) (by omega) zd_MO_isReal_141
                · -- 127 -> 130
                  refine zw_iload 0 rfl zd_MO_isReal_130 ?_
                  refine zw_iload_n 7 rfl zd_MO_isReal_132 ?_
                  refine zw_icmp_ge 140 (by omega) (by omega) zd_MO_isReal_133 (by decide) (fun c133 => ?_) (fun c133 => ?_)
                  · -- 133 -> 140
                    refine zw_iconst zd_MO_isReal_140 ?_
                    have hF3 := hF2 (by omega)
                    have hX : exF t (scanE sDig t z) = scanE sDig t z + 1 := by unfold exF; rw [if_neg (by rw [zbI0 (b := sSign (bget t (scanE sDig t z + 1))) (by omega)]; decide)]
                    exact zw_zret hR rfl rfl rfl rfl (by omega) (by omega) zd_MO_isReal_141
                  · -- 133 -> 136
                    refine zw_iconst zd_MO_isReal_136 ?_
                    refine zw_goto 141 zd_MO_isReal_137 (by decide) ?_
                    have hF3 := hF2 (by omega)
                    have hX : exF t (scanE sDig t z) = scanE sDig t z + 1 := by unfold exF; rw [if_neg (by rw [zbI0 (b := sSign (bget t (scanE sDig t z + 1))) (by omega)]; decide)]
                    exact absurd ⟨by omega, Or.inr ⟨by rw [hF3.1]; omega, by rw [hF3.1, hX]; omega, by rw [hF3.1, hX]; omega⟩⟩ hno
              · -- 104 -> 107
                refine zw_iload 1 rfl zd_MO_isReal_107 ?_
                refine zw_iconst zd_MO_isReal_109 ?_
                refine zw_iadd zd_MO_isReal_110 ?_
                refine zw_goto 118 zd_MO_isReal_111 (by decide) ?_
                refine zw_istore (lv' := [(7, .int (zI ((scanE sDig t z) + 2))), (6, .int (zI (bget t (scanE sDig t z)))), (5, .int (zI (scanE sDig t z))), (4, .int (zI (0))), (3, .int (zI (scanE sDig t z))), (0, .ref h), (1, .int (zI (z))), (2, .int (zI (q)))]) (Nat.le_of_ble_eq_true rfl) rfl zd_MO_isReal_118 ?_
                refine zw_aload_n 5 rfl zd_MO_isReal_120 ?_
                refine zw_iload 0 rfl zd_MO_isReal_121 ?_
                refine zw_callV (As := [.int (zI ((scanE sDig t z) + 2))]) (rest := []) (L2 := []) (L' := [zMOd h (t) (ws) (ts) ([]) (op) (y) (r) (ct) (wh) (fd) (fr)]) (stk' := [.int (zI (scanE sDig t ((scanE sDig t z) + 2)))]) (c_MO_behindDigits h t ws ts ([]) op y r ct wh fd fr ((scanE sDig t z) + 2) (by omega) (by omega)) [0] [] rfl rfl rfl zcal_MO_behindDigits zl_MO_87 zin_MO_behindDigits zse_MO_behindDigits 0 rfl zRv_MOd rfl (Nat.le_of_ble_eq_true rfl) (Nat.le_of_ble_eq_true rfl) (by omega) (by omega) rfl (Nat.le_of_ble_eq_true rfl) rfl rfl zd_MO_isReal_123 ?_
                have sd123 := scanE_spec (f := sDig) (t := t) (p := (scanE sDig t z) + 2) (by omega)
                have se123 := scanE_ub (f := sDig) (t := t) (p := (scanE sDig t z) + 2) (by omega)
                refine zw_iload_n 7 rfl zd_MO_isReal_126 ?_
                refine zw_icmp_ne 140 (by omega) (by omega) zd_MO_isReal_127 (by decide) (fun c127 => ?_) (fun c127 => ?_)
                · -- 127 -> 140
                  refine zw_iconst zd_MO_isReal_140 ?_
                  have hF3 := hF2 (by omega)
                  have hX : exF t (scanE sDig t z) = scanE sDig t z + 2 := by unfold exF; rw [if_pos (zbI1 (by omega))]
                  exact zw_zret hR rfl rfl rfl rfl (by omega) (by omega) zd_MO_isReal_141
                · -- 127 -> 130
                  refine zw_iload 0 rfl zd_MO_isReal_130 ?_
                  refine zw_iload_n 7 rfl zd_MO_isReal_132 ?_
                  refine zw_icmp_ge 140 (by omega) (by omega) zd_MO_isReal_133 (by decide) (fun c133 => ?_) (fun c133 => ?_)
                  · -- 133 -> 140
                    refine zw_iconst zd_MO_isReal_140 ?_
                    have hF3 := hF2 (by omega)
                    have hX : exF t (scanE sDig t z) = scanE sDig t z + 2 := by unfold exF; rw [if_pos (zbI1 (by omega))]
                    exact zw_zret hR rfl rfl rfl rfl (by omega) (by omega) zd_MO_isReal_141
                  · -- 133 -> 136
                    refine zw_iconst zd_MO_isReal_136 ?_
                    refine zw_goto 141 zd_MO_isReal_137 (by decide) ?_
                    have hF3 := hF2 (by omega)
                    have hX : exF t (scanE sDig t z) = scanE sDig t z + 2 := by unfold exF; rw [if_pos (zbI1 (by omega))]
                    exact absurd ⟨by omega, Or.inr ⟨by rw [hF3.1]; omega, by rw [hF3.1, hX]; omega, by rw [hF3.1, hX]; omega⟩⟩ hno
            · -- 81 -> 84
              refine zw_iload 0 rfl zd_MO_isReal_84 ?_
              refine zw_bipush rfl zd_MO_isReal_86 ?_
              refine zw_icmp_eq 93 (by omega) (by omega) zd_MO_isReal_88 (by decide) (fun c88 => ?_) (fun c88 => ?_)
              · -- 88 -> 93
                refine zw_aload_n 4 rfl zd_MO_isReal_93 ?_
                refine zw_iload 1 rfl zd_MO_isReal_94 ?_
                refine zw_iconst zd_MO_isReal_96 ?_
                refine zw_iadd zd_MO_isReal_97 ?_
                refine zw_callV (As := [.int (zI ((scanE sDig t z) + 1))]) (rest := []) (L2 := []) (L' := [zMOd h (t) (ws) (ts) ([]) (op) (y) (r) (ct) (wh) (fd) (fr)]) (stk' := [.int (zI (bget t ((scanE sDig t z) + 1)))]) (c_MO_byteAt h t ws ts ([]) op y r ct wh fd fr ((scanE sDig t z) + 1) (by omega)) [0] [] rfl rfl rfl zcal_MO_byteAt zl_MO_51 zin_MO_byteAt zse_MO_byteAt 0 rfl zRv_MOd rfl (Nat.le_of_ble_eq_true rfl) (Nat.le_of_ble_eq_true rfl) (by omega) (by omega) rfl (Nat.le_of_ble_eq_true rfl) rfl rfl zd_MO_isReal_98 ?_
                have rg98 := bget_rg hby ((scanE sDig t z) + 1)
                refine zw_callS (a := 0) (As := [.int (zI (bget t ((scanE sDig t z) + 1)))]) (rest := []) (L2 := [zMOd h (t) (ws) (ts) ([]) (op) (y) (r) (ct) (wh) (fd) (fr)]) (L' := [zMOd h (t) (ws) (ts) ([]) (op) (y) (r) (ct) (wh) (fd) (fr)]) (stk' := [.int (zI (bI (sSign (bget t ((scanE sDig t z) + 1)))))]) (c_MO_isSign (bget t ((scanE sDig t z) + 1)) (by omega)) [] [0] rfl rfl rfl zcal_MO_isSign zl_MO_84 zst_MO_isSign (Nat.le_of_ble_eq_true rfl) (Nat.le_of_ble_eq_true rfl) (by omega) (by omega) rfl (Nat.le_of_ble_eq_true rfl) rfl rfl zd_MO_isReal_101 ?_
                have rb101 := bI_rg (sSign (bget t ((scanE sDig t z) + 1)))
                refine zw_if_eq 114 (by omega) zd_MO_isReal_104 (by decide) (fun c104 => ?_) (fun c104 => ?_)
                · -- 104 -> 114
                  refine zw_iload 1 rfl zd_MO_isReal_114 ?_
                  refine zw_iconst zd_MO_isReal_116 ?_
                  refine zw_iadd zd_MO_isReal_117 ?_
                  refine zw_istore (lv' := [(7, .int (zI ((scanE sDig t z) + 1))), (6, .int (zI (bget t (scanE sDig t z)))), (5, .int (zI (scanE sDig t z))), (4, .int (zI (0))), (3, .int (zI (scanE sDig t z))), (0, .ref h), (1, .int (zI (z))), (2, .int (zI (q)))]) (Nat.le_of_ble_eq_true rfl) rfl zd_MO_isReal_118 ?_
                  refine zw_aload_n 5 rfl zd_MO_isReal_120 ?_
                  refine zw_iload 0 rfl zd_MO_isReal_121 ?_
                  refine zw_callV (As := [.int (zI ((scanE sDig t z) + 1))]) (rest := []) (L2 := []) (L' := [zMOd h (t) (ws) (ts) ([]) (op) (y) (r) (ct) (wh) (fd) (fr)]) (stk' := [.int (zI (scanE sDig t ((scanE sDig t z) + 1)))]) (c_MO_behindDigits h t ws ts ([]) op y r ct wh fd fr ((scanE sDig t z) + 1) (by omega) (by omega)) [0] [] rfl rfl rfl zcal_MO_behindDigits zl_MO_87 zin_MO_behindDigits zse_MO_behindDigits 0 rfl zRv_MOd rfl (Nat.le_of_ble_eq_true rfl) (Nat.le_of_ble_eq_true rfl) (by omega) (by omega) rfl (Nat.le_of_ble_eq_true rfl) rfl rfl zd_MO_isReal_123 ?_
                  have sd123 := scanE_spec (f := sDig) (t := t) (p := (scanE sDig t z) + 1) (by omega)
                  have se123 := scanE_ub (f := sDig) (t := t) (p := (scanE sDig t z) + 1) (by omega)
                  refine zw_iload_n 7 rfl zd_MO_isReal_126 ?_
                  refine zw_icmp_ne 140 (by omega) (by omega) zd_MO_isReal_127 (by decide) (fun c127 => ?_) (fun c127 => ?_)
                  · -- 127 -> 140
                    refine zw_iconst zd_MO_isReal_140 ?_
                    have hF3 := hF2 (by omega)
                    have hX : exF t (scanE sDig t z) = scanE sDig t z + 1 := by unfold exF; rw [if_neg (by rw [zbI0 (b := sSign (bget t (scanE sDig t z + 1))) (by omega)]; decide)]
                    exact zw_zret hR rfl rfl rfl rfl (by omega) (by omega) zd_MO_isReal_141
                  · -- 127 -> 130
                    refine zw_iload 0 rfl zd_MO_isReal_130 ?_
                    refine zw_iload_n 7 rfl zd_MO_isReal_132 ?_
                    refine zw_icmp_ge 140 (by omega) (by omega) zd_MO_isReal_133 (by decide) (fun c133 => ?_) (fun c133 => ?_)
                    · -- 133 -> 140
                      refine zw_iconst zd_MO_isReal_140 ?_
                      have hF3 := hF2 (by omega)
                      have hX : exF t (scanE sDig t z) = scanE sDig t z + 1 := by unfold exF; rw [if_neg (by rw [zbI0 (b := sSign (bget t (scanE sDig t z + 1))) (by omega)]; decide)]
                      exact zw_zret hR rfl rfl rfl rfl (by omega) (by omega) zd_MO_isReal_141
                    · -- 133 -> 136
                      refine zw_iconst zd_MO_isReal_136 ?_
                      refine zw_goto 141 zd_MO_isReal_137 (by decide) ?_
                      have hF3 := hF2 (by omega)
                      have hX : exF t (scanE sDig t z) = scanE sDig t z + 1 := by unfold exF; rw [if_neg (by rw [zbI0 (b := sSign (bget t (scanE sDig t z + 1))) (by omega)]; decide)]
                      exact absurd ⟨by omega, Or.inr ⟨by rw [hF3.1]; omega, by rw [hF3.1, hX]; omega, by rw [hF3.1, hX]; omega⟩⟩ hno
                · -- 104 -> 107
                  refine zw_iload 1 rfl zd_MO_isReal_107 ?_
                  refine zw_iconst zd_MO_isReal_109 ?_
                  refine zw_iadd zd_MO_isReal_110 ?_
                  refine zw_goto 118 zd_MO_isReal_111 (by decide) ?_
                  refine zw_istore (lv' := [(7, .int (zI ((scanE sDig t z) + 2))), (6, .int (zI (bget t (scanE sDig t z)))), (5, .int (zI (scanE sDig t z))), (4, .int (zI (0))), (3, .int (zI (scanE sDig t z))), (0, .ref h), (1, .int (zI (z))), (2, .int (zI (q)))]) (Nat.le_of_ble_eq_true rfl) rfl zd_MO_isReal_118 ?_
                  refine zw_aload_n 5 rfl zd_MO_isReal_120 ?_
                  refine zw_iload 0 rfl zd_MO_isReal_121 ?_
                  refine zw_callV (As := [.int (zI ((scanE sDig t z) + 2))]) (rest := []) (L2 := []) (L' := [zMOd h (t) (ws) (ts) ([]) (op) (y) (r) (ct) (wh) (fd) (fr)]) (stk' := [.int (zI (scanE sDig t ((scanE sDig t z) + 2)))]) (c_MO_behindDigits h t ws ts ([]) op y r ct wh fd fr ((scanE sDig t z) + 2) (by omega) (by omega)) [0] [] rfl rfl rfl zcal_MO_behindDigits zl_MO_87 zin_MO_behindDigits zse_MO_behindDigits 0 rfl zRv_MOd rfl (Nat.le_of_ble_eq_true rfl) (Nat.le_of_ble_eq_true rfl) (by omega) (by omega) rfl (Nat.le_of_ble_eq_true rfl) rfl rfl zd_MO_isReal_123 ?_
                  have sd123 := scanE_spec (f := sDig) (t := t) (p := (scanE sDig t z) + 2) (by omega)
                  have se123 := scanE_ub (f := sDig) (t := t) (p := (scanE sDig t z) + 2) (by omega)
                  refine zw_iload_n 7 rfl zd_MO_isReal_126 ?_
                  refine zw_icmp_ne 140 (by omega) (by omega) zd_MO_isReal_127 (by decide) (fun c127 => ?_) (fun c127 => ?_)
                  · -- 127 -> 140
                    refine zw_iconst zd_MO_isReal_140 ?_
                    have hF3 := hF2 (by omega)
                    have hX : exF t (scanE sDig t z) = scanE sDig t z + 2 := by unfold exF; rw [if_pos (zbI1 (by omega))]
                    exact zw_zret hR rfl rfl rfl rfl (by omega) (by omega) zd_MO_isReal_141
                  · -- 127 -> 130
                    refine zw_iload 0 rfl zd_MO_isReal_130 ?_
                    refine zw_iload_n 7 rfl zd_MO_isReal_132 ?_
                    refine zw_icmp_ge 140 (by omega) (by omega) zd_MO_isReal_133 (by decide) (fun c133 => ?_) (fun c133 => ?_)
                    · -- 133 -> 140
                      refine zw_iconst zd_MO_isReal_140 ?_
                      have hF3 := hF2 (by omega)
                      have hX : exF t (scanE sDig t z) = scanE sDig t z + 2 := by unfold exF; rw [if_pos (zbI1 (by omega))]
                      exact zw_zret hR rfl rfl rfl rfl (by omega) (by omega) zd_MO_isReal_141
                    · -- 133 -> 136
                      refine zw_iconst zd_MO_isReal_136 ?_
                      refine zw_goto 141 zd_MO_isReal_137 (by decide) ?_
                      have hF3 := hF2 (by omega)
                      have hX : exF t (scanE sDig t z) = scanE sDig t z + 2 := by unfold exF; rw [if_pos (zbI1 (by omega))]
                      exact absurd ⟨by omega, Or.inr ⟨by rw [hF3.1]; omega, by rw [hF3.1, hX]; omega, by rw [hF3.1, hX]; omega⟩⟩ hno
              · -- 88 -> 91
                refine zw_iconst zd_MO_isReal_91 ?_
                have hF3 := hF2 (by omega)
                exact zw_zret hR rfl rfl rfl rfl (by omega) (by omega) zd_MO_isReal_92
          · -- 63 -> 66
            refine zw_iload 1 rfl zd_MO_isReal_66 ?_
            have hF3 := hF2 (by omega)
            exact zw_zret hR rfl rfl rfl rfl (by omega) (by omega) zd_MO_isReal_68
        · -- 55 -> 58
          refine zw_iconst zd_MO_isReal_58 ?_
          have hF3 := hF2 (by omega)
          exact zw_zret hR rfl rfl rfl rfl (by omega) (by omega) zd_MO_isReal_59
      · -- 47 -> 50
        exact absurd c47 (by decide)
    · -- 25 -> 28
      exact absurd c25 (by decide)
  · -- 13 -> 16
    refine zw_iconst zd_MO_isReal_16 ?_
    refine zw_goto 21 zd_MO_isReal_17 (by decide) ?_
    refine zw_istore (lv' := [(4, .int (zI (1))), (3, .int (zI (scanE sDig t z))), (0, .ref h), (1, .int (zI (z))), (2, .int (zI (q)))]) (Nat.le_of_ble_eq_true rfl) rfl zd_MO_isReal_21 ?_
    refine zw_iload 0 rfl zd_MO_isReal_23 ?_
    refine zw_if_eq 38 (by omega) zd_MO_isReal_25 (by decide) (fun c25 => ?_) (fun c25 => ?_)
    · -- 25 -> 38
      exact absurd c25 (by decide)
    · -- 25 -> 28
      refine zw_aload_n 2 rfl zd_MO_isReal_28 ?_
      refine zw_iload_n 1 rfl zd_MO_isReal_29 ?_
      refine zw_iconst zd_MO_isReal_30 ?_
      refine zw_iadd zd_MO_isReal_31 ?_
      refine zw_callV (As := [.int (zI ((scanE sDig t z) + 1))]) (rest := []) (L2 := []) (L' := [zMOd h (t) (ws) (ts) ([]) (op) (y) (r) (ct) (wh) (fd) (fr)]) (stk' := [.int (zI (scanE sDig t ((scanE sDig t z) + 1)))]) (c_MO_behindDigits h t ws ts ([]) op y r ct wh fd fr ((scanE sDig t z) + 1) (by omega) (by omega)) [0] [] rfl rfl rfl zcal_MO_behindDigits zl_MO_87 zin_MO_behindDigits zse_MO_behindDigits 0 rfl zRv_MOd rfl (Nat.le_of_ble_eq_true rfl) (Nat.le_of_ble_eq_true rfl) (by omega) (by omega) rfl (Nat.le_of_ble_eq_true rfl) rfl rfl zd_MO_isReal_32 ?_
      have sd32 := scanE_spec (f := sDig) (t := t) (p := (scanE sDig t z) + 1) (by omega)
      have se32 := scanE_ub (f := sDig) (t := t) (p := (scanE sDig t z) + 1) (by omega)
      refine zw_goto 39 zd_MO_isReal_35 (by decide) ?_
      refine zw_istore (lv' := [(5, .int (zI (scanE sDig t ((scanE sDig t z) + 1)))), (4, .int (zI (1))), (3, .int (zI (scanE sDig t z))), (0, .ref h), (1, .int (zI (z))), (2, .int (zI (q)))]) (Nat.le_of_ble_eq_true rfl) rfl zd_MO_isReal_39 ?_
      have sdp := scanD_rg (t := t) (f := scanE sDig t z + 1) (e := q) (by have := bget_in (l := t) (z := scanE sDig t z) (by omega); have : scanE sDig t z ≠ q := (fun e => by rw [e] at c13; omega); omega) q1
      refine zw_iload 0 rfl zd_MO_isReal_41 ?_
      refine zw_iload_n 4 rfl zd_MO_isReal_43 ?_
      refine zw_isub zd_MO_isReal_44 ?_
      refine zw_iload 1 rfl zd_MO_isReal_45 ?_
      refine zw_if_eq 54 (by omega) zd_MO_isReal_47 (by decide) (fun c47 => ?_) (fun c47 => ?_)
      · -- 47 -> 54
        exact absurd c47 (by decide)
      · -- 47 -> 50
        refine zw_iconst zd_MO_isReal_50 ?_
        refine zw_goto 55 zd_MO_isReal_51 (by decide) ?_
        refine zw_icmp_ne 60 (by omega) (by omega) zd_MO_isReal_55 (by decide) (fun c55 => ?_) (fun c55 => ?_)
        · -- 55 -> 60
          refine zw_iload 0 rfl zd_MO_isReal_60 ?_
          refine zw_iload_n 5 rfl zd_MO_isReal_62 ?_
          refine zw_icmp_ne 69 (by omega) (by omega) zd_MO_isReal_63 (by decide) (fun c63 => ?_) (fun c63 => ?_)
          · -- 63 -> 69
            refine zw_aload_n 3 rfl zd_MO_isReal_69 ?_
            refine zw_iload 0 rfl zd_MO_isReal_70 ?_
            refine zw_callV (As := [.int (zI (scanE sDig t ((scanE sDig t z) + 1)))]) (rest := []) (L2 := []) (L' := [zMOd h (t) (ws) (ts) ([]) (op) (y) (r) (ct) (wh) (fd) (fr)]) (stk' := [.int (zI (bget t (scanE sDig t ((scanE sDig t z) + 1))))]) (c_MO_byteAt h t ws ts ([]) op y r ct wh fd fr (scanE sDig t ((scanE sDig t z) + 1)) (by omega)) [0] [] rfl rfl rfl zcal_MO_byteAt zl_MO_51 zin_MO_byteAt zse_MO_byteAt 0 rfl zRv_MOd rfl (Nat.le_of_ble_eq_true rfl) (Nat.le_of_ble_eq_true rfl) (by omega) (by omega) rfl (Nat.le_of_ble_eq_true rfl) rfl rfl zd_MO_isReal_72 ?_
            have rg72 := bget_rg hby (scanE sDig t ((scanE sDig t z) + 1))
            refine zw_istore (lv' := [(6, .int (zI (bget t (scanE sDig t ((scanE sDig t z) + 1))))), (5, .int (zI (scanE sDig t ((scanE sDig t z) + 1)))), (4, .int (zI (1))), (3, .int (zI (scanE sDig t z))), (0, .ref h), (1, .int (zI (z))), (2, .int (zI (q)))]) (Nat.le_of_ble_eq_true rfl) rfl zd_MO_isReal_75 ?_
            refine zw_iload 0 rfl zd_MO_isReal_77 ?_
            refine zw_bipush rfl zd_MO_isReal_79 ?_
            refine zw_icmp_eq 93 (by omega) (by omega) zd_MO_isReal_81 (by decide) (fun c81 => ?_) (fun c81 => ?_)
            · -- 81 -> 93
              refine zw_aload_n 4 rfl zd_MO_isReal_93 ?_
              refine zw_iload 1 rfl zd_MO_isReal_94 ?_
              refine zw_iconst zd_MO_isReal_96 ?_
              refine zw_iadd zd_MO_isReal_97 ?_
              refine zw_callV (As := [.int (zI ((scanE sDig t ((scanE sDig t z) + 1)) + 1))]) (rest := []) (L2 := []) (L' := [zMOd h (t) (ws) (ts) ([]) (op) (y) (r) (ct) (wh) (fd) (fr)]) (stk' := [.int (zI (bget t ((scanE sDig t ((scanE sDig t z) + 1)) + 1)))]) (c_MO_byteAt h t ws ts ([]) op y r ct wh fd fr ((scanE sDig t ((scanE sDig t z) + 1)) + 1) (by omega)) [0] [] rfl rfl rfl zcal_MO_byteAt zl_MO_51 zin_MO_byteAt zse_MO_byteAt 0 rfl zRv_MOd rfl (Nat.le_of_ble_eq_true rfl) (Nat.le_of_ble_eq_true rfl) (by omega) (by omega) rfl (Nat.le_of_ble_eq_true rfl) rfl rfl zd_MO_isReal_98 ?_
              have rg98 := bget_rg hby ((scanE sDig t ((scanE sDig t z) + 1)) + 1)
              refine zw_callS (a := 0) (As := [.int (zI (bget t ((scanE sDig t ((scanE sDig t z) + 1)) + 1)))]) (rest := []) (L2 := [zMOd h (t) (ws) (ts) ([]) (op) (y) (r) (ct) (wh) (fd) (fr)]) (L' := [zMOd h (t) (ws) (ts) ([]) (op) (y) (r) (ct) (wh) (fd) (fr)]) (stk' := [.int (zI (bI (sSign (bget t ((scanE sDig t ((scanE sDig t z) + 1)) + 1)))))]) (c_MO_isSign (bget t ((scanE sDig t ((scanE sDig t z) + 1)) + 1)) (by omega)) [] [0] rfl rfl rfl zcal_MO_isSign zl_MO_84 zst_MO_isSign (Nat.le_of_ble_eq_true rfl) (Nat.le_of_ble_eq_true rfl) (by omega) (by omega) rfl (Nat.le_of_ble_eq_true rfl) rfl rfl zd_MO_isReal_101 ?_
              have rb101 := bI_rg (sSign (bget t ((scanE sDig t ((scanE sDig t z) + 1)) + 1)))
              refine zw_if_eq 114 (by omega) zd_MO_isReal_104 (by decide) (fun c104 => ?_) (fun c104 => ?_)
              · -- 104 -> 114
                refine zw_iload 1 rfl zd_MO_isReal_114 ?_
                refine zw_iconst zd_MO_isReal_116 ?_
                refine zw_iadd zd_MO_isReal_117 ?_
                refine zw_istore (lv' := [(7, .int (zI ((scanE sDig t ((scanE sDig t z) + 1)) + 1))), (6, .int (zI (bget t (scanE sDig t ((scanE sDig t z) + 1))))), (5, .int (zI (scanE sDig t ((scanE sDig t z) + 1)))), (4, .int (zI (1))), (3, .int (zI (scanE sDig t z))), (0, .ref h), (1, .int (zI (z))), (2, .int (zI (q)))]) (Nat.le_of_ble_eq_true rfl) rfl zd_MO_isReal_118 ?_
                refine zw_aload_n 5 rfl zd_MO_isReal_120 ?_
                refine zw_iload 0 rfl zd_MO_isReal_121 ?_
                refine zw_callV (As := [.int (zI ((scanE sDig t ((scanE sDig t z) + 1)) + 1))]) (rest := []) (L2 := []) (L' := [zMOd h (t) (ws) (ts) ([]) (op) (y) (r) (ct) (wh) (fd) (fr)]) (stk' := [.int (zI (scanE sDig t ((scanE sDig t ((scanE sDig t z) + 1)) + 1)))]) (c_MO_behindDigits h t ws ts ([]) op y r ct wh fd fr ((scanE sDig t ((scanE sDig t z) + 1)) + 1) (by omega) (by omega)) [0] [] rfl rfl rfl zcal_MO_behindDigits zl_MO_87 zin_MO_behindDigits zse_MO_behindDigits 0 rfl zRv_MOd rfl (Nat.le_of_ble_eq_true rfl) (Nat.le_of_ble_eq_true rfl) (by omega) (by omega) rfl (Nat.le_of_ble_eq_true rfl) rfl rfl zd_MO_isReal_123 ?_
                have sd123 := scanE_spec (f := sDig) (t := t) (p := (scanE sDig t ((scanE sDig t z) + 1)) + 1) (by omega)
                have se123 := scanE_ub (f := sDig) (t := t) (p := (scanE sDig t ((scanE sDig t z) + 1)) + 1) (by omega)
                refine zw_iload_n 7 rfl zd_MO_isReal_126 ?_
                refine zw_icmp_ne 140 (by omega) (by omega) zd_MO_isReal_127 (by decide) (fun c127 => ?_) (fun c127 => ?_)
                · -- 127 -> 140
                  refine zw_iconst zd_MO_isReal_140 ?_
                  have hF3 := hF1 (by omega)
                  have hX : exF t (scanE sDig t ((scanE sDig t z) + 1)) = scanE sDig t ((scanE sDig t z) + 1) + 1 := by unfold exF; rw [if_neg (by rw [zbI0 (b := sSign (bget t (scanE sDig t ((scanE sDig t z) + 1) + 1))) (by omega)]; decide)]
                  exact zw_zret hR rfl rfl rfl rfl (by omega) (by omega) zd_MO_isReal_141
                · -- 127 -> 130
                  refine zw_iload 0 rfl zd_MO_isReal_130 ?_
                  refine zw_iload_n 7 rfl zd_MO_isReal_132 ?_
                  refine zw_icmp_ge 140 (by omega) (by omega) zd_MO_isReal_133 (by decide) (fun c133 => ?_) (fun c133 => ?_)
                  · -- 133 -> 140
                    refine zw_iconst zd_MO_isReal_140 ?_
                    have hF3 := hF1 (by omega)
                    have hX : exF t (scanE sDig t ((scanE sDig t z) + 1)) = scanE sDig t ((scanE sDig t z) + 1) + 1 := by unfold exF; rw [if_neg (by rw [zbI0 (b := sSign (bget t (scanE sDig t ((scanE sDig t z) + 1) + 1))) (by omega)]; decide)]
                    exact zw_zret hR rfl rfl rfl rfl (by omega) (by omega) zd_MO_isReal_141
                  · -- 133 -> 136
                    refine zw_iconst zd_MO_isReal_136 ?_
                    refine zw_goto 141 zd_MO_isReal_137 (by decide) ?_
                    have hF3 := hF1 (by omega)
                    have hX : exF t (scanE sDig t ((scanE sDig t z) + 1)) = scanE sDig t ((scanE sDig t z) + 1) + 1 := by unfold exF; rw [if_neg (by rw [zbI0 (b := sSign (bget t (scanE sDig t ((scanE sDig t z) + 1) + 1))) (by omega)]; decide)]
                    exact absurd ⟨by omega, Or.inr ⟨by rw [hF3.1]; omega, by rw [hF3.1, hX]; omega, by rw [hF3.1, hX]; omega⟩⟩ hno
              · -- 104 -> 107
                refine zw_iload 1 rfl zd_MO_isReal_107 ?_
                refine zw_iconst zd_MO_isReal_109 ?_
                refine zw_iadd zd_MO_isReal_110 ?_
                refine zw_goto 118 zd_MO_isReal_111 (by decide) ?_
                refine zw_istore (lv' := [(7, .int (zI ((scanE sDig t ((scanE sDig t z) + 1)) + 2))), (6, .int (zI (bget t (scanE sDig t ((scanE sDig t z) + 1))))), (5, .int (zI (scanE sDig t ((scanE sDig t z) + 1)))), (4, .int (zI (1))), (3, .int (zI (scanE sDig t z))), (0, .ref h), (1, .int (zI (z))), (2, .int (zI (q)))]) (Nat.le_of_ble_eq_true rfl) rfl zd_MO_isReal_118 ?_
                refine zw_aload_n 5 rfl zd_MO_isReal_120 ?_
                refine zw_iload 0 rfl zd_MO_isReal_121 ?_
                refine zw_callV (As := [.int (zI ((scanE sDig t ((scanE sDig t z) + 1)) + 2))]) (rest := []) (L2 := []) (L' := [zMOd h (t) (ws) (ts) ([]) (op) (y) (r) (ct) (wh) (fd) (fr)]) (stk' := [.int (zI (scanE sDig t ((scanE sDig t ((scanE sDig t z) + 1)) + 2)))]) (c_MO_behindDigits h t ws ts ([]) op y r ct wh fd fr ((scanE sDig t ((scanE sDig t z) + 1)) + 2) (by omega) (by omega)) [0] [] rfl rfl rfl zcal_MO_behindDigits zl_MO_87 zin_MO_behindDigits zse_MO_behindDigits 0 rfl zRv_MOd rfl (Nat.le_of_ble_eq_true rfl) (Nat.le_of_ble_eq_true rfl) (by omega) (by omega) rfl (Nat.le_of_ble_eq_true rfl) rfl rfl zd_MO_isReal_123 ?_
                have sd123 := scanE_spec (f := sDig) (t := t) (p := (scanE sDig t ((scanE sDig t z) + 1)) + 2) (by omega)
                have se123 := scanE_ub (f := sDig) (t := t) (p := (scanE sDig t ((scanE sDig t z) + 1)) + 2) (by omega)
                refine zw_iload_n 7 rfl zd_MO_isReal_126 ?_
                refine zw_icmp_ne 140 (by omega) (by omega) zd_MO_isReal_127 (by decide) (fun c127 => ?_) (fun c127 => ?_)
                · -- 127 -> 140
                  refine zw_iconst zd_MO_isReal_140 ?_
                  have hF3 := hF1 (by omega)
                  have hX : exF t (scanE sDig t ((scanE sDig t z) + 1)) = scanE sDig t ((scanE sDig t z) + 1) + 2 := by unfold exF; rw [if_pos (zbI1 (by omega))]
                  exact zw_zret hR rfl rfl rfl rfl (by omega) (by omega) zd_MO_isReal_141
                · -- 127 -> 130
                  refine zw_iload 0 rfl zd_MO_isReal_130 ?_
                  refine zw_iload_n 7 rfl zd_MO_isReal_132 ?_
                  refine zw_icmp_ge 140 (by omega) (by omega) zd_MO_isReal_133 (by decide) (fun c133 => ?_) (fun c133 => ?_)
                  · -- 133 -> 140
                    refine zw_iconst zd_MO_isReal_140 ?_
                    have hF3 := hF1 (by omega)
                    have hX : exF t (scanE sDig t ((scanE sDig t z) + 1)) = scanE sDig t ((scanE sDig t z) + 1) + 2 := by unfold exF; rw [if_pos (zbI1 (by omega))]
                    exact zw_zret hR rfl rfl rfl rfl (by omega) (by omega) zd_MO_isReal_141
                  · -- 133 -> 136
                    refine zw_iconst zd_MO_isReal_136 ?_
                    refine zw_goto 141 zd_MO_isReal_137 (by decide) ?_
                    have hF3 := hF1 (by omega)
                    have hX : exF t (scanE sDig t ((scanE sDig t z) + 1)) = scanE sDig t ((scanE sDig t z) + 1) + 2 := by unfold exF; rw [if_pos (zbI1 (by omega))]
                    exact absurd ⟨by omega, Or.inr ⟨by rw [hF3.1]; omega, by rw [hF3.1, hX]; omega, by rw [hF3.1, hX]; omega⟩⟩ hno
            · -- 81 -> 84
              refine zw_iload 0 rfl zd_MO_isReal_84 ?_
              refine zw_bipush rfl zd_MO_isReal_86 ?_
              refine zw_icmp_eq 93 (by omega) (by omega) zd_MO_isReal_88 (by decide) (fun c88 => ?_) (fun c88 => ?_)
              · -- 88 -> 93
                refine zw_aload_n 4 rfl zd_MO_isReal_93 ?_
                refine zw_iload 1 rfl zd_MO_isReal_94 ?_
                refine zw_iconst zd_MO_isReal_96 ?_
                refine zw_iadd zd_MO_isReal_97 ?_
                refine zw_callV (As := [.int (zI ((scanE sDig t ((scanE sDig t z) + 1)) + 1))]) (rest := []) (L2 := []) (L' := [zMOd h (t) (ws) (ts) ([]) (op) (y) (r) (ct) (wh) (fd) (fr)]) (stk' := [.int (zI (bget t ((scanE sDig t ((scanE sDig t z) + 1)) + 1)))]) (c_MO_byteAt h t ws ts ([]) op y r ct wh fd fr ((scanE sDig t ((scanE sDig t z) + 1)) + 1) (by omega)) [0] [] rfl rfl rfl zcal_MO_byteAt zl_MO_51 zin_MO_byteAt zse_MO_byteAt 0 rfl zRv_MOd rfl (Nat.le_of_ble_eq_true rfl) (Nat.le_of_ble_eq_true rfl) (by omega) (by omega) rfl (Nat.le_of_ble_eq_true rfl) rfl rfl zd_MO_isReal_98 ?_
                have rg98 := bget_rg hby ((scanE sDig t ((scanE sDig t z) + 1)) + 1)
                refine zw_callS (a := 0) (As := [.int (zI (bget t ((scanE sDig t ((scanE sDig t z) + 1)) + 1)))]) (rest := []) (L2 := [zMOd h (t) (ws) (ts) ([]) (op) (y) (r) (ct) (wh) (fd) (fr)]) (L' := [zMOd h (t) (ws) (ts) ([]) (op) (y) (r) (ct) (wh) (fd) (fr)]) (stk' := [.int (zI (bI (sSign (bget t ((scanE sDig t ((scanE sDig t z) + 1)) + 1)))))]) (c_MO_isSign (bget t ((scanE sDig t ((scanE sDig t z) + 1)) + 1)) (by omega)) [] [0] rfl rfl rfl zcal_MO_isSign zl_MO_84 zst_MO_isSign (Nat.le_of_ble_eq_true rfl) (Nat.le_of_ble_eq_true rfl) (by omega) (by omega) rfl (Nat.le_of_ble_eq_true rfl) rfl rfl zd_MO_isReal_101 ?_
                have rb101 := bI_rg (sSign (bget t ((scanE sDig t ((scanE sDig t z) + 1)) + 1)))
                refine zw_if_eq 114 (by omega) zd_MO_isReal_104 (by decide) (fun c104 => ?_) (fun c104 => ?_)
                · -- 104 -> 114
                  refine zw_iload 1 rfl zd_MO_isReal_114 ?_
                  refine zw_iconst zd_MO_isReal_116 ?_
                  refine zw_iadd zd_MO_isReal_117 ?_
                  refine zw_istore (lv' := [(7, .int (zI ((scanE sDig t ((scanE sDig t z) + 1)) + 1))), (6, .int (zI (bget t (scanE sDig t ((scanE sDig t z) + 1))))), (5, .int (zI (scanE sDig t ((scanE sDig t z) + 1)))), (4, .int (zI (1))), (3, .int (zI (scanE sDig t z))), (0, .ref h), (1, .int (zI (z))), (2, .int (zI (q)))]) (Nat.le_of_ble_eq_true rfl) rfl zd_MO_isReal_118 ?_
                  refine zw_aload_n 5 rfl zd_MO_isReal_120 ?_
                  refine zw_iload 0 rfl zd_MO_isReal_121 ?_
                  refine zw_callV (As := [.int (zI ((scanE sDig t ((scanE sDig t z) + 1)) + 1))]) (rest := []) (L2 := []) (L' := [zMOd h (t) (ws) (ts) ([]) (op) (y) (r) (ct) (wh) (fd) (fr)]) (stk' := [.int (zI (scanE sDig t ((scanE sDig t ((scanE sDig t z) + 1)) + 1)))]) (c_MO_behindDigits h t ws ts ([]) op y r ct wh fd fr ((scanE sDig t ((scanE sDig t z) + 1)) + 1) (by omega) (by omega)) [0] [] rfl rfl rfl zcal_MO_behindDigits zl_MO_87 zin_MO_behindDigits zse_MO_behindDigits 0 rfl zRv_MOd rfl (Nat.le_of_ble_eq_true rfl) (Nat.le_of_ble_eq_true rfl) (by omega) (by omega) rfl (Nat.le_of_ble_eq_true rfl) rfl rfl zd_MO_isReal_123 ?_
                  have sd123 := scanE_spec (f := sDig) (t := t) (p := (scanE sDig t ((scanE sDig t z) + 1)) + 1) (by omega)
                  have se123 := scanE_ub (f := sDig) (t := t) (p := (scanE sDig t ((scanE sDig t z) + 1)) + 1) (by omega)
                  refine zw_iload_n 7 rfl zd_MO_isReal_126 ?_
                  refine zw_icmp_ne 140 (by omega) (by omega) zd_MO_isReal_127 (by decide) (fun c127 => ?_) (fun c127 => ?_)
                  · -- 127 -> 140
                    refine zw_iconst zd_MO_isReal_140 ?_
                    have hF3 := hF1 (by omega)
                    have hX : exF t (scanE sDig t ((scanE sDig t z) + 1)) = scanE sDig t ((scanE sDig t z) + 1) + 1 := by unfold exF; rw [if_neg (by rw [zbI0 (b := sSign (bget t (scanE sDig t ((scanE sDig t z) + 1) + 1))) (by omega)]; decide)]
                    exact zw_zret hR rfl rfl rfl rfl (by omega) (by omega) zd_MO_isReal_141
                  · -- 127 -> 130
                    refine zw_iload 0 rfl zd_MO_isReal_130 ?_
                    refine zw_iload_n 7 rfl zd_MO_isReal_132 ?_
                    refine zw_icmp_ge 140 (by omega) (by omega) zd_MO_isReal_133 (by decide) (fun c133 => ?_) (fun c133 => ?_)
                    · -- 133 -> 140
                      refine zw_iconst zd_MO_isReal_140 ?_
                      have hF3 := hF1 (by omega)
                      have hX : exF t (scanE sDig t ((scanE sDig t z) + 1)) = scanE sDig t ((scanE sDig t z) + 1) + 1 := by unfold exF; rw [if_neg (by rw [zbI0 (b := sSign (bget t (scanE sDig t ((scanE sDig t z) + 1) + 1))) (by omega)]; decide)]
                      exact zw_zret hR rfl rfl rfl rfl (by omega) (by omega) zd_MO_isReal_141
                    · -- 133 -> 136
                      refine zw_iconst zd_MO_isReal_136 ?_
                      refine zw_goto 141 zd_MO_isReal_137 (by decide) ?_
                      have hF3 := hF1 (by omega)
                      have hX : exF t (scanE sDig t ((scanE sDig t z) + 1)) = scanE sDig t ((scanE sDig t z) + 1) + 1 := by unfold exF; rw [if_neg (by rw [zbI0 (b := sSign (bget t (scanE sDig t ((scanE sDig t z) + 1) + 1))) (by omega)]; decide)]
                      exact absurd ⟨by omega, Or.inr ⟨by rw [hF3.1]; omega, by rw [hF3.1, hX]; omega, by rw [hF3.1, hX]; omega⟩⟩ hno
                · -- 104 -> 107
                  refine zw_iload 1 rfl zd_MO_isReal_107 ?_
                  refine zw_iconst zd_MO_isReal_109 ?_
                  refine zw_iadd zd_MO_isReal_110 ?_
                  refine zw_goto 118 zd_MO_isReal_111 (by decide) ?_
                  refine zw_istore (lv' := [(7, .int (zI ((scanE sDig t ((scanE sDig t z) + 1)) + 2))), (6, .int (zI (bget t (scanE sDig t ((scanE sDig t z) + 1))))), (5, .int (zI (scanE sDig t ((scanE sDig t z) + 1)))), (4, .int (zI (1))), (3, .int (zI (scanE sDig t z))), (0, .ref h), (1, .int (zI (z))), (2, .int (zI (q)))]) (Nat.le_of_ble_eq_true rfl) rfl zd_MO_isReal_118 ?_
                  refine zw_aload_n 5 rfl zd_MO_isReal_120 ?_
                  refine zw_iload 0 rfl zd_MO_isReal_121 ?_
                  refine zw_callV (As := [.int (zI ((scanE sDig t ((scanE sDig t z) + 1)) + 2))]) (rest := []) (L2 := []) (L' := [zMOd h (t) (ws) (ts) ([]) (op) (y) (r) (ct) (wh) (fd) (fr)]) (stk' := [.int (zI (scanE sDig t ((scanE sDig t ((scanE sDig t z) + 1)) + 2)))]) (c_MO_behindDigits h t ws ts ([]) op y r ct wh fd fr ((scanE sDig t ((scanE sDig t z) + 1)) + 2) (by omega) (by omega)) [0] [] rfl rfl rfl zcal_MO_behindDigits zl_MO_87 zin_MO_behindDigits zse_MO_behindDigits 0 rfl zRv_MOd rfl (Nat.le_of_ble_eq_true rfl) (Nat.le_of_ble_eq_true rfl) (by omega) (by omega) rfl (Nat.le_of_ble_eq_true rfl) rfl rfl zd_MO_isReal_123 ?_
                  have sd123 := scanE_spec (f := sDig) (t := t) (p := (scanE sDig t ((scanE sDig t z) + 1)) + 2) (by omega)
                  have se123 := scanE_ub (f := sDig) (t := t) (p := (scanE sDig t ((scanE sDig t z) + 1)) + 2) (by omega)
                  refine zw_iload_n 7 rfl zd_MO_isReal_126 ?_
                  refine zw_icmp_ne 140 (by omega) (by omega) zd_MO_isReal_127 (by decide) (fun c127 => ?_) (fun c127 => ?_)
                  · -- 127 -> 140
                    refine zw_iconst zd_MO_isReal_140 ?_
                    have hF3 := hF1 (by omega)
                    have hX : exF t (scanE sDig t ((scanE sDig t z) + 1)) = scanE sDig t ((scanE sDig t z) + 1) + 2 := by unfold exF; rw [if_pos (zbI1 (by omega))]
                    exact zw_zret hR rfl rfl rfl rfl (by omega) (by omega) zd_MO_isReal_141
                  · -- 127 -> 130
                    refine zw_iload 0 rfl zd_MO_isReal_130 ?_
                    refine zw_iload_n 7 rfl zd_MO_isReal_132 ?_
                    refine zw_icmp_ge 140 (by omega) (by omega) zd_MO_isReal_133 (by decide) (fun c133 => ?_) (fun c133 => ?_)
                    · -- 133 -> 140
                      refine zw_iconst zd_MO_isReal_140 ?_
                      have hF3 := hF1 (by omega)
                      have hX : exF t (scanE sDig t ((scanE sDig t z) + 1)) = scanE sDig t ((scanE sDig t z) + 1) + 2 := by unfold exF; rw [if_pos (zbI1 (by omega))]
                      exact zw_zret hR rfl rfl rfl rfl (by omega) (by omega) zd_MO_isReal_141
                    · -- 133 -> 136
                      refine zw_iconst zd_MO_isReal_136 ?_
                      refine zw_goto 141 zd_MO_isReal_137 (by decide) ?_
                      have hF3 := hF1 (by omega)
                      have hX : exF t (scanE sDig t ((scanE sDig t z) + 1)) = scanE sDig t ((scanE sDig t z) + 1) + 2 := by unfold exF; rw [if_pos (zbI1 (by omega))]
                      exact absurd ⟨by omega, Or.inr ⟨by rw [hF3.1]; omega, by rw [hF3.1, hX]; omega, by rw [hF3.1, hX]; omega⟩⟩ hno
              · -- 88 -> 91
                refine zw_iconst zd_MO_isReal_91 ?_
                have hF3 := hF1 (by omega)
                exact zw_zret hR rfl rfl rfl rfl (by omega) (by omega) zd_MO_isReal_92
          · -- 63 -> 66
            refine zw_iload 1 rfl zd_MO_isReal_66 ?_
            have hF3 := hF1 (by omega)
            exact absurd ⟨by omega, Or.inl ⟨by omega, by omega⟩⟩ hno
        · -- 55 -> 58
          refine zw_iconst zd_MO_isReal_58 ?_
          have hF3 := hF1 (by omega)
          exact zw_zret hR rfl rfl rfl rfl (by omega) (by omega) zd_MO_isReal_59
