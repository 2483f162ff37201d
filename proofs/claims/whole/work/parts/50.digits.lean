/-- digits added up with a base, held at 2^32 -/
def satV (b : Int) (l : List Int) : Int := l.foldl (fun s c => min 4294967296 (b * s + digV c)) 0
theorem satV_snoc (b : Int) (l : List Int) (c : Int) : satV b (l ++ [c]) = min 4294967296 (b * satV b l + digV c) := by simp [satV, List.foldl_append]
theorem zmul_bd {b s : Int} (hb : 0 ≤ b ∧ b ≤ 36) (hs : 0 ≤ s ∧ s ≤ 4294967296) : 0 ≤ b * s ∧ b * s ≤ 154618822656 := by
  refine ⟨Int.mul_nonneg hb.1 hs.1, ?_⟩
  have h1 := Int.mul_le_mul hb.2 hs.2 hs.1 (by omega)
  omega
theorem satF_rg {b : Int} (hb : 0 ≤ b ∧ b ≤ 36) : ∀ (l : List Int) (s : Int), (∀ c ∈ l, 0 ≤ digV c) → 0 ≤ s ∧ s ≤ 4294967296 → 0 ≤ l.foldl (fun s c => min 4294967296 (b * s + digV c)) s ∧ l.foldl (fun s c => min 4294967296 (b * s + digV c)) s ≤ 4294967296
  | [], s, _, h => h
  | c :: l, s, h, hs => by
    have h1 := zmul_bd hb hs
    have h2 := h c List.mem_cons_self
    exact satF_rg hb l _ (fun x hx => h x (List.mem_cons_of_mem _ hx)) (show 0 ≤ min 4294967296 (b * s + digV c) ∧ min 4294967296 (b * s + digV c) ≤ 4294967296 by omega)
theorem satV_rg {b : Int} (hb : 0 ≤ b ∧ b ≤ 36) (l : List Int) (h : ∀ c ∈ l, 0 ≤ digV c) : 0 ≤ satV b l ∧ satV b l ≤ 4294967296 := satF_rg hb l 0 h (by omega)
theorem slc_mem {t : List Int} {a b x : Int} (h0 : 0 ≤ a) (hx : x ∈ slc t a b) : ∃ j, a ≤ j ∧ j < b ∧ j < t.length ∧ bget t j = x := by
  obtain ⟨i, hi, e⟩ := List.mem_iff_getElem.mp hx
  unfold slc at hi e
  rw [List.length_take, List.length_drop] at hi
  refine ⟨a + i, by omega, by omega, by omega, ?_⟩
  rw [List.getElem_take, List.getElem_drop] at e
  rw [bget, if_pos (by omega), List.getD_eq_getElem?_getD, List.getElem?_eq_getElem (show (a + i).toNat < t.length by omega), ← e]
  show t[(a + i).toNat] = t[a.toNat + i]
  congr 1
  omega
theorem slc_of {t : List Int} {a b j : Int} (h0 : 0 ≤ a) (h1 : a ≤ j) (h2 : j < b) (h3 : j < t.length) : bget t j ∈ slc t a b := by
  unfold slc
  have hl : (j - a).toNat < ((t.drop a.toNat).take (b - a).toNat).length := by rw [List.length_take, List.length_drop]; omega
  have e : ((t.drop a.toNat).take (b - a).toNat)[(j - a).toNat] = bget t j := by
    rw [List.getElem_take, List.getElem_drop, bget, if_pos (by omega), List.getD_eq_getElem?_getD, List.getElem?_eq_getElem (show j.toNat < t.length by omega)]
    show t[a.toNat + (j - a).toNat] = t[j.toNat]
    congr 1
    omega
  rw [← e]
  exact List.getElem_mem hl
theorem slc_sub {t : List Int} {a p b x : Int} (h0 : 0 ≤ a) (h1 : a ≤ p) (h2 : p ≤ b) (hx : x ∈ slc t a p) : x ∈ slc t a b := by
  obtain ⟨j, j1, j2, j3, rfl⟩ := slc_mem h0 hx
  exact slc_of h0 j1 (by omega) j3
theorem scanD_rg {t : List Int} {f e : Int} (hf : 0 ≤ f ∧ f ≤ e ∧ e ≤ t.length) (hend : sDig (bget t e) = false) : f ≤ scanE sDig t f ∧ scanE sDig t f ≤ e ∧ ∀ j, f ≤ j → j < scanE sDig t f → 48 ≤ bget t j ∧ bget t j ≤ 57 := by
  obtain ⟨s1, s2, s3, s4⟩ := scanE_spec (f := sDig) (t := t) (p := f) hf.1
  refine ⟨s1, ?_, fun j h1 h2 => of_decide_eq_true (s3 j h1 h2).2⟩
  rcases Int.lt_or_le e (scanE sDig t f) with q | q
  · have := (s3 e hf.2.1 q).2
    rw [hend] at this
    cases this
  · exact q
def wholeF (ng s : Int) : Int := if s < 2147483648 ∨ (ng ≠ 0 ∧ s = 2147483648) then 1 else 0
def wholeV (ng s : Int) : Int := if ng ≠ 0 then -s else s
set_option maxHeartbeats 4000000 in
set_option maxRecDepth 100000 in
theorem c_NU_skipDigits (ht : Nat) (t : List Int) (nt : Nat) (f e : Int) (hf : 0 ≤ f ∧ f ≤ e ∧ e ≤ t.length) (hend : sDig (bget t e) = false) : zCT zy_NU_skipDigits zm_NU_skipDigits (0) (0) [.ref ht, .int (zI f), .int (zI e)] [zBRow ht (t) (nt)] (some (.int (zI (scanE sDig t f)))) [zBRow ht (t) (nt)] := by
  refine zCT.of [(0, .ref ht), (1, .int (zI (f))), (2, .int (zI (e)))] rfl (by decide) rfl (fun h => by first | rfl | cases h) (Nat.le_of_ble_eq_true rfl) (fun X hR => ?_)
  refine zw_fact 0 rfl (fun G w h => zBR_fact h) (fun hbr => ?_)
  obtain ⟨⟨ht1, ht2, ht3⟩, hby⟩ := hbr
  have lp : ∀ (fuel : Nat) (p : Int), ((f ≤ p ∧ p ≤ e) ∧ ∀ j, f ≤ j → j < p → j < t.length ∧ sDig (bget t j) = true) → (e - p).toNat < fuel → zZ X zm_NU_skipDigits (0) (0) (0) (0) [zBRow ht (t) (nt)] 2 [(0, .ref ht), (1, .int (zI (f))), (2, .int (zI (e))), (3, .int (zI (p)))] [] := by
    intro fuel
    induction fuel with
    | zero => intro p g0 hm; exact absurd hm (Nat.not_lt_zero _)
    | succ fuel ih =>
      intro p g0 hm
      refine zw_iload_n 3 rfl zd_NU_skipDigits_2 ?_
      refine zw_iload_n 2 rfl zd_NU_skipDigits_3 ?_
      refine zw_icmp_ge 24 (by omega) (by omega) zd_NU_skipDigits_4 (by decide) (fun c4 => ?_) (fun c4 => ?_)
      · -- 4 -> 24
        refine zw_iload_n 3 rfl zd_NU_skipDigits_24 ?_
        have e1 : scanE sDig t f = p := by
          refine scanE_uniq (by omega) (by omega) g0.2 ?_
          rintro ⟨q1, q2⟩
          first | (rw [zbI0 (b := sDig (bget t p)) (by omega)] at q2; cases q2) | (rw [show p = e by omega, hend] at q2; cases q2)
        exact zw_iret hR (by rw [e1]) rfl rfl (by omega) (by omega) zd_NU_skipDigits_25
      · -- 4 -> 7
        refine zw_aload_n 0 rfl zd_NU_skipDigits_7 ?_
        refine zw_iload_n 3 rfl zd_NU_skipDigits_8 ?_
        refine zw_callV (As := [.int (zI (p))]) (rest := []) (L2 := []) (L' := [zBRow ht (t) (nt)]) (stk' := [.int (zI (bget t p))]) (c_BR_get ht (t) (nt) (p) (by omega)) [0] [] rfl rfl rfl zcal_BR_get zl_NU_23 zin_BR_get zse_BR_get 0 rfl zRv_BRow rfl (Nat.le_of_ble_eq_true rfl) (Nat.le_of_ble_eq_true rfl) (by omega) (by omega) rfl (Nat.le_of_ble_eq_true rfl) rfl rfl zd_NU_skipDigits_9 ?_
        have rg9 := bget_rg hby (p)
        refine zw_callS (a := 0) (As := [.int (zI (bget t p))]) (rest := []) (L2 := [zBRow ht (t) (nt)]) (L' := [zBRow ht (t) (nt)]) (stk' := [.int (zI (bI (sDig (bget t p))))]) (c_NU_isDigit (bget t p) (by omega)) [] [0] rfl rfl rfl zcal_NU_isDigit zl_NU_67 zst_NU_isDigit (Nat.le_of_ble_eq_true rfl) (Nat.le_of_ble_eq_true rfl) (by omega) (by omega) rfl (Nat.le_of_ble_eq_true rfl) rfl rfl zd_NU_skipDigits_12 ?_
        have rb12 := bI_rg (sDig (bget t p))
        refine zw_if_eq 24 (by omega) zd_NU_skipDigits_15 (by decide) (fun c15 => ?_) (fun c15 => ?_)
        · -- 15 -> 24
          refine zw_iload_n 3 rfl zd_NU_skipDigits_24 ?_
          have e1 : scanE sDig t f = p := by
            refine scanE_uniq (by omega) (by omega) g0.2 ?_
            rintro ⟨q1, q2⟩
            first | (rw [zbI0 (b := sDig (bget t p)) (by omega)] at q2; cases q2) | (rw [show p = e by omega, hend] at q2; cases q2)
          exact zw_iret hR (by rw [e1]) rfl rfl (by omega) (by omega) zd_NU_skipDigits_25
        · -- 15 -> 18
          refine zw_iinc (lv' := [(3, .int (zI (p + 1))), (0, .ref ht), (1, .int (zI (f))), (2, .int (zI (e)))]) 3 rfl (Nat.le_of_ble_eq_true rfl) rfl zd_NU_skipDigits_18 ?_
          refine zw_goto 2 zd_NU_skipDigits_21 (by decide) ?_
          refine zw_lpick (lv' := [(0, .ref ht), (1, .int (zI (f))), (2, .int (zI (e))), (3, .int (zI (p + 1)))]) [1, 2, 3, 0] rfl ?_
          refine zw_widen (k' := 0) (n' := 0) (by omega) (by omega) ?_
          refine ih (p + 1) ⟨by omega, fun j h1 h2 => ?_⟩ (by omega)
          rcases Int.lt_or_le j p with q | q
          · exact g0.2 j h1 q
          · rw [show j = p by omega]
            exact ⟨by omega, zbI1 (by omega)⟩
  refine zw_iload_n 1 rfl zd_NU_skipDigits_0 ?_
  refine zw_istore_n (lv' := [(3, .int (zI (f))), (0, .ref ht), (1, .int (zI (f))), (2, .int (zI (e)))]) (Nat.le_of_ble_eq_true rfl) rfl zd_NU_skipDigits_1 ?_
  refine zw_lpick (lv' := [(0, .ref ht), (1, .int (zI (f))), (2, .int (zI (e))), (3, .int (zI (f)))]) [1, 2, 3, 0] rfl ?_
  refine zw_widen (k' := 0) (n' := 0) (by omega) (by omega) ?_
  exact lp _ f ⟨by omega, fun j h1 h2 => by omega⟩ (Nat.lt_succ_self _)
set_option maxHeartbeats 4000000 in
set_option maxRecDepth 100000 in
theorem c_NU_sumDigits (ht : Nat) (t : List Int) (nt : Nat) (f e b : Int) (hf : 0 ≤ f ∧ f ≤ e ∧ e ≤ t.length) (hb : 0 ≤ b ∧ b ≤ 36) (hdg : ∀ c ∈ slc t f e, 0 ≤ digV c) : zCT zy_NU_sumDigits zm_NU_sumDigits (0) (0) [.ref ht, .int (zI f), .int (zI e), .int (zI b)] [zBRow ht (t) (nt)] (some (.long (zJ (satV b (slc t f e))))) [zBRow ht (t) (nt)] := by
  refine zCT.of [(0, .ref ht), (1, .int (zI (f))), (2, .int (zI (e))), (3, .int (zI (b)))] rfl (by decide) rfl (fun h => by first | rfl | cases h) (Nat.le_of_ble_eq_true rfl) (fun X hR => ?_)
  refine zw_fact 0 rfl (fun G w h => zBR_fact h) (fun hbr => ?_)
  obtain ⟨⟨ht1, ht2, ht3⟩, hby⟩ := hbr
  have lp : ∀ (fuel : Nat) (p : Int), (f ≤ p ∧ p ≤ e) → (e - p).toNat < fuel → zZ X zm_NU_sumDigits (0) (0) (0) (0) [zBRow ht (t) (nt)] 6 [(0, .ref ht), (1, .int (zI (f))), (2, .int (zI (e))), (3, .int (zI (b))), (4, .long (zJ (satV b (slc t f p)))), (6, .int (zI (p)))] [] := by
    intro fuel
    induction fuel with
    | zero => intro p g0 hm; exact absurd hm (Nat.not_lt_zero _)
    | succ fuel ih =>
      intro p g0 hm
      have sr := satV_rg (b := b) (by omega) (slc t f p) (fun c hc => hdg c (slc_sub hf.1 g0.1 g0.2 hc))
      have sm := zmul_bd (b := b) (s := satV b (slc t f p)) (by omega) (by omega)
      refine zw_iload 5 rfl zd_NU_sumDigits_6 ?_
      refine zw_iload_n 2 rfl zd_NU_sumDigits_8 ?_
      refine zw_icmp_ge 42 (by omega) (by omega) zd_NU_sumDigits_9 (by decide) (fun c9 => ?_) (fun c9 => ?_)
      · -- 9 -> 42
        refine zw_lload 4 rfl zd_NU_sumDigits_42 ?_
        have ep : p = e := by omega
        exact zw_lret hR (by rw [ep]) rfl rfl (by omega) (by omega) zd_NU_sumDigits_44
      · -- 9 -> 12
        refine zw_ldc2 zk_NU_79 4294967296 rfl zd_NU_sumDigits_12 ?_
        refine zw_iload_n 3 rfl zd_NU_sumDigits_15 ?_
        refine zw_i2l (by omega) zd_NU_sumDigits_16 ?_
        refine zw_lload 4 rfl zd_NU_sumDigits_17 ?_
        refine zw_lmul zd_NU_sumDigits_19 ?_
        refine zw_aload_n 0 rfl zd_NU_sumDigits_20 ?_
        refine zw_iload 5 rfl zd_NU_sumDigits_21 ?_
        refine zw_callV (As := [.int (zI (p))]) (rest := [.long (zJ (b * (satV b (slc t f p)))), .long (zJ (4294967296))]) (L2 := []) (L' := [zBRow ht (t) (nt)]) (stk' := [.int (zI (bget t p)), .long (zJ (b * (satV b (slc t f p)))), .long (zJ (4294967296))]) (c_BR_get ht (t) (nt) (p) (by omega)) [0] [] rfl rfl rfl zcal_BR_get zl_NU_23 zin_BR_get zse_BR_get 0 rfl zRv_BRow rfl (Nat.le_of_ble_eq_true rfl) (Nat.le_of_ble_eq_true rfl) (by omega) (by omega) rfl (Nat.le_of_ble_eq_true rfl) rfl rfl zd_NU_sumDigits_23 ?_
        have rg23 := bget_rg hby (p)
        refine zw_callSN (a := 0) (As := [.int (zI (bget t p))]) (rest := [.long (zJ (b * (satV b (slc t f p)))), .long (zJ (4294967296))]) (L2 := [zBRow ht (t) (nt)]) (L' := [zBRow ht (t) (nt)]) (stk' := [.int (zI (digV (bget t p))), .long (zJ (b * (satV b (slc t f p)))), .long (zJ (4294967296))]) (c_PW_digitValue (bget t p) (by omega)) [] [0] rfl rfl rfl zcal_PW_digitValue (fun _ _ _ q => q.2) zst_PW_digitValue (Nat.le_of_ble_eq_true rfl) (Nat.le_of_ble_eq_true rfl) (by omega) (by omega) rfl (Nat.le_of_ble_eq_true rfl) rfl rfl zd_NU_sumDigits_26 ?_
        have dv26 := digV_rg (bget t p)
        refine zw_i2l (by omega) zd_NU_sumDigits_29 ?_
        refine zw_ladd zd_NU_sumDigits_30 ?_
        refine zw_minJ (by omega) (by omega) zl_NU_81 zst_MA_minJ zini_MA zco_MA_minJ (Nat.le_of_ble_eq_true rfl) (Nat.le_of_ble_eq_true rfl) (by omega) (by omega) zd_NU_sumDigits_31 ?_
        refine zw_lstore (lv' := [(4, .long (zJ (min 4294967296 ((b * (satV b (slc t f p))) + (digV (bget t p)))))), (0, .ref ht), (1, .int (zI (f))), (2, .int (zI (e))), (3, .int (zI (b))), (6, .int (zI (p)))]) (Nat.le_of_ble_eq_true rfl) rfl zd_NU_sumDigits_34 ?_
        refine zw_iinc (lv' := [(6, .int (zI (p + 1))), (4, .long (zJ (min 4294967296 ((b * (satV b (slc t f p))) + (digV (bget t p)))))), (0, .ref ht), (1, .int (zI (f))), (2, .int (zI (e))), (3, .int (zI (b)))]) 5 rfl (Nat.le_of_ble_eq_true rfl) rfl zd_NU_sumDigits_36 ?_
        refine zw_goto 6 zd_NU_sumDigits_39 (by decide) ?_
        refine zw_lpick (lv' := [(0, .ref ht), (1, .int (zI (f))), (2, .int (zI (e))), (3, .int (zI (b))), (4, .long (zJ (min 4294967296 ((b * (satV b (slc t f p))) + (digV (bget t p)))))), (6, .int (zI (p + 1)))]) [2, 3, 4, 5, 1, 0] rfl ?_
        refine zw_widen (k' := 0) (n' := 0) (by omega) (by omega) ?_
        refine zw_eqv (lv' := [(0, .ref ht), (1, .int (zI (f))), (2, .int (zI (e))), (3, .int (zI (b))), (4, .long (zJ (satV b (slc t f (p + 1))))), (6, .int (zI (p + 1)))]) (by rw [slc_snoc (by omega) (by omega) (by omega), satV_snoc]) ?_
        exact ih (p + 1) (by omega) (by omega)
  refine zw_lconst (a := 0) rfl zd_NU_sumDigits_0 ?_
  refine zw_lstore (lv' := [(4, .long (zJ (0))), (0, .ref ht), (1, .int (zI (f))), (2, .int (zI (e))), (3, .int (zI (b)))]) (Nat.le_of_ble_eq_true rfl) rfl zd_NU_sumDigits_1 ?_
  refine zw_iload_n 2 rfl zd_NU_sumDigits_3 ?_
  refine zw_istore (lv' := [(6, .int (zI (f))), (4, .long (zJ (0))), (0, .ref ht), (1, .int (zI (f))), (2, .int (zI (e))), (3, .int (zI (b)))]) (Nat.le_of_ble_eq_true rfl) rfl zd_NU_sumDigits_4 ?_
  refine zw_lpick (lv' := [(0, .ref ht), (1, .int (zI (f))), (2, .int (zI (e))), (3, .int (zI (b))), (4, .long (zJ (0))), (6, .int (zI (f)))]) [2, 3, 4, 5, 1, 0] rfl ?_
  refine zw_widen (k' := 0) (n' := 0) (by omega) (by omega) ?_
  refine zw_eqv (lv' := [(0, .ref ht), (1, .int (zI (f))), (2, .int (zI (e))), (3, .int (zI (b))), (4, .long (zJ (satV b (slc t f f)))), (6, .int (zI (f)))]) (by rw [slc_nil]; rfl) ?_
  exact lp _ f (by omega) (Nat.lt_succ_self _)
set_option maxHeartbeats 4000000 in
set_option maxRecDepth 100000 in
theorem c_NU_readWhole (h fa : Nat) (ng db de wd ex : Int) (v : Int32) (ft : Int) (ht : Nat) (t : List Int) (nt : Nat) (hf : 0 ≤ db ∧ db ≤ de ∧ de ≤ t.length) (hng : 0 ≤ ng ∧ ng ≤ 1) (hdg : ∀ c ∈ slc t db de, 0 ≤ digV c) : zCT zy_NU_readWhole zm_NU_readWhole (0) (0) [.ref h, .ref ht] [zObj h 5 [.ref fa, .int (zI (ng)), .int (zI (db)), .int (zI (de)), .int (zI (wd)), .int (zI (ex)), .int (v), .int (zI (ft))], zBRow ht (t) (nt)] (some (.int (zI 1))) [zObj h 5 [.ref fa, .int (zI (ng)), .int (zI (db)), .int (zI (de)), .int (zI (wd)), .int (zI (ex)), .int (zI (wholeV ng (satV 10 (slc t db de)))), .int (zI (wholeF ng (satV 10 (slc t db de))))], zBRow ht (t) (nt)] := by
  refine zCT.of [(0, .ref h), (1, .ref ht)] rfl (by decide) rfl (fun h => by first | rfl | cases h) (Nat.le_of_ble_eq_true rfl) (fun X hR => ?_)
  refine zw_aload_n 1 rfl zd_NU_readWhole_0 ?_
  refine zw_aload_n 0 rfl zd_NU_readWhole_1 ?_
  refine zw_get zc_NU 0 2 rfl (by decide) zf_NU_36 rfl zd_NU_readWhole_2 ?_
  refine zw_aload_n 0 rfl zd_NU_readWhole_5 ?_
  refine zw_get zc_NU 0 3 rfl (by decide) zf_NU_43 rfl zd_NU_readWhole_6 ?_
  refine zw_bipush rfl zd_NU_readWhole_9 ?_
  refine zw_callS (a := 0) (As := [.ref ht, .int (zI (db)), .int (zI (de)), .int (zI (10))]) (rest := []) (L2 := [zObj h 5 [.ref fa, .int (zI (ng)), .int (zI (db)), .int (zI (de)), .int (zI (wd)), .int (zI (ex)), .int (v), .int (zI (ft))]]) (L' := [zBRow ht (t) (nt), zObj h 5 [.ref fa, .int (zI (ng)), .int (zI (db)), .int (zI (de)), .int (zI (wd)), .int (zI (ex)), .int (v), .int (zI (ft))]]) (stk' := [.long (zJ (satV 10 (slc t db de)))]) (c_NU_sumDigits ht t nt db de 10 (by omega) (by omega) hdg) [1] [0] rfl rfl rfl zcal_NU_sumDigits zl_NU_70 zst_NU_sumDigits (Nat.le_of_ble_eq_true rfl) (Nat.le_of_ble_eq_true rfl) (by omega) (by omega) rfl (Nat.le_of_ble_eq_true rfl) rfl rfl zd_NU_readWhole_11 ?_
  have sd11 := satV_rg (b := 10) (by omega) (slc t db de) hdg
  refine zw_lstore_n (lv' := [(2, .long (zJ (satV 10 (slc t db de)))), (0, .ref h), (1, .ref ht)]) (Nat.le_of_ble_eq_true rfl) rfl zd_NU_readWhole_14 ?_
  refine zw_aload_n 1 rfl zd_NU_readWhole_15 ?_
  refine zw_lload_n 0 rfl zd_NU_readWhole_16 ?_
  refine zw_ldc2 zk_NU_74 2147483648 rfl zd_NU_readWhole_17 ?_
  refine zw_lcmpR zd_NU_readWhole_20 ?_
  refine zw_lif_lt 39 (by omega) (by omega) zd_NU_readWhole_21 (by decide) (fun c21 => ?_) (fun c21 => ?_)
  · -- 21 -> 39
    refine zw_iconst zd_NU_readWhole_39 ?_
    refine zw_goto 44 zd_NU_readWhole_40 (by decide) ?_
    refine zw_put (L' := [zBRow ht (t) (nt), zObj h 5 [.ref fa, .int (zI (ng)), .int (zI (db)), .int (zI (de)), .int (zI (wd)), .int (zI (ex)), .int (v), .int (zI (1))]]) zc_NU 1 7 rfl (by decide) zf_NU_19 rfl rfl rfl (Nat.le_of_ble_eq_true rfl) rfl zd_NU_readWhole_44 ?_
    refine zw_aload_n 1 rfl zd_NU_readWhole_47 ?_
    refine zw_aload_n 1 rfl zd_NU_readWhole_48 ?_
    refine zw_get zc_NU 1 1 rfl (by decide) zf_NU_29 rfl zd_NU_readWhole_49 ?_
    refine zw_if_eq 60 (by omega) zd_NU_readWhole_52 (by decide) (fun c52 => ?_) (fun c52 => ?_)
    · -- 52 -> 60
      refine zw_lload_n 0 rfl zd_NU_readWhole_60 ?_
      refine zw_l2i zd_NU_readWhole_61 ?_
      refine zw_put (L' := [zBRow ht (t) (nt), zObj h 5 [.ref fa, .int (zI (ng)), .int (zI (db)), .int (zI (de)), .int (zI (wd)), .int (zI (ex)), .int (zI (satV 10 (slc t db de))), .int (zI (1))]]) zc_NU 1 6 rfl (by decide) zf_NU_15 rfl rfl rfl (Nat.le_of_ble_eq_true rfl) rfl zd_NU_readWhole_62 ?_
      refine zw_iconst zd_NU_readWhole_65 ?_
      refine zw_sub (L' := [zObj h 5 [.ref fa, .int (zI (ng)), .int (zI (db)), .int (zI (de)), .int (zI (wd)), .int (zI (ex)), .int (zI (satV 10 (slc t db de))), .int (zI (1))], zBRow ht (t) (nt)]) [1, 0] rfl rfl ?_
      exact zw_iret hR rfl (by rw [show wholeF ng (satV 10 (slc t db de)) = 1 by unfold wholeF; split <;> omega, show wholeV ng (satV 10 (slc t db de)) = satV 10 (slc t db de) by unfold wholeV; split <;> omega]) rfl (by omega) (by omega) zd_NU_readWhole_66
    · -- 52 -> 55
      refine zw_lload_n 0 rfl zd_NU_readWhole_55 ?_
      refine zw_lneg zd_NU_readWhole_56 ?_
      refine zw_goto 61 zd_NU_readWhole_57 (by decide) ?_
      refine zw_l2i zd_NU_readWhole_61 ?_
      refine zw_put (L' := [zBRow ht (t) (nt), zObj h 5 [.ref fa, .int (zI (ng)), .int (zI (db)), .int (zI (de)), .int (zI (wd)), .int (zI (ex)), .int (zI (-(satV 10 (slc t db de)))), .int (zI (1))]]) zc_NU 1 6 rfl (by decide) zf_NU_15 rfl rfl rfl (Nat.le_of_ble_eq_true rfl) rfl zd_NU_readWhole_62 ?_
      refine zw_iconst zd_NU_readWhole_65 ?_
      refine zw_sub (L' := [zObj h 5 [.ref fa, .int (zI (ng)), .int (zI (db)), .int (zI (de)), .int (zI (wd)), .int (zI (ex)), .int (zI (-(satV 10 (slc t db de)))), .int (zI (1))], zBRow ht (t) (nt)]) [1, 0] rfl rfl ?_
      exact zw_iret hR rfl (by rw [show wholeF ng (satV 10 (slc t db de)) = 1 by unfold wholeF; split <;> omega, show wholeV ng (satV 10 (slc t db de)) = -(satV 10 (slc t db de)) by unfold wholeV; split <;> omega]) rfl (by omega) (by omega) zd_NU_readWhole_66
  · -- 21 -> 24
    refine zw_aload_n 1 rfl zd_NU_readWhole_24 ?_
    refine zw_get zc_NU 1 1 rfl (by decide) zf_NU_29 rfl zd_NU_readWhole_25 ?_
    refine zw_if_eq 43 (by omega) zd_NU_readWhole_28 (by decide) (fun c28 => ?_) (fun c28 => ?_)
    · -- 28 -> 43
      refine zw_iconst zd_NU_readWhole_43 ?_
      refine zw_put (L' := [zBRow ht (t) (nt), zObj h 5 [.ref fa, .int (zI (ng)), .int (zI (db)), .int (zI (de)), .int (zI (wd)), .int (zI (ex)), .int (v), .int (zI (0))]]) zc_NU 1 7 rfl (by decide) zf_NU_19 rfl rfl rfl (Nat.le_of_ble_eq_true rfl) rfl zd_NU_readWhole_44 ?_
      refine zw_aload_n 1 rfl zd_NU_readWhole_47 ?_
      refine zw_aload_n 1 rfl zd_NU_readWhole_48 ?_
      refine zw_get zc_NU 1 1 rfl (by decide) zf_NU_29 rfl zd_NU_readWhole_49 ?_
      refine zw_if_eq 60 (by omega) zd_NU_readWhole_52 (by decide) (fun c52 => ?_) (fun c52 => ?_)
      · -- 52 -> 60
        refine zw_lload_n 0 rfl zd_NU_readWhole_60 ?_
        refine zw_l2i zd_NU_readWhole_61 ?_
        refine zw_put (L' := [zBRow ht (t) (nt), zObj h 5 [.ref fa, .int (zI (ng)), .int (zI (db)), .int (zI (de)), .int (zI (wd)), .int (zI (ex)), .int (zI (satV 10 (slc t db de))), .int (zI (0))]]) zc_NU 1 6 rfl (by decide) zf_NU_15 rfl rfl rfl (Nat.le_of_ble_eq_true rfl) rfl zd_NU_readWhole_62 ?_
        refine zw_iconst zd_NU_readWhole_65 ?_
        refine zw_sub (L' := [zObj h 5 [.ref fa, .int (zI (ng)), .int (zI (db)), .int (zI (de)), .int (zI (wd)), .int (zI (ex)), .int (zI (satV 10 (slc t db de))), .int (zI (0))], zBRow ht (t) (nt)]) [1, 0] rfl rfl ?_
        exact zw_iret hR rfl (by rw [show wholeF ng (satV 10 (slc t db de)) = 0 by unfold wholeF; split <;> omega, show wholeV ng (satV 10 (slc t db de)) = satV 10 (slc t db de) by unfold wholeV; split <;> omega]) rfl (by omega) (by omega) zd_NU_readWhole_66
      · -- 52 -> 55
        refine zw_lload_n 0 rfl zd_NU_readWhole_55 ?_
        refine zw_lneg zd_NU_readWhole_56 ?_
        refine zw_goto 61 zd_NU_readWhole_57 (by decide) ?_
        refine zw_l2i zd_NU_readWhole_61 ?_
        refine zw_put (L' := [zBRow ht (t) (nt), zObj h 5 [.ref fa, .int (zI (ng)), .int (zI (db)), .int (zI (de)), .int (zI (wd)), .int (zI (ex)), .int (zI (-(satV 10 (slc t db de)))), .int (zI (0))]]) zc_NU 1 6 rfl (by decide) zf_NU_15 rfl rfl rfl (Nat.le_of_ble_eq_true rfl) rfl zd_NU_readWhole_62 ?_
        refine zw_iconst zd_NU_readWhole_65 ?_
        refine zw_sub (L' := [zObj h 5 [.ref fa, .int (zI (ng)), .int (zI (db)), .int (zI (de)), .int (zI (wd)), .int (zI (ex)), .int (zI (-(satV 10 (slc t db de)))), .int (zI (0))], zBRow ht (t) (nt)]) [1, 0] rfl rfl ?_
        exact zw_iret hR rfl (by rw [show wholeF ng (satV 10 (slc t db de)) = 0 by unfold wholeF; split <;> omega, show wholeV ng (satV 10 (slc t db de)) = -(satV 10 (slc t db de)) by unfold wholeV; split <;> omega]) rfl (by omega) (by omega) zd_NU_readWhole_66
    · -- 28 -> 31
      refine zw_lload_n 0 rfl zd_NU_readWhole_31 ?_
      refine zw_ldc2 zk_NU_74 2147483648 rfl zd_NU_readWhole_32 ?_
      refine zw_lcmpR zd_NU_readWhole_35 ?_
      refine zw_lif_ne 43 (by omega) (by omega) zd_NU_readWhole_36 (by decide) (fun c36 => ?_) (fun c36 => ?_)
      · -- 36 -> 43
        refine zw_iconst zd_NU_readWhole_43 ?_
        refine zw_put (L' := [zBRow ht (t) (nt), zObj h 5 [.ref fa, .int (zI (ng)), .int (zI (db)), .int (zI (de)), .int (zI (wd)), .int (zI (ex)), .int (v), .int (zI (0))]]) zc_NU 1 7 rfl (by decide) zf_NU_19 rfl rfl rfl (Nat.le_of_ble_eq_true rfl) rfl zd_NU_readWhole_44 ?_
        refine zw_aload_n 1 rfl zd_NU_readWhole_47 ?_
        refine zw_aload_n 1 rfl zd_NU_readWhole_48 ?_
        refine zw_get zc_NU 1 1 rfl (by decide) zf_NU_29 rfl zd_NU_readWhole_49 ?_
        refine zw_if_eq 60 (by omega) zd_NU_readWhole_52 (by decide) (fun c52 => ?_) (fun c52 => ?_)
        · -- 52 -> 60
          refine zw_lload_n 0 rfl zd_NU_readWhole_60 ?_
          refine zw_l2i zd_NU_readWhole_61 ?_
          refine zw_put (L' := [zBRow ht (t) (nt), zObj h 5 [.ref fa, .int (zI (ng)), .int (zI (db)), .int (zI (de)), .int (zI (wd)), .int (zI (ex)), .int (zI (satV 10 (slc t db de))), .int (zI (0))]]) zc_NU 1 6 rfl (by decide) zf_NU_15 rfl rfl rfl (Nat.le_of_ble_eq_true rfl) rfl zd_NU_readWhole_62 ?_
          refine zw_iconst zd_NU_readWhole_65 ?_
          refine zw_sub (L' := [zObj h 5 [.ref fa, .int (zI (ng)), .int (zI (db)), .int (zI (de)), .int (zI (wd)), .int (zI (ex)), .int (zI (satV 10 (slc t db de))), .int (zI (0))], zBRow ht (t) (nt)]) [1, 0] rfl rfl ?_
          exact zw_iret hR rfl (by rw [show wholeF ng (satV 10 (slc t db de)) = 0 by unfold wholeF; split <;> omega, show wholeV ng (satV 10 (slc t db de)) = satV 10 (slc t db de) by unfold wholeV; split <;> omega]) rfl (by omega) (by omega) zd_NU_readWhole_66
        · -- 52 -> 55
          refine zw_lload_n 0 rfl zd_NU_readWhole_55 ?_
          refine zw_lneg zd_NU_readWhole_56 ?_
          refine zw_goto 61 zd_NU_readWhole_57 (by decide) ?_
          refine zw_l2i zd_NU_readWhole_61 ?_
          refine zw_put (L' := [zBRow ht (t) (nt), zObj h 5 [.ref fa, .int (zI (ng)), .int (zI (db)), .int (zI (de)), .int (zI (wd)), .int (zI (ex)), .int (zI (-(satV 10 (slc t db de)))), .int (zI (0))]]) zc_NU 1 6 rfl (by decide) zf_NU_15 rfl rfl rfl (Nat.le_of_ble_eq_true rfl) rfl zd_NU_readWhole_62 ?_
          refine zw_iconst zd_NU_readWhole_65 ?_
          refine zw_sub (L' := [zObj h 5 [.ref fa, .int (zI (ng)), .int (zI (db)), .int (zI (de)), .int (zI (wd)), .int (zI (ex)), .int (zI (-(satV 10 (slc t db de)))), .int (zI (0))], zBRow ht (t) (nt)]) [1, 0] rfl rfl ?_
          exact zw_iret hR rfl (by rw [show wholeF ng (satV 10 (slc t db de)) = 0 by unfold wholeF; split <;> omega, show wholeV ng (satV 10 (slc t db de)) = -(satV 10 (slc t db de)) by unfold wholeV; split <;> omega]) rfl (by omega) (by omega) zd_NU_readWhole_66
      · -- 36 -> 39
        refine zw_iconst zd_NU_readWhole_39 ?_
        refine zw_goto 44 zd_NU_readWhole_40 (by decide) ?_
        refine zw_put (L' := [zBRow ht (t) (nt), zObj h 5 [.ref fa, .int (zI (ng)), .int (zI (db)), .int (zI (de)), .int (zI (wd)), .int (zI (ex)), .int (v), .int (zI (1))]]) zc_NU 1 7 rfl (by decide) zf_NU_19 rfl rfl rfl (Nat.le_of_ble_eq_true rfl) rfl zd_NU_readWhole_44 ?_
        refine zw_aload_n 1 rfl zd_NU_readWhole_47 ?_
        refine zw_aload_n 1 rfl zd_NU_readWhole_48 ?_
        refine zw_get zc_NU 1 1 rfl (by decide) zf_NU_29 rfl zd_NU_readWhole_49 ?_
        refine zw_if_eq 60 (by omega) zd_NU_readWhole_52 (by decide) (fun c52 => ?_) (fun c52 => ?_)
        · -- 52 -> 60
          refine zw_lload_n 0 rfl zd_NU_readWhole_60 ?_
          refine zw_l2i zd_NU_readWhole_61 ?_
          refine zw_put (L' := [zBRow ht (t) (nt), zObj h 5 [.ref fa, .int (zI (ng)), .int (zI (db)), .int (zI (de)), .int (zI (wd)), .int (zI (ex)), .int (zI (satV 10 (slc t db de))), .int (zI (1))]]) zc_NU 1 6 rfl (by decide) zf_NU_15 rfl rfl rfl (Nat.le_of_ble_eq_true rfl) rfl zd_NU_readWhole_62 ?_
          refine zw_iconst zd_NU_readWhole_65 ?_
          refine zw_sub (L' := [zObj h 5 [.ref fa, .int (zI (ng)), .int (zI (db)), .int (zI (de)), .int (zI (wd)), .int (zI (ex)), .int (zI (satV 10 (slc t db de))), .int (zI (1))], zBRow ht (t) (nt)]) [1, 0] rfl rfl ?_
          exact zw_iret hR rfl (by rw [show wholeF ng (satV 10 (slc t db de)) = 1 by unfold wholeF; split <;> omega, show wholeV ng (satV 10 (slc t db de)) = satV 10 (slc t db de) by unfold wholeV; split <;> omega]) rfl (by omega) (by omega) zd_NU_readWhole_66
        · -- 52 -> 55
          refine zw_lload_n 0 rfl zd_NU_readWhole_55 ?_
          refine zw_lneg zd_NU_readWhole_56 ?_
          refine zw_goto 61 zd_NU_readWhole_57 (by decide) ?_
          refine zw_l2i zd_NU_readWhole_61 ?_
          refine zw_put (L' := [zBRow ht (t) (nt), zObj h 5 [.ref fa, .int (zI (ng)), .int (zI (db)), .int (zI (de)), .int (zI (wd)), .int (zI (ex)), .int (zI (-(satV 10 (slc t db de)))), .int (zI (1))]]) zc_NU 1 6 rfl (by decide) zf_NU_15 rfl rfl rfl (Nat.le_of_ble_eq_true rfl) rfl zd_NU_readWhole_62 ?_
          refine zw_iconst zd_NU_readWhole_65 ?_
          refine zw_sub (L' := [zObj h 5 [.ref fa, .int (zI (ng)), .int (zI (db)), .int (zI (de)), .int (zI (wd)), .int (zI (ex)), .int (zI (-(satV 10 (slc t db de)))), .int (zI (1))], zBRow ht (t) (nt)]) [1, 0] rfl rfl ?_
          exact zw_iret hR rfl (by rw [show wholeF ng (satV 10 (slc t db de)) = 1 by unfold wholeF; split <;> omega, show wholeV ng (satV 10 (slc t db de)) = -(satV 10 (slc t db de)) by unfold wholeV; split <;> omega]) rfl (by omega) (by omega) zd_NU_readWhole_66
