def basedP (t : List Int) (db de wd q : Int) : Prop := (wd ≤ 2 ∧ 2 ≤ satV 10 (slc t db de) ∧ satV 10 (slc t db de) ≤ 36 ∧ de + 1 < q) ∧ ∀ j, de + 1 ≤ j → j < q → 0 ≤ digV (bget t j) ∧ digV (bget t j) < satV 10 (slc t db de)
theorem sat10_small {t : List Int} {a b : Int} (h0 : 0 ≤ a) (h1 : a ≤ b) (h2 : b ≤ t.length) (hd : ∀ c ∈ slc t a b, 0 ≤ digV c ∧ digV c ≤ 9) : b - a ≤ 2 → satV 10 (slc t a b) ≤ 99 := by
  intro h
  have hl := slc_len h0 h1 h2
  generalize slc t a b = l at hl hd ⊢
  match l, hl, hd with
  | [], _, _ => decide
  | [x], _, hd =>
    have := hd x List.mem_cons_self
    show min 4294967296 (10 * 0 + digV x) ≤ 99
    omega
  | [x, y], _, hd =>
    have h1 := hd x List.mem_cons_self
    have h2 := hd y (List.mem_cons_of_mem _ List.mem_cons_self)
    show min 4294967296 (10 * (min 4294967296 (10 * 0 + digV x)) + digV y) ≤ 99
    omega
  | x :: y :: z :: r, hl, _ =>
    simp only [List.length_cons] at hl
    omega
/-- behind the point's digits; how many digits there are in all -/
def frE (t : List Int) (de : Int) : Int := if bget t de = 46 then scanE sDig t (de + 1) else de
def frD (t : List Int) (de wd : Int) : Int := wd + (if bget t de = 46 then scanE sDig t (de + 1) - (de + 1) else 0)
def exF (t : List Int) (de : Int) : Int := de + (if sSign (bget t (de + 1)) = true then 2 else 1)
def expP (t : List Int) (de q : Int) : Prop := (bget t de = 101 ∨ bget t de = 69) ∧ exF t de < q ∧ scanE sDig t (exF t de) = q
def exV (t : List Int) (de q : Int) : Int := if bget t (de + 1) = 45 then -(min 1000 (satV 10 (slc t (exF t de) q))) else min 1000 (satV 10 (slc t (exF t de) q))
set_option maxHeartbeats 4000000 in
set_option maxRecDepth 100000 in
theorem c_NU_based_ok (h fa : Nat) (ng db de wd ex : Int) (v : Int32) (ft : Int) (ht : Nat) (t : List Int) (nt : Nat) (q : Int) (hf : 0 ≤ db ∧ db ≤ de ∧ de < q ∧ q ≤ t.length) (hwd : wd = de - db) (hd10 : ∀ c ∈ slc t db de, 0 ≤ digV c ∧ digV c ≤ 9) (hyes : basedP t db de wd q) : zCT zy_NU_readWithBase zm_NU_readWithBase (0) (0) [.ref h, .ref ht, .int (zI q)] [zObj h 5 [.ref fa, .int (zI (ng)), .int (zI (db)), .int (zI (de)), .int (zI (wd)), .int (zI (ex)), .int (v), .int (zI (ft))], zBRow ht (t) (nt)] (some (.int (zI 1))) [zObj h 5 [.ref fa, .int (zI (ng)), .int (zI (db)), .int (zI (de)), .int (zI (wd)), .int (zI (ex)), .int (zI (satV (satV 10 (slc t db de)) (slc t (de + 1) q))), .int (zI (bI (decide (satV (satV 10 (slc t db de)) (slc t (de + 1) q) < 4294967296))))], zBRow ht (t) (nt)] := by
  refine zCT.of [(0, .ref h), (1, .ref ht), (2, .int (zI (q)))] rfl (by decide) rfl (fun h => by first | rfl | cases h) (Nat.le_of_ble_eq_true rfl) (fun X hR => ?_)
  refine zw_fact 1 rfl (fun G w h => zBR_fact h) (fun hbr => ?_)
  obtain ⟨⟨ht1, ht2, ht3⟩, hby⟩ := hbr
  have hB1 := satV_rg (b := 10) (by omega) (slc t db de) (fun c hc => by have := hd10 c hc; omega)
  have hB2 := sat10_small hf.1 hf.2.1 (by omega) hd10
  have hdg : ∀ c ∈ slc t db de, 0 ≤ digV c := fun c hc => by have := hd10 c hc; omega
  obtain ⟨hy1, hy2⟩ := hyes
  refine zw_aload_n 1 rfl zd_NU_readWithBase_0 ?_
  refine zw_aload_n 0 rfl zd_NU_readWithBase_1 ?_
  refine zw_get zc_NU 0 2 rfl (by decide) zf_NU_36 rfl zd_NU_readWithBase_2 ?_
  refine zw_aload_n 0 rfl zd_NU_readWithBase_5 ?_
  refine zw_get zc_NU 0 3 rfl (by decide) zf_NU_43 rfl zd_NU_readWithBase_6 ?_
  refine zw_bipush rfl zd_NU_readWithBase_9 ?_
  refine zw_callS (a := 0) (As := [.ref ht, .int (zI (db)), .int (zI (de)), .int (zI (10))]) (rest := []) (L2 := [zObj h 5 [.ref fa, .int (zI (ng)), .int (zI (db)), .int (zI (de)), .int (zI (wd)), .int (zI (ex)), .int (v), .int (zI (ft))]]) (L' := [zBRow ht (t) (nt), zObj h 5 [.ref fa, .int (zI (ng)), .int (zI (db)), .int (zI (de)), .int (zI (wd)), .int (zI (ex)), .int (v), .int (zI (ft))]]) (stk' := [.long (zJ (satV 10 (slc t db de)))]) (c_NU_sumDigits ht t nt db de 10 (by omega) (by omega) hdg) [1] [0] rfl rfl rfl zcal_NU_sumDigits zl_NU_70 zst_NU_sumDigits (Nat.le_of_ble_eq_true rfl) (Nat.le_of_ble_eq_true rfl) (by omega) (by omega) rfl (Nat.le_of_ble_eq_true rfl) rfl rfl zd_NU_readWithBase_11 ?_
  have sd11 := satV_rg (b := 10) (by omega) (slc t db de) hdg
  refine zw_l2i zd_NU_readWithBase_14 ?_
  refine zw_istore_n (lv' := [(3, .int (zI (satV 10 (slc t db de)))), (0, .ref h), (1, .ref ht), (2, .int (zI (q)))]) (Nat.le_of_ble_eq_true rfl) rfl zd_NU_readWithBase_15 ?_
  refine zw_aload_n 1 rfl zd_NU_readWithBase_16 ?_
  refine zw_get zc_NU 1 3 rfl (by decide) zf_NU_43 rfl zd_NU_readWithBase_17 ?_
  refine zw_iconst zd_NU_readWithBase_20 ?_
  refine zw_iadd zd_NU_readWithBase_21 ?_
  refine zw_istore (lv' := [(4, .int (zI (de + 1))), (3, .int (zI (satV 10 (slc t db de)))), (0, .ref h), (1, .ref ht), (2, .int (zI (q)))]) (Nat.le_of_ble_eq_true rfl) rfl zd_NU_readWithBase_22 ?_
  refine zw_aload_n 2 rfl zd_NU_readWithBase_24 ?_
  refine zw_get zc_NU 1 4 rfl (by decide) zf_NU_46 rfl zd_NU_readWithBase_25 ?_
  refine zw_iconst zd_NU_readWithBase_28 ?_
  refine zw_icmp_gt 49 (by omega) (by omega) zd_NU_readWithBase_29 (by decide) (fun c29 => ?_) (fun c29 => ?_)
  · -- 29 -> 49
    exact absurd hy1 (by omega)
  · -- 29 -> 32
    refine zw_iload_n 1 rfl zd_NU_readWithBase_32 ?_
    refine zw_iconst zd_NU_readWithBase_33 ?_
    refine zw_icmp_lt 49 (by omega) (by omega) zd_NU_readWithBase_34 (by decide) (fun c34 => ?_) (fun c34 => ?_)
    · -- 34 -> 49
      exact absurd hy1 (by omega)
    · -- 34 -> 37
      refine zw_iload_n 1 rfl zd_NU_readWithBase_37 ?_
      refine zw_bipush rfl zd_NU_readWithBase_38 ?_
      refine zw_icmp_gt 49 (by omega) (by omega) zd_NU_readWithBase_40 (by decide) (fun c40 => ?_) (fun c40 => ?_)
      · -- 40 -> 49
        exact absurd hy1 (by omega)
      · -- 40 -> 43
        refine zw_iload 0 rfl zd_NU_readWithBase_43 ?_
        refine zw_iload_n 4 rfl zd_NU_readWithBase_45 ?_
        refine zw_icmp_lt 51 (by omega) (by omega) zd_NU_readWithBase_46 (by decide) (fun c46 => ?_) (fun c46 => ?_)
        · -- 46 -> 51
          have lp : ∀ (fuel : Nat) (p : Int), ((de + 1 ≤ p ∧ p ≤ q) ∧ ∀ j, de + 1 ≤ j → j < p → 0 ≤ digV (bget t j) ∧ digV (bget t j) < satV 10 (slc t db de)) → (q - p).toNat < fuel → zZ X zm_NU_readWithBase (0) (0) (0) (0) [zObj h 5 [.ref fa, .int (zI (ng)), .int (zI (db)), .int (zI (de)), .int (zI (wd)), .int (zI (ex)), .int (v), .int (zI (ft))], zBRow ht (t) (nt)] 55 [(0, .ref h), (1, .ref ht), (2, .int (zI (q))), (3, .int (zI (satV 10 (slc t db de)))), (4, .int (zI (de + 1))), (5, .int (zI (p)))] [] := by
            intro fuel
            induction fuel with
            | zero => intro p g0 hm; exact absurd hm (Nat.not_lt_zero _)
            | succ fuel ih =>
              intro p g0 hm
              refine zw_iload 5 rfl zd_NU_readWithBase_55 ?_
              refine zw_iload_n 2 rfl zd_NU_readWithBase_57 ?_
              refine zw_icmp_ge 91 (by omega) (by omega) zd_NU_readWithBase_58 (by decide) (fun c58 => ?_) (fun c58 => ?_)
              · -- 58 -> 91
                have hdg2 : ∀ c ∈ slc t (de + 1) q, 0 ≤ digV c := by
                  intro c hc
                  obtain ⟨j, j1, j2, j3, rfl⟩ := slc_mem (by omega) hc
                  exact (hy2 j j1 j2).1
                refine zw_aload_n 1 rfl zd_NU_readWithBase_91 ?_
                refine zw_iload 4 rfl zd_NU_readWithBase_92 ?_
                refine zw_iload_n 2 rfl zd_NU_readWithBase_94 ?_
                refine zw_iload_n 3 rfl zd_NU_readWithBase_95 ?_
                refine zw_callS (a := 0) (As := [.ref ht, .int (zI (de + 1)), .int (zI (q)), .int (zI (satV 10 (slc t db de)))]) (rest := []) (L2 := [zObj h 5 [.ref fa, .int (zI (ng)), .int (zI (db)), .int (zI (de)), .int (zI (wd)), .int (zI (ex)), .int (v), .int (zI (ft))]]) (L' := [zBRow ht (t) (nt), zObj h 5 [.ref fa, .int (zI (ng)), .int (zI (db)), .int (zI (de)), .int (zI (wd)), .int (zI (ex)), .int (v), .int (zI (ft))]]) (stk' := [.long (zJ (satV (satV 10 (slc t db de)) (slc t (de + 1) q)))]) (c_NU_sumDigits ht t nt (de + 1) q (satV 10 (slc t db de)) (by omega) (by omega) hdg2) [1] [0] rfl rfl rfl zcal_NU_sumDigits zl_NU_70 zst_NU_sumDigits (Nat.le_of_ble_eq_true rfl) (Nat.le_of_ble_eq_true rfl) (by omega) (by omega) rfl (Nat.le_of_ble_eq_true rfl) rfl rfl zd_NU_readWithBase_96 ?_
                have sd96 := satV_rg (b := (satV 10 (slc t db de))) (by omega) (slc t (de + 1) q) hdg2
                refine zw_lstore (lv' := [(5, .long (zJ (satV (satV 10 (slc t db de)) (slc t (de + 1) q)))), (0, .ref h), (1, .ref ht), (2, .int (zI (q))), (3, .int (zI (satV 10 (slc t db de)))), (4, .int (zI (de + 1)))]) (Nat.le_of_ble_eq_true rfl) rfl zd_NU_readWithBase_99 ?_
                refine zw_aload_n 1 rfl zd_NU_readWithBase_101 ?_
                refine zw_lload 0 rfl zd_NU_readWithBase_102 ?_
                refine zw_ldc2 zk_NU_79 4294967296 rfl zd_NU_readWithBase_104 ?_
                refine zw_lcmpR zd_NU_readWithBase_107 ?_
                refine zw_lif_ge 115 (by omega) (by omega) zd_NU_readWithBase_108 (by decide) (fun c108 => ?_) (fun c108 => ?_)
                · -- 108 -> 115
                  refine zw_iconst zd_NU_readWithBase_115 ?_
                  refine zw_put (L' := [zBRow ht (t) (nt), zObj h 5 [.ref fa, .int (zI (ng)), .int (zI (db)), .int (zI (de)), .int (zI (wd)), .int (zI (ex)), .int (v), .int (zI (0))]]) zc_NU 1 7 rfl (by decide) zf_NU_19 rfl rfl rfl (Nat.le_of_ble_eq_true rfl) rfl zd_NU_readWithBase_116 ?_
                  refine zw_aload_n 1 rfl zd_NU_readWithBase_119 ?_
                  refine zw_lload 0 rfl zd_NU_readWithBase_120 ?_
                  refine zw_l2i zd_NU_readWithBase_122 ?_
                  refine zw_put (L' := [zBRow ht (t) (nt), zObj h 5 [.ref fa, .int (zI (ng)), .int (zI (db)), .int (zI (de)), .int (zI (wd)), .int (zI (ex)), .int (zI (satV (satV 10 (slc t db de)) (slc t (de + 1) q))), .int (zI (0))]]) zc_NU 1 6 rfl (by decide) zf_NU_15 rfl rfl rfl (Nat.le_of_ble_eq_true rfl) rfl zd_NU_readWithBase_123 ?_
                  refine zw_iconst zd_NU_readWithBase_126 ?_
                  refine zw_sub (L' := [zObj h 5 [.ref fa, .int (zI (ng)), .int (zI (db)), .int (zI (de)), .int (zI (wd)), .int (zI (ex)), .int (zI (satV (satV 10 (slc t db de)) (slc t (de + 1) q))), .int (zI (0))], zBRow ht (t) (nt)]) [1, 0] rfl rfl ?_
                  exact zw_iret hR rfl (by rw [show bI (decide (satV (satV 10 (slc t db de)) (slc t (de + 1) q) < 4294967296)) = 0 by rw [bI]; first | rw [if_pos (decide_eq_true (by omega))] | rw [if_neg (by simp only [decide_eq_true_eq]; omega)]]) rfl (by omega) (by omega) zd_NU_readWithBase_127
                · -- 108 -> 111
                  refine zw_iconst zd_NU_readWithBase_111 ?_
                  refine zw_goto 116 zd_NU_readWithBase_112 (by decide) ?_
                  refine zw_put (L' := [zBRow ht (t) (nt), zObj h 5 [.ref fa, .int (zI (ng)), .int (zI (db)), .int (zI (de)), .int (zI (wd)), .int (zI (ex)), .int (v), .int (zI (1))]]) zc_NU 1 7 rfl (by decide) zf_NU_19 rfl rfl rfl (Nat.le_of_ble_eq_true rfl) rfl zd_NU_readWithBase_116 ?_
                  refine zw_aload_n 1 rfl zd_NU_readWithBase_119 ?_
                  refine zw_lload 0 rfl zd_NU_readWithBase_120 ?_
                  refine zw_l2i zd_NU_readWithBase_122 ?_
                  refine zw_put (L' := [zBRow ht (t) (nt), zObj h 5 [.ref fa, .int (zI (ng)), .int (zI (db)), .int (zI (de)), .int (zI (wd)), .int (zI (ex)), .int (zI (satV (satV 10 (slc t db de)) (slc t (de + 1) q))), .int (zI (1))]]) zc_NU 1 6 rfl (by decide) zf_NU_15 rfl rfl rfl (Nat.le_of_ble_eq_true rfl) rfl zd_NU_readWithBase_123 ?_
                  refine zw_iconst zd_NU_readWithBase_126 ?_
                  refine zw_sub (L' := [zObj h 5 [.ref fa, .int (zI (ng)), .int (zI (db)), .int (zI (de)), .int (zI (wd)), .int (zI (ex)), .int (zI (satV (satV 10 (slc t db de)) (slc t (de + 1) q))), .int (zI (1))], zBRow ht (t) (nt)]) [1, 0] rfl rfl ?_
                  exact zw_iret hR rfl (by rw [show bI (decide (satV (satV 10 (slc t db de)) (slc t (de + 1) q) < 4294967296)) = 1 by rw [bI]; first | rw [if_pos (decide_eq_true (by omega))] | rw [if_neg (by simp only [decide_eq_true_eq]; omega)]]) rfl (by omega) (by omega) zd_NU_readWithBase_127
              · -- 58 -> 61
                refine zw_aload_n 1 rfl zd_NU_readWithBase_61 ?_
                refine zw_iload 5 rfl zd_NU_readWithBase_62 ?_
                refine zw_callV (As := [.int (zI (p))]) (rest := []) (L2 := [zObj h 5 [.ref fa, .int (zI (ng)), .int (zI (db)), .int (zI (de)), .int (zI (wd)), .int (zI (ex)), .int (v), .int (zI (ft))]]) (L' := [zBRow ht (t) (nt), zObj h 5 [.ref fa, .int (zI (ng)), .int (zI (db)), .int (zI (de)), .int (zI (wd)), .int (zI (ex)), .int (v), .int (zI (ft))]]) (stk' := [.int (zI (bget t p))]) (c_BR_get ht (t) (nt) (p) (by omega)) [1] [0] rfl rfl rfl zcal_BR_get zl_NU_23 zin_BR_get zse_BR_get 0 rfl zRv_BRow rfl (Nat.le_of_ble_eq_true rfl) (Nat.le_of_ble_eq_true rfl) (by omega) (by omega) rfl (Nat.le_of_ble_eq_true rfl) rfl rfl zd_NU_readWithBase_64 ?_
                have rg64 := bget_rg hby (p)
                refine zw_callSN (a := 0) (As := [.int (zI (bget t p))]) (rest := []) (L2 := [zBRow ht (t) (nt), zObj h 5 [.ref fa, .int (zI (ng)), .int (zI (db)), .int (zI (de)), .int (zI (wd)), .int (zI (ex)), .int (v), .int (zI (ft))]]) (L' := [zBRow ht (t) (nt), zObj h 5 [.ref fa, .int (zI (ng)), .int (zI (db)), .int (zI (de)), .int (zI (wd)), .int (zI (ex)), .int (v), .int (zI (ft))]]) (stk' := [.int (zI (digV (bget t p)))]) (c_PW_digitValue (bget t p) (by omega)) [] [0, 1] rfl rfl rfl zcal_PW_digitValue (fun _ _ _ q => q.2) zst_PW_digitValue (Nat.le_of_ble_eq_true rfl) (Nat.le_of_ble_eq_true rfl) (by omega) (by omega) rfl (Nat.le_of_ble_eq_true rfl) rfl rfl zd_NU_readWithBase_67 ?_
                have dv67 := digV_rg (bget t p)
                refine zw_istore (lv' := [(6, .int (zI (digV (bget t p)))), (0, .ref h), (1, .ref ht), (2, .int (zI (q))), (3, .int (zI (satV 10 (slc t db de)))), (4, .int (zI (de + 1))), (5, .int (zI (p)))]) (Nat.le_of_ble_eq_true rfl) rfl zd_NU_readWithBase_70 ?_
                refine zw_iload 0 rfl zd_NU_readWithBase_72 ?_
                refine zw_if_lt 83 (by omega) zd_NU_readWithBase_74 (by decide) (fun c74 => ?_) (fun c74 => ?_)
                · -- 74 -> 83
                  have := hy2 p (by omega) (by omega)
                  omega
                · -- 74 -> 77
                  refine zw_iload 0 rfl zd_NU_readWithBase_77 ?_
                  refine zw_iload_n 4 rfl zd_NU_readWithBase_79 ?_
                  refine zw_icmp_lt 85 (by omega) (by omega) zd_NU_readWithBase_80 (by decide) (fun c80 => ?_) (fun c80 => ?_)
                  · -- 80 -> 85
                    refine zw_iinc (lv' := [(5, .int (zI (p + 1))), (6, .int (zI (digV (bget t p)))), (0, .ref h), (1, .ref ht), (2, .int (zI (q))), (3, .int (zI (satV 10 (slc t db de)))), (4, .int (zI (de + 1)))]) 6 rfl (Nat.le_of_ble_eq_true rfl) rfl zd_NU_readWithBase_85 ?_
                    refine zw_goto 55 zd_NU_readWithBase_88 (by decide) ?_
                    refine zw_sub (L' := [zObj h 5 [.ref fa, .int (zI (ng)), .int (zI (db)), .int (zI (de)), .int (zI (wd)), .int (zI (ex)), .int (v), .int (zI (ft))], zBRow ht (t) (nt)]) [1, 0] rfl rfl ?_
                    refine zw_lpick (lv' := [(0, .ref h), (1, .ref ht), (2, .int (zI (q))), (3, .int (zI (satV 10 (slc t db de)))), (4, .int (zI (de + 1))), (5, .int (zI (p + 1)))]) [2, 3, 4, 5, 6, 0] rfl ?_
                    refine zw_widen (k' := 0) (n' := 0) (by omega) (by omega) ?_
                    refine ih (p + 1) ⟨by omega, fun j h1 h2 => ?_⟩ (by omega)
                    rcases Int.lt_or_le j p with r | r
                    · exact g0.2 j h1 r
                    · rw [show j = p by omega]; omega
                  · -- 80 -> 83
                    have := hy2 p (by omega) (by omega)
                    omega
          refine zw_iload 0 rfl zd_NU_readWithBase_51 ?_
          refine zw_istore (lv' := [(5, .int (zI (de + 1))), (4, .int (zI (de + 1))), (3, .int (zI (satV 10 (slc t db de)))), (0, .ref h), (1, .ref ht), (2, .int (zI (q)))]) (Nat.le_of_ble_eq_true rfl) rfl zd_NU_readWithBase_53 ?_
          refine zw_sub (L' := [zObj h 5 [.ref fa, .int (zI (ng)), .int (zI (db)), .int (zI (de)), .int (zI (wd)), .int (zI (ex)), .int (v), .int (zI (ft))], zBRow ht (t) (nt)]) [1, 0] rfl rfl ?_
          refine zw_lpick (lv' := [(0, .ref h), (1, .ref ht), (2, .int (zI (q))), (3, .int (zI (satV 10 (slc t db de)))), (4, .int (zI (de + 1))), (5, .int (zI (de + 1)))]) [3, 4, 5, 2, 1, 0] rfl ?_
          refine zw_widen (k' := 0) (n' := 0) (by omega) (by omega) ?_
          exact lp _ (de + 1) ⟨by omega, fun j h1 h2 => by omega⟩ (Nat.lt_succ_self _)
        · -- 46 -> 49
          exact absurd hy1 (by omega)
set_option maxHeartbeats 4000000 in
set_option maxRecDepth 100000 in
theorem c_NU_based_no (h fa : Nat) (ng db de wd ex : Int) (v : Int32) (ft : Int) (ht : Nat) (t : List Int) (nt : Nat) (q : Int) (hf : 0 ≤ db ∧ db ≤ de ∧ de < q ∧ q ≤ t.length) (hwd : wd = de - db) (hd10 : ∀ c ∈ slc t db de, 0 ≤ digV c ∧ digV c ≤ 9) (hno : ¬ basedP t db de wd q) : zCT zy_NU_readWithBase zm_NU_readWithBase (0) (0) [.ref h, .ref ht, .int (zI q)] [zObj h 5 [.ref fa, .int (zI (ng)), .int (zI (db)), .int (zI (de)), .int (zI (wd)), .int (zI (ex)), .int (v), .int (zI (ft))], zBRow ht (t) (nt)] (some (.int (zI 3))) [zObj h 5 [.ref fa, .int (zI (ng)), .int (zI (db)), .int (zI (de)), .int (zI (wd)), .int (zI (ex)), .int (v), .int (zI (ft))], zBRow ht (t) (nt)] := by
  refine zCT.of [(0, .ref h), (1, .ref ht), (2, .int (zI (q)))] rfl (by decide) rfl (fun h => by first | rfl | cases h) (Nat.le_of_ble_eq_true rfl) (fun X hR => ?_)
  refine zw_fact 1 rfl (fun G w h => zBR_fact h) (fun hbr => ?_)
  obtain ⟨⟨ht1, ht2, ht3⟩, hby⟩ := hbr
  have hB1 := satV_rg (b := 10) (by omega) (slc t db de) (fun c hc => by have := hd10 c hc; omega)
  have hB2 := sat10_small hf.1 hf.2.1 (by omega) hd10
  have hdg : ∀ c ∈ slc t db de, 0 ≤ digV c := fun c hc => by have := hd10 c hc; omega
  refine zw_aload_n 1 rfl zd_NU_readWithBase_0 ?_
  refine zw_aload_n 0 rfl zd_NU_readWithBase_1 ?_
  refine zw_get zc_NU 0 2 rfl (by decide) zf_NU_36 rfl zd_NU_readWithBase_2 ?_
  refine zw_aload_n 0 rfl zd_NU_readWithBase_5 ?_
  refine zw_get zc_NU 0 3 rfl (by decide) zf_NU_43 rfl zd_NU_readWithBase_6 ?_
  refine zw_bipush rfl zd_NU_readWithBase_9 ?_
  refine zw_callS (a := 0) (As := [.ref ht, .int (zI (db)), .int (zI (de)), .int (zI (10))]) (rest := []) (L2 := [zObj h 5 [.ref fa, .int (zI (ng)), .int (zI (db)), .int (zI (de)), .int (zI (wd)), .int (zI (ex)), .int (v), .int (zI (ft))]]) (L' := [zBRow ht (t) (nt), zObj h 5 [.ref fa, .int (zI (ng)), .int (zI (db)), .int (zI (de)), .int (zI (wd)), .int (zI (ex)), .int (v), .int (zI (ft))]]) (stk' := [.long (zJ (satV 10 (slc t db de)))]) (c_NU_sumDigits ht t nt db de 10 (by omega) (by omega) hdg) [1] [0] rfl rfl rfl zcal_NU_sumDigits zl_NU_70 zst_NU_sumDigits (Nat.le_of_ble_eq_true rfl) (Nat.le_of_ble_eq_true rfl) (by omega) (by omega) rfl (Nat.le_of_ble_eq_true rfl) rfl rfl zd_NU_readWithBase_11 ?_
  have sd11 := satV_rg (b := 10) (by omega) (slc t db de) hdg
  refine zw_l2i zd_NU_readWithBase_14 ?_
  refine zw_istore_n (lv' := [(3, .int (zI (satV 10 (slc t db de)))), (0, .ref h), (1, .ref ht), (2, .int (zI (q)))]) (Nat.le_of_ble_eq_true rfl) rfl zd_NU_readWithBase_15 ?_
  refine zw_aload_n 1 rfl zd_NU_readWithBase_16 ?_
  refine zw_get zc_NU 1 3 rfl (by decide) zf_NU_43 rfl zd_NU_readWithBase_17 ?_
  refine zw_iconst zd_NU_readWithBase_20 ?_
  refine zw_iadd zd_NU_readWithBase_21 ?_
  refine zw_istore (lv' := [(4, .int (zI (de + 1))), (3, .int (zI (satV 10 (slc t db de)))), (0, .ref h), (1, .ref ht), (2, .int (zI (q)))]) (Nat.le_of_ble_eq_true rfl) rfl zd_NU_readWithBase_22 ?_
  refine zw_aload_n 2 rfl zd_NU_readWithBase_24 ?_
  refine zw_get zc_NU 1 4 rfl (by decide) zf_NU_46 rfl zd_NU_readWithBase_25 ?_
  refine zw_iconst zd_NU_readWithBase_28 ?_
  refine zw_icmp_gt 49 (by omega) (by omega) zd_NU_readWithBase_29 (by decide) (fun c29 => ?_) (fun c29 => ?_)
  · -- 29 -> 49
    refine zw_iconst zd_NU_readWithBase_49 ?_
    refine zw_sub (L' := [zObj h 5 [.ref fa, .int (zI (ng)), .int (zI (db)), .int (zI (de)), .int (zI (wd)), .int (zI (ex)), .int (v), .int (zI (ft))], zBRow ht (t) (nt)]) [1, 0] rfl rfl ?_
    exact zw_iret hR rfl rfl rfl (by omega) (by omega) zd_NU_readWithBase_50
  · -- 29 -> 32
    refine zw_iload_n 1 rfl zd_NU_readWithBase_32 ?_
    refine zw_iconst zd_NU_readWithBase_33 ?_
    refine zw_icmp_lt 49 (by omega) (by omega) zd_NU_readWithBase_34 (by decide) (fun c34 => ?_) (fun c34 => ?_)
    · -- 34 -> 49
      refine zw_iconst zd_NU_readWithBase_49 ?_
      refine zw_sub (L' := [zObj h 5 [.ref fa, .int (zI (ng)), .int (zI (db)), .int (zI (de)), .int (zI (wd)), .int (zI (ex)), .int (v), .int (zI (ft))], zBRow ht (t) (nt)]) [1, 0] rfl rfl ?_
      exact zw_iret hR rfl rfl rfl (by omega) (by omega) zd_NU_readWithBase_50
    · -- 34 -> 37
      refine zw_iload_n 1 rfl zd_NU_readWithBase_37 ?_
      refine zw_bipush rfl zd_NU_readWithBase_38 ?_
      refine zw_icmp_gt 49 (by omega) (by omega) zd_NU_readWithBase_40 (by decide) (fun c40 => ?_) (fun c40 => ?_)
      · -- 40 -> 49
        refine zw_iconst zd_NU_readWithBase_49 ?_
        refine zw_sub (L' := [zObj h 5 [.ref fa, .int (zI (ng)), .int (zI (db)), .int (zI (de)), .int (zI (wd)), .int (zI (ex)), .int (v), .int (zI (ft))], zBRow ht (t) (nt)]) [1, 0] rfl rfl ?_
        exact zw_iret hR rfl rfl rfl (by omega) (by omega) zd_NU_readWithBase_50
      · -- 40 -> 43
        refine zw_iload 0 rfl zd_NU_readWithBase_43 ?_
        refine zw_iload_n 4 rfl zd_NU_readWithBase_45 ?_
        refine zw_icmp_lt 51 (by omega) (by omega) zd_NU_readWithBase_46 (by decide) (fun c46 => ?_) (fun c46 => ?_)
        · -- 46 -> 51
          have lp : ∀ (fuel : Nat) (p : Int), ((de + 1 ≤ p ∧ p ≤ q) ∧ ∀ j, de + 1 ≤ j → j < p → 0 ≤ digV (bget t j) ∧ digV (bget t j) < satV 10 (slc t db de)) → (q - p).toNat < fuel → zZ X zm_NU_readWithBase (0) (0) (0) (0) [zObj h 5 [.ref fa, .int (zI (ng)), .int (zI (db)), .int (zI (de)), .int (zI (wd)), .int (zI (ex)), .int (v), .int (zI (ft))], zBRow ht (t) (nt)] 55 [(0, .ref h), (1, .ref ht), (2, .int (zI (q))), (3, .int (zI (satV 10 (slc t db de)))), (4, .int (zI (de + 1))), (5, .int (zI (p)))] [] := by
            intro fuel
            induction fuel with
            | zero => intro p g0 hm; exact absurd hm (Nat.not_lt_zero _)
            | succ fuel ih =>
              intro p g0 hm
              refine zw_iload 5 rfl zd_NU_readWithBase_55 ?_
              refine zw_iload_n 2 rfl zd_NU_readWithBase_57 ?_
              refine zw_icmp_ge 91 (by omega) (by omega) zd_NU_readWithBase_58 (by decide) (fun c58 => ?_) (fun c58 => ?_)
              · -- 58 -> 91
                exact absurd ⟨by omega, fun j h1 h2 => g0.2 j h1 (by omega)⟩ hno
              · -- 58 -> 61
                refine zw_aload_n 1 rfl zd_NU_readWithBase_61 ?_
                refine zw_iload 5 rfl zd_NU_readWithBase_62 ?_
                refine zw_callV (As := [.int (zI (p))]) (rest := []) (L2 := [zObj h 5 [.ref fa, .int (zI (ng)), .int (zI (db)), .int (zI (de)), .int (zI (wd)), .int (zI (ex)), .int (v), .int (zI (ft))]]) (L' := [zBRow ht (t) (nt), zObj h 5 [.ref fa, .int (zI (ng)), .int (zI (db)), .int (zI (de)), .int (zI (wd)), .int (zI (ex)), .int (v), .int (zI (ft))]]) (stk' := [.int (zI (bget t p))]) (c_BR_get ht (t) (nt) (p) (by omega)) [1] [0] rfl rfl rfl zcal_BR_get zl_NU_23 zin_BR_get zse_BR_get 0 rfl zRv_BRow rfl (Nat.le_of_ble_eq_true rfl) (Nat.le_of_ble_eq_true rfl) (by omega) (by omega) rfl (Nat.le_of_ble_eq_true rfl) rfl rfl zd_NU_readWithBase_64 ?_
                have rg64 := bget_rg hby (p)
                refine zw_callSN (a := 0) (As := [.int (zI (bget t p))]) (rest := []) (L2 := [zBRow ht (t) (nt), zObj h 5 [.ref fa, .int (zI (ng)), .int (zI (db)), .int (zI (de)), .int (zI (wd)), .int (zI (ex)), .int (v), .int (zI (ft))]]) (L' := [zBRow ht (t) (nt), zObj h 5 [.ref fa, .int (zI (ng)), .int (zI (db)), .int (zI (de)), .int (zI (wd)), .int (zI (ex)), .int (v), .int (zI (ft))]]) (stk' := [.int (zI (digV (bget t p)))]) (c_PW_digitValue (bget t p) (by omega)) [] [0, 1] rfl rfl rfl zcal_PW_digitValue (fun _ _ _ q => q.2) zst_PW_digitValue (Nat.le_of_ble_eq_true rfl) (Nat.le_of_ble_eq_true rfl) (by omega) (by omega) rfl (Nat.le_of_ble_eq_true rfl) rfl rfl zd_NU_readWithBase_67 ?_
                have dv67 := digV_rg (bget t p)
                refine zw_istore (lv' := [(6, .int (zI (digV (bget t p)))), (0, .ref h), (1, .ref ht), (2, .int (zI (q))), (3, .int (zI (satV 10 (slc t db de)))), (4, .int (zI (de + 1))), (5, .int (zI (p)))]) (Nat.le_of_ble_eq_true rfl) rfl zd_NU_readWithBase_70 ?_
                refine zw_iload 0 rfl zd_NU_readWithBase_72 ?_
                refine zw_if_lt 83 (by omega) zd_NU_readWithBase_74 (by decide) (fun c74 => ?_) (fun c74 => ?_)
                · -- 74 -> 83
                  refine zw_iconst zd_NU_readWithBase_83 ?_
                  refine zw_sub (L' := [zObj h 5 [.ref fa, .int (zI (ng)), .int (zI (db)), .int (zI (de)), .int (zI (wd)), .int (zI (ex)), .int (v), .int (zI (ft))], zBRow ht (t) (nt)]) [1, 0] rfl rfl ?_
                  exact zw_iret hR rfl rfl rfl (by omega) (by omega) zd_NU_readWithBase_84
                · -- 74 -> 77
                  refine zw_iload 0 rfl zd_NU_readWithBase_77 ?_
                  refine zw_iload_n 4 rfl zd_NU_readWithBase_79 ?_
                  refine zw_icmp_lt 85 (by omega) (by omega) zd_NU_readWithBase_80 (by decide) (fun c80 => ?_) (fun c80 => ?_)
                  · -- 80 -> 85
                    refine zw_iinc (lv' := [(5, .int (zI (p + 1))), (6, .int (zI (digV (bget t p)))), (0, .ref h), (1, .ref ht), (2, .int (zI (q))), (3, .int (zI (satV 10 (slc t db de)))), (4, .int (zI (de + 1)))]) 6 rfl (Nat.le_of_ble_eq_true rfl) rfl zd_NU_readWithBase_85 ?_
                    refine zw_goto 55 zd_NU_readWithBase_88 (by decide) ?_
                    refine zw_sub (L' := [zObj h 5 [.ref fa, .int (zI (ng)), .int (zI (db)), .int (zI (de)), .int (zI (wd)), .int (zI (ex)), .int (v), .int (zI (ft))], zBRow ht (t) (nt)]) [1, 0] rfl rfl ?_
                    refine zw_lpick (lv' := [(0, .ref h), (1, .ref ht), (2, .int (zI (q))), (3, .int (zI (satV 10 (slc t db de)))), (4, .int (zI (de + 1))), (5, .int (zI (p + 1)))]) [2, 3, 4, 5, 6, 0] rfl ?_
                    refine zw_widen (k' := 0) (n' := 0) (by omega) (by omega) ?_
                    refine ih (p + 1) ⟨by omega, fun j h1 h2 => ?_⟩ (by omega)
                    rcases Int.lt_or_le j p with r | r
                    · exact g0.2 j h1 r
                    · rw [show j = p by omega]; omega
                  · -- 80 -> 83
                    refine zw_iconst zd_NU_readWithBase_83 ?_
                    refine zw_sub (L' := [zObj h 5 [.ref fa, .int (zI (ng)), .int (zI (db)), .int (zI (de)), .int (zI (wd)), .int (zI (ex)), .int (v), .int (zI (ft))], zBRow ht (t) (nt)]) [1, 0] rfl rfl ?_
                    exact zw_iret hR rfl rfl rfl (by omega) (by omega) zd_NU_readWithBase_84
          refine zw_iload 0 rfl zd_NU_readWithBase_51 ?_
          refine zw_istore (lv' := [(5, .int (zI (de + 1))), (4, .int (zI (de + 1))), (3, .int (zI (satV 10 (slc t db de)))), (0, .ref h), (1, .ref ht), (2, .int (zI (q)))]) (Nat.le_of_ble_eq_true rfl) rfl zd_NU_readWithBase_53 ?_
          refine zw_sub (L' := [zObj h 5 [.ref fa, .int (zI (ng)), .int (zI (db)), .int (zI (de)), .int (zI (wd)), .int (zI (ex)), .int (v), .int (zI (ft))], zBRow ht (t) (nt)]) [1, 0] rfl rfl ?_
          refine zw_lpick (lv' := [(0, .ref h), (1, .ref ht), (2, .int (zI (q))), (3, .int (zI (satV 10 (slc t db de)))), (4, .int (zI (de + 1))), (5, .int (zI (de + 1)))]) [3, 4, 5, 2, 1, 0] rfl ?_
          refine zw_widen (k' := 0) (n' := 0) (by omega) (by omega) ?_
          exact lp _ (de + 1) ⟨by omega, fun j h1 h2 => by omega⟩ (Nat.lt_succ_self _)
        · -- 46 -> 49
          refine zw_iconst zd_NU_readWithBase_49 ?_
          refine zw_sub (L' := [zObj h 5 [.ref fa, .int (zI (ng)), .int (zI (db)), .int (zI (de)), .int (zI (wd)), .int (zI (ex)), .int (v), .int (zI (ft))], zBRow ht (t) (nt)]) [1, 0] rfl rfl ?_
          exact zw_iret hR rfl rfl rfl (by omega) (by omega) zd_NU_readWithBase_50
set_option maxHeartbeats 4000000 in
set_option maxRecDepth 100000 in
theorem c_NU_findFraction (h fa : Nat) (ng db de wd ex : Int) (v : Int32) (ft : Int) (ht : Nat) (t : List Int) (nt : Nat) (q : Int) (hf : 0 ≤ de ∧ de < q ∧ q ≤ t.length) (hwd : 0 ≤ wd ∧ wd ≤ 70000) (hend : sDig (bget t q) = false) : zCT zy_NU_findFraction zm_NU_findFraction (0) (0) [.ref h, .ref ht, .int (zI q)] [zObj h 5 [.ref fa, .int (zI (ng)), .int (zI (db)), .int (zI (de)), .int (zI (wd)), .int (zI (ex)), .int (v), .int (zI (ft))], zBRow ht (t) (nt)] (some (.int (zI (bI (decide (0 < frD t de wd)))))) [zObj h 5 [.ref fa, .int (zI (ng)), .int (zI (db)), .int (zI (frE t de)), .int (zI (wd)), .int (zI (ex)), .int (v), .int (zI (ft))], zBRow ht (t) (nt)] := by
  refine zCT.of [(0, .ref h), (1, .ref ht), (2, .int (zI (q)))] rfl (by decide) rfl (fun h => by first | rfl | cases h) (Nat.le_of_ble_eq_true rfl) (fun X hR => ?_)
  refine zw_fact 1 rfl (fun G w h => zBR_fact h) (fun hbr => ?_)
  obtain ⟨⟨ht1, ht2, ht3⟩, hby⟩ := hbr
  refine zw_aload_n 0 rfl zd_NU_findFraction_0 ?_
  refine zw_get zc_NU 0 4 rfl (by decide) zf_NU_46 rfl zd_NU_findFraction_1 ?_
  refine zw_istore_n (lv' := [(3, .int (zI (wd))), (0, .ref h), (1, .ref ht), (2, .int (zI (q)))]) (Nat.le_of_ble_eq_true rfl) rfl zd_NU_findFraction_4 ?_
  refine zw_aload_n 2 rfl zd_NU_findFraction_5 ?_
  refine zw_aload_n 1 rfl zd_NU_findFraction_6 ?_
  refine zw_get zc_NU 0 3 rfl (by decide) zf_NU_43 rfl zd_NU_findFraction_7 ?_
  refine zw_callV (As := [.int (zI (de))]) (rest := []) (L2 := [zObj h 5 [.ref fa, .int (zI (ng)), .int (zI (db)), .int (zI (de)), .int (zI (wd)), .int (zI (ex)), .int (v), .int (zI (ft))]]) (L' := [zBRow ht (t) (nt), zObj h 5 [.ref fa, .int (zI (ng)), .int (zI (db)), .int (zI (de)), .int (zI (wd)), .int (zI (ex)), .int (v), .int (zI (ft))]]) (stk' := [.int (zI (bget t de))]) (c_BR_get ht (t) (nt) (de) (by omega)) [1] [0] rfl rfl rfl zcal_BR_get zl_NU_23 zin_BR_get zse_BR_get 0 rfl zRv_BRow rfl (Nat.le_of_ble_eq_true rfl) (Nat.le_of_ble_eq_true rfl) (by omega) (by omega) rfl (Nat.le_of_ble_eq_true rfl) rfl rfl zd_NU_findFraction_10 ?_
  have rg10 := bget_rg hby (de)
  refine zw_bipush rfl zd_NU_findFraction_13 ?_
  refine zw_icmp_ne 47 (by omega) (by omega) zd_NU_findFraction_15 (by decide) (fun c15 => ?_) (fun c15 => ?_)
  · -- 15 -> 47
    refine zw_iload_n 0 rfl zd_NU_findFraction_47 ?_
    refine zw_if_le 55 (by omega) zd_NU_findFraction_48 (by decide) (fun c48 => ?_) (fun c48 => ?_)
    · -- 48 -> 55
      refine zw_iconst zd_NU_findFraction_55 ?_
      refine zw_sub (L' := [zObj h 5 [.ref fa, .int (zI (ng)), .int (zI (db)), .int (zI (de)), .int (zI (wd)), .int (zI (ex)), .int (v), .int (zI (ft))], zBRow ht (t) (nt)]) [1, 0] rfl rfl ?_
      have f1 : frE t de = de := by rw [frE, if_neg (by omega)]
      have f2 : frD t de wd = wd + 0 := by rw [frD, if_neg (by omega)]
      exact zw_zret hR (by rw [f2, bI]; first | rw [if_pos (decide_eq_true (by omega))] | rw [if_neg (by simp only [decide_eq_true_eq]; omega)]) (by rw [f1]) rfl rfl (by omega) (by omega) zd_NU_findFraction_56
    · -- 48 -> 51
      refine zw_iconst zd_NU_findFraction_51 ?_
      refine zw_goto 56 zd_NU_findFraction_52 (by decide) ?_
      refine zw_sub (L' := [zObj h 5 [.ref fa, .int (zI (ng)), .int (zI (db)), .int (zI (de)), .int (zI (wd)), .int (zI (ex)), .int (v), .int (zI (ft))], zBRow ht (t) (nt)]) [1, 0] rfl rfl ?_
      have f1 : frE t de = de := by rw [frE, if_neg (by omega)]
      have f2 : frD t de wd = wd + 0 := by rw [frD, if_neg (by omega)]
      exact zw_zret hR (by rw [f2, bI]; first | rw [if_pos (decide_eq_true (by omega))] | rw [if_neg (by simp only [decide_eq_true_eq]; omega)]) (by rw [f1]) rfl rfl (by omega) (by omega) zd_NU_findFraction_56
  · -- 15 -> 18
    refine zw_aload_n 1 rfl zd_NU_findFraction_18 ?_
    refine zw_get zc_NU 1 3 rfl (by decide) zf_NU_43 rfl zd_NU_findFraction_19 ?_
    refine zw_iconst zd_NU_findFraction_22 ?_
    refine zw_iadd zd_NU_findFraction_23 ?_
    refine zw_istore (lv' := [(4, .int (zI (de + 1))), (3, .int (zI (wd))), (0, .ref h), (1, .ref ht), (2, .int (zI (q)))]) (Nat.le_of_ble_eq_true rfl) rfl zd_NU_findFraction_24 ?_
    refine zw_aload_n 2 rfl zd_NU_findFraction_26 ?_
    refine zw_aload_n 3 rfl zd_NU_findFraction_27 ?_
    refine zw_iload 0 rfl zd_NU_findFraction_28 ?_
    refine zw_iload_n 4 rfl zd_NU_findFraction_30 ?_
    refine zw_callS (a := 0) (As := [.ref ht, .int (zI (de + 1)), .int (zI (q))]) (rest := [.ref h]) (L2 := [zObj h 5 [.ref fa, .int (zI (ng)), .int (zI (db)), .int (zI (de)), .int (zI (wd)), .int (zI (ex)), .int (v), .int (zI (ft))]]) (L' := [zBRow ht (t) (nt), zObj h 5 [.ref fa, .int (zI (ng)), .int (zI (db)), .int (zI (de)), .int (zI (wd)), .int (zI (ex)), .int (v), .int (zI (ft))]]) (stk' := [.int (zI (scanE sDig t (de + 1))), .ref h]) (c_NU_skipDigits ht t nt (de + 1) q (by omega) hend) [0] [1] rfl rfl rfl zcal_NU_skipDigits zl_NU_39 zst_NU_skipDigits (Nat.le_of_ble_eq_true rfl) (Nat.le_of_ble_eq_true rfl) (by omega) (by omega) rfl (Nat.le_of_ble_eq_true rfl) rfl rfl zd_NU_findFraction_31 ?_
    have sk31 := scanD_rg (t := t) (f := de + 1) (e := q) (by omega) hend
    refine zw_put (L' := [zBRow ht (t) (nt), zObj h 5 [.ref fa, .int (zI (ng)), .int (zI (db)), .int (zI (scanE sDig t (de + 1))), .int (zI (wd)), .int (zI (ex)), .int (v), .int (zI (ft))]]) zc_NU 1 3 rfl (by decide) zf_NU_43 rfl rfl rfl (Nat.le_of_ble_eq_true rfl) rfl zd_NU_findFraction_34 ?_
    refine zw_iload_n 1 rfl zd_NU_findFraction_37 ?_
    refine zw_aload_n 2 rfl zd_NU_findFraction_38 ?_
    refine zw_get zc_NU 1 3 rfl (by decide) zf_NU_43 rfl zd_NU_findFraction_39 ?_
    refine zw_iload 0 rfl zd_NU_findFraction_42 ?_
    refine zw_isub zd_NU_findFraction_44 ?_
    refine zw_iadd zd_NU_findFraction_45 ?_
    refine zw_istore_n (lv' := [(3, .int (zI (wd + ((scanE sDig t (de + 1)) - (de + 1))))), (4, .int (zI (de + 1))), (0, .ref h), (1, .ref ht), (2, .int (zI (q)))]) (Nat.le_of_ble_eq_true rfl) rfl zd_NU_findFraction_46 ?_
    refine zw_iload_n 0 rfl zd_NU_findFraction_47 ?_
    refine zw_if_le 55 (by omega) zd_NU_findFraction_48 (by decide) (fun c48 => ?_) (fun c48 => ?_)
    · -- 48 -> 55
      refine zw_iconst zd_NU_findFraction_55 ?_
      refine zw_sub (L' := [zObj h 5 [.ref fa, .int (zI (ng)), .int (zI (db)), .int (zI (scanE sDig t (de + 1))), .int (zI (wd)), .int (zI (ex)), .int (v), .int (zI (ft))], zBRow ht (t) (nt)]) [1, 0] rfl rfl ?_
      have f1 : frE t de = scanE sDig t (de + 1) := by rw [frE, if_pos (by omega)]
      have f2 : frD t de wd = wd + (scanE sDig t (de + 1) - (de + 1)) := by rw [frD, if_pos (by omega)]
      exact zw_zret hR (by rw [f2, bI]; first | rw [if_pos (decide_eq_true (by omega))] | rw [if_neg (by simp only [decide_eq_true_eq]; omega)]) (by rw [f1]) rfl rfl (by omega) (by omega) zd_NU_findFraction_56
    · -- 48 -> 51
      refine zw_iconst zd_NU_findFraction_51 ?_
      refine zw_goto 56 zd_NU_findFraction_52 (by decide) ?_
      refine zw_sub (L' := [zObj h 5 [.ref fa, .int (zI (ng)), .int (zI (db)), .int (zI (scanE sDig t (de + 1))), .int (zI (wd)), .int (zI (ex)), .int (v), .int (zI (ft))], zBRow ht (t) (nt)]) [1, 0] rfl rfl ?_
      have f1 : frE t de = scanE sDig t (de + 1) := by rw [frE, if_pos (by omega)]
      have f2 : frD t de wd = wd + (scanE sDig t (de + 1) - (de + 1)) := by rw [frD, if_pos (by omega)]
      exact zw_zret hR (by rw [f2, bI]; first | rw [if_pos (decide_eq_true (by omega))] | rw [if_neg (by simp only [decide_eq_true_eq]; omega)]) (by rw [f1]) rfl rfl (by omega) (by omega) zd_NU_findFraction_56
set_option maxHeartbeats 4000000 in
set_option maxRecDepth 100000 in
theorem c_NU_exp_end (h fa : Nat) (ng db de wd ex : Int) (v : Int32) (ft : Int) (ht : Nat) (t : List Int) (nt : Nat) (q : Int) (hf : de = q ∧ 0 ≤ q ∧ q ≤ t.length) : zCT zy_NU_findExponent zm_NU_findExponent (0) (0) [.ref h, .ref ht, .int (zI q)] [zObj h 5 [.ref fa, .int (zI (ng)), .int (zI (db)), .int (zI (de)), .int (zI (wd)), .int (zI (ex)), .int (v), .int (zI (ft))], zBRow ht (t) (nt)] (some (.int (zI 1))) [zObj h 5 [.ref fa, .int (zI (ng)), .int (zI (db)), .int (zI (de)), .int (zI (wd)), .int (zI (0)), .int (v), .int (zI (ft))], zBRow ht (t) (nt)] := by
  refine zCT.of [(0, .ref h), (1, .ref ht), (2, .int (zI (q)))] rfl (by decide) rfl (fun h => by first | rfl | cases h) (Nat.le_of_ble_eq_true rfl) (fun X hR => ?_)
  refine zw_fact 1 rfl (fun G w h => zBR_fact h) (fun hbr => ?_)
  obtain ⟨⟨ht1, ht2, ht3⟩, hby⟩ := hbr
  refine zw_aload_n 0 rfl zd_NU_findExponent_0 ?_
  refine zw_iconst zd_NU_findExponent_1 ?_
  refine zw_put (L' := [zObj h 5 [.ref fa, .int (zI (ng)), .int (zI (db)), .int (zI (de)), .int (zI (wd)), .int (zI (0)), .int (v), .int (zI (ft))], zBRow ht (t) (nt)]) zc_NU 0 5 rfl (by decide) zf_NU_87 rfl rfl rfl (Nat.le_of_ble_eq_true rfl) rfl zd_NU_findExponent_2 ?_
  refine zw_aload_n 0 rfl zd_NU_findExponent_5 ?_
  refine zw_get zc_NU 0 3 rfl (by decide) zf_NU_43 rfl zd_NU_findExponent_6 ?_
  refine zw_iload_n 2 rfl zd_NU_findExponent_9 ?_
  refine zw_icmp_ne 15 (by omega) (by omega) zd_NU_findExponent_10 (by decide) (fun c10 => ?_) (fun c10 => ?_)
  · -- 10 -> 15
    exact absurd c10 (by omega)
  · -- 10 -> 13
    refine zw_iconst zd_NU_findExponent_13 ?_
    exact zw_zret hR rfl rfl rfl rfl (by omega) (by omega) zd_NU_findExponent_14
set_option maxHeartbeats 4000000 in
set_option maxRecDepth 100000 in
theorem c_NU_exp_ok (h fa : Nat) (ng db de wd ex : Int) (v : Int32) (ft : Int) (ht : Nat) (t : List Int) (nt : Nat) (q : Int) (hf : 0 ≤ de ∧ de < q ∧ q ≤ t.length) (hend : sDig (bget t q) = false) (hend2 : sSign (bget t q) = false) (hyes : expP t de q) : zCT zy_NU_findExponent zm_NU_findExponent (0) (0) [.ref h, .ref ht, .int (zI q)] [zObj h 5 [.ref fa, .int (zI (ng)), .int (zI (db)), .int (zI (de)), .int (zI (wd)), .int (zI (ex)), .int (v), .int (zI (ft))], zBRow ht (t) (nt)] (some (.int (zI 1))) [zObj h 5 [.ref fa, .int (zI (ng)), .int (zI (db)), .int (zI (de)), .int (zI (wd)), .int (zI (exV t de q)), .int (v), .int (zI (ft))], zBRow ht (t) (nt)] := by
  refine zCT.of [(0, .ref h), (1, .ref ht), (2, .int (zI (q)))] rfl (by decide) rfl (fun h => by first | rfl | cases h) (Nat.le_of_ble_eq_true rfl) (fun X hR => ?_)
  refine zw_fact 1 rfl (fun G w h => zBR_fact h) (fun hbr => ?_)
  obtain ⟨⟨ht1, ht2, ht3⟩, hby⟩ := hbr
  obtain ⟨hy1, hy2, hy3⟩ := hyes
  refine zw_aload_n 0 rfl zd_NU_findExponent_0 ?_
  refine zw_iconst zd_NU_findExponent_1 ?_
  refine zw_put (L' := [zObj h 5 [.ref fa, .int (zI (ng)), .int (zI (db)), .int (zI (de)), .int (zI (wd)), .int (zI (0)), .int (v), .int (zI (ft))], zBRow ht (t) (nt)]) zc_NU 0 5 rfl (by decide) zf_NU_87 rfl rfl rfl (Nat.le_of_ble_eq_true rfl) rfl zd_NU_findExponent_2 ?_
  refine zw_aload_n 0 rfl zd_NU_findExponent_5 ?_
  refine zw_get zc_NU 0 3 rfl (by decide) zf_NU_43 rfl zd_NU_findExponent_6 ?_
  refine zw_iload_n 2 rfl zd_NU_findExponent_9 ?_
  refine zw_icmp_ne 15 (by omega) (by omega) zd_NU_findExponent_10 (by decide) (fun c10 => ?_) (fun c10 => ?_)
  · -- 10 -> 15
    refine zw_aload_n 1 rfl zd_NU_findExponent_15 ?_
    refine zw_aload_n 0 rfl zd_NU_findExponent_16 ?_
    refine zw_get zc_NU 0 3 rfl (by decide) zf_NU_43 rfl zd_NU_findExponent_17 ?_
    refine zw_callV (As := [.int (zI (de))]) (rest := []) (L2 := [zObj h 5 [.ref fa, .int (zI (ng)), .int (zI (db)), .int (zI (de)), .int (zI (wd)), .int (zI (0)), .int (v), .int (zI (ft))]]) (L' := [zBRow ht (t) (nt), zObj h 5 [.ref fa, .int (zI (ng)), .int (zI (db)), .int (zI (de)), .int (zI (wd)), .int (zI (0)), .int (v), .int (zI (ft))]]) (stk' := [.int (zI (bget t de))]) (c_BR_get ht (t) (nt) (de) (by omega)) [1] [0] rfl rfl rfl zcal_BR_get zl_NU_23 zin_BR_get zse_BR_get 0 rfl zRv_BRow rfl (Nat.le_of_ble_eq_true rfl) (Nat.le_of_ble_eq_true rfl) (by omega) (by omega) rfl (Nat.le_of_ble_eq_true rfl) rfl rfl zd_NU_findExponent_20 ?_
    have rg20 := bget_rg hby (de)
    refine zw_istore_n (lv' := [(3, .int (zI (bget t de))), (0, .ref h), (1, .ref ht), (2, .int (zI (q)))]) (Nat.le_of_ble_eq_true rfl) rfl zd_NU_findExponent_23 ?_
    refine zw_aload_n 2 rfl zd_NU_findExponent_24 ?_
    refine zw_aload_n 1 rfl zd_NU_findExponent_25 ?_
    refine zw_get zc_NU 1 3 rfl (by decide) zf_NU_43 rfl zd_NU_findExponent_26 ?_
    refine zw_iconst zd_NU_findExponent_29 ?_
    refine zw_iadd zd_NU_findExponent_30 ?_
    refine zw_callV (As := [.int (zI (de + 1))]) (rest := []) (L2 := [zObj h 5 [.ref fa, .int (zI (ng)), .int (zI (db)), .int (zI (de)), .int (zI (wd)), .int (zI (0)), .int (v), .int (zI (ft))]]) (L' := [zBRow ht (t) (nt), zObj h 5 [.ref fa, .int (zI (ng)), .int (zI (db)), .int (zI (de)), .int (zI (wd)), .int (zI (0)), .int (v), .int (zI (ft))]]) (stk' := [.int (zI (bget t (de + 1)))]) (c_BR_get ht (t) (nt) (de + 1) (by omega)) [0] [1] rfl rfl rfl zcal_BR_get zl_NU_23 zin_BR_get zse_BR_get 0 rfl zRv_BRow rfl (Nat.le_of_ble_eq_true rfl) (Nat.le_of_ble_eq_true rfl) (by omega) (by omega) rfl (Nat.le_of_ble_eq_true rfl) rfl rfl zd_NU_findExponent_31 ?_
    have rg31 := bget_rg hby (de + 1)
    refine zw_istore (lv' := [(4, .int (zI (bget t (de + 1)))), (3, .int (zI (bget t de))), (0, .ref h), (1, .ref ht), (2, .int (zI (q)))]) (Nat.le_of_ble_eq_true rfl) rfl zd_NU_findExponent_34 ?_
    refine zw_aload_n 2 rfl zd_NU_findExponent_36 ?_
    refine zw_get zc_NU 1 3 rfl (by decide) zf_NU_43 rfl zd_NU_findExponent_37 ?_
    refine zw_iload 0 rfl zd_NU_findExponent_40 ?_
    refine zw_callS (a := 0) (As := [.int (zI (bget t (de + 1)))]) (rest := [.int (zI (de))]) (L2 := [zBRow ht (t) (nt), zObj h 5 [.ref fa, .int (zI (ng)), .int (zI (db)), .int (zI (de)), .int (zI (wd)), .int (zI (0)), .int (v), .int (zI (ft))]]) (L' := [zBRow ht (t) (nt), zObj h 5 [.ref fa, .int (zI (ng)), .int (zI (db)), .int (zI (de)), .int (zI (wd)), .int (zI (0)), .int (v), .int (zI (ft))]]) (stk' := [.int (zI (bI (sSign (bget t (de + 1))))), .int (zI (de))]) (c_NU_isSign (bget t (de + 1)) (by omega)) [] [0, 1] rfl rfl rfl zcal_NU_isSign zl_NU_32 zst_NU_isSign (Nat.le_of_ble_eq_true rfl) (Nat.le_of_ble_eq_true rfl) (by omega) (by omega) rfl (Nat.le_of_ble_eq_true rfl) rfl rfl zd_NU_findExponent_42 ?_
    have rb42 := bI_rg (sSign (bget t (de + 1)))
    refine zw_if_eq 52 (by omega) zd_NU_findExponent_45 (by decide) (fun c45 => ?_) (fun c45 => ?_)
    · -- 45 -> 52
      refine zw_iconst zd_NU_findExponent_52 ?_
      refine zw_iadd zd_NU_findExponent_53 ?_
      refine zw_istore (lv' := [(5, .int (zI (de + 1))), (4, .int (zI (bget t (de + 1)))), (3, .int (zI (bget t de))), (0, .ref h), (1, .ref ht), (2, .int (zI (q)))]) (Nat.le_of_ble_eq_true rfl) rfl zd_NU_findExponent_54 ?_
      have xf : exF t de = de + 1 := by rw [exF, if_neg (by rw [zbI0 (b := sSign (bget t (de + 1))) (by omega)]; decide)]
      rw [xf] at hy2 hy3
      refine zw_iload_n 2 rfl zd_NU_findExponent_56 ?_
      refine zw_bipush rfl zd_NU_findExponent_57 ?_
      refine zw_icmp_eq 68 (by omega) (by omega) zd_NU_findExponent_59 (by decide) (fun c59 => ?_) (fun c59 => ?_)
      · -- 59 -> 68
        refine zw_iload 0 rfl zd_NU_findExponent_68 ?_
        refine zw_iload_n 5 rfl zd_NU_findExponent_70 ?_
        refine zw_icmp_ge 85 (by omega) (by omega) zd_NU_findExponent_71 (by decide) (fun c71 => ?_) (fun c71 => ?_)
        · -- 71 -> 85
          omega
        · -- 71 -> 74
          refine zw_aload_n 4 rfl zd_NU_findExponent_74 ?_
          refine zw_iload 0 rfl zd_NU_findExponent_75 ?_
          refine zw_iload_n 5 rfl zd_NU_findExponent_77 ?_
          refine zw_callS (a := 0) (As := [.ref ht, .int (zI (de + 1)), .int (zI (q))]) (rest := []) (L2 := [zObj h 5 [.ref fa, .int (zI (ng)), .int (zI (db)), .int (zI (de)), .int (zI (wd)), .int (zI (0)), .int (v), .int (zI (ft))]]) (L' := [zBRow ht (t) (nt), zObj h 5 [.ref fa, .int (zI (ng)), .int (zI (db)), .int (zI (de)), .int (zI (wd)), .int (zI (0)), .int (v), .int (zI (ft))]]) (stk' := [.int (zI (scanE sDig t (de + 1)))]) (c_NU_skipDigits ht t nt (de + 1) q (by omega) hend) [0] [1] rfl rfl rfl zcal_NU_skipDigits zl_NU_39 zst_NU_skipDigits (Nat.le_of_ble_eq_true rfl) (Nat.le_of_ble_eq_true rfl) (by omega) (by omega) rfl (Nat.le_of_ble_eq_true rfl) rfl rfl zd_NU_findExponent_78 ?_
          have sk78 := scanD_rg (t := t) (f := de + 1) (e := q) (by omega) hend
          refine zw_iload_n 5 rfl zd_NU_findExponent_81 ?_
          refine zw_icmp_eq 87 (by omega) (by omega) zd_NU_findExponent_82 (by decide) (fun c82 => ?_) (fun c82 => ?_)
          · -- 82 -> 87
            have hdg : ∀ c ∈ slc t (de + 1) q, 0 ≤ digV c := by
              intro c hc
              obtain ⟨j, j1, j2, j3, rfl⟩ := slc_mem (by omega) hc
              have hb := sk78.2.2 j j1 (by omega)
              unfold digV; rw [if_pos (by omega)]; omega
            refine zw_ldc2 zk_NU_90 1000 rfl zd_NU_findExponent_87 ?_
            refine zw_aload_n 4 rfl zd_NU_findExponent_90 ?_
            refine zw_iload 0 rfl zd_NU_findExponent_91 ?_
            refine zw_iload_n 5 rfl zd_NU_findExponent_93 ?_
            refine zw_bipush rfl zd_NU_findExponent_94 ?_
            refine zw_callS (a := 0) (As := [.ref ht, .int (zI (de + 1)), .int (zI (q)), .int (zI (10))]) (rest := [.long (zJ (1000))]) (L2 := [zObj h 5 [.ref fa, .int (zI (ng)), .int (zI (db)), .int (zI (de)), .int (zI (wd)), .int (zI (0)), .int (v), .int (zI (ft))]]) (L' := [zBRow ht (t) (nt), zObj h 5 [.ref fa, .int (zI (ng)), .int (zI (db)), .int (zI (de)), .int (zI (wd)), .int (zI (0)), .int (v), .int (zI (ft))]]) (stk' := [.long (zJ (satV 10 (slc t (de + 1) q))), .long (zJ (1000))]) (c_NU_sumDigits ht t nt (de + 1) q 10 (by omega) (by omega) hdg) [0] [1] rfl rfl rfl zcal_NU_sumDigits zl_NU_70 zst_NU_sumDigits (Nat.le_of_ble_eq_true rfl) (Nat.le_of_ble_eq_true rfl) (by omega) (by omega) rfl (Nat.le_of_ble_eq_true rfl) rfl rfl zd_NU_findExponent_96 ?_
            have sd96 := satV_rg (b := 10) (by omega) (slc t (de + 1) q) hdg
            refine zw_minJ (by omega) (by omega) zl_NU_81 zst_MA_minJ zini_MA zco_MA_minJ (Nat.le_of_ble_eq_true rfl) (Nat.le_of_ble_eq_true rfl) (by omega) (by omega) zd_NU_findExponent_99 ?_
            refine zw_l2i zd_NU_findExponent_102 ?_
            refine zw_istore (lv' := [(6, .int (zI (min 1000 (satV 10 (slc t (de + 1) q))))), (5, .int (zI (de + 1))), (4, .int (zI (bget t (de + 1)))), (3, .int (zI (bget t de))), (0, .ref h), (1, .ref ht), (2, .int (zI (q)))]) (Nat.le_of_ble_eq_true rfl) rfl zd_NU_findExponent_103 ?_
            refine zw_aload_n 4 rfl zd_NU_findExponent_105 ?_
            refine zw_iload 2 rfl zd_NU_findExponent_106 ?_
            refine zw_bipush rfl zd_NU_findExponent_108 ?_
            refine zw_icmp_ne 119 (by omega) (by omega) zd_NU_findExponent_110 (by decide) (fun c110 => ?_) (fun c110 => ?_)
            · -- 110 -> 119
              refine zw_iload 0 rfl zd_NU_findExponent_119 ?_
              refine zw_put (L' := [zBRow ht (t) (nt), zObj h 5 [.ref fa, .int (zI (ng)), .int (zI (db)), .int (zI (de)), .int (zI (wd)), .int (zI (min 1000 (satV 10 (slc t (de + 1) q)))), .int (v), .int (zI (ft))]]) zc_NU 1 5 rfl (by decide) zf_NU_87 rfl rfl rfl (Nat.le_of_ble_eq_true rfl) rfl zd_NU_findExponent_121 ?_
              refine zw_iconst zd_NU_findExponent_124 ?_
              refine zw_sub (L' := [zObj h 5 [.ref fa, .int (zI (ng)), .int (zI (db)), .int (zI (de)), .int (zI (wd)), .int (zI (min 1000 (satV 10 (slc t (de + 1) q)))), .int (v), .int (zI (ft))], zBRow ht (t) (nt)]) [1, 0] rfl rfl ?_
              exact zw_zret hR rfl (by rw [show exV t de q = min 1000 (satV 10 (slc t (de + 1) q)) by rw [exV, xf]; split <;> omega]) rfl rfl (by omega) (by omega) zd_NU_findExponent_125
            · -- 110 -> 113
              refine zw_iload 0 rfl zd_NU_findExponent_113 ?_
              refine zw_ineg zd_NU_findExponent_115 ?_
              refine zw_goto 121 zd_NU_findExponent_116 (by decide) ?_
              refine zw_put (L' := [zBRow ht (t) (nt), zObj h 5 [.ref fa, .int (zI (ng)), .int (zI (db)), .int (zI (de)), .int (zI (wd)), .int (zI (-(min 1000 (satV 10 (slc t (de + 1) q))))), .int (v), .int (zI (ft))]]) zc_NU 1 5 rfl (by decide) zf_NU_87 rfl rfl rfl (Nat.le_of_ble_eq_true rfl) rfl zd_NU_findExponent_121 ?_
              refine zw_iconst zd_NU_findExponent_124 ?_
              refine zw_sub (L' := [zObj h 5 [.ref fa, .int (zI (ng)), .int (zI (db)), .int (zI (de)), .int (zI (wd)), .int (zI (-(min 1000 (satV 10 (slc t (de + 1) q))))), .int (v), .int (zI (ft))], zBRow ht (t) (nt)]) [1, 0] rfl rfl ?_
              exact zw_zret hR rfl (by rw [show exV t de q = -(min 1000 (satV 10 (slc t (de + 1) q))) by rw [exV, xf]; split <;> omega]) rfl rfl (by omega) (by omega) zd_NU_findExponent_125
          · -- 82 -> 85
            omega
      · -- 59 -> 62
        refine zw_iload_n 2 rfl zd_NU_findExponent_62 ?_
        refine zw_bipush rfl zd_NU_findExponent_63 ?_
        refine zw_icmp_ne 85 (by omega) (by omega) zd_NU_findExponent_65 (by decide) (fun c65 => ?_) (fun c65 => ?_)
        · -- 65 -> 85
          omega
        · -- 65 -> 68
          refine zw_iload 0 rfl zd_NU_findExponent_68 ?_
          refine zw_iload_n 5 rfl zd_NU_findExponent_70 ?_
          refine zw_icmp_ge 85 (by omega) (by omega) zd_NU_findExponent_71 (by decide) (fun c71 => ?_) (fun c71 => ?_)
          · -- 71 -> 85
            omega
          · -- 71 -> 74
            refine zw_aload_n 4 rfl zd_NU_findExponent_74 ?_
            refine zw_iload 0 rfl zd_NU_findExponent_75 ?_
            refine zw_iload_n 5 rfl zd_NU_findExponent_77 ?_
            refine zw_callS (a := 0) (As := [.ref ht, .int (zI (de + 1)), .int (zI (q))]) (rest := []) (L2 := [zObj h 5 [.ref fa, .int (zI (ng)), .int (zI (db)), .int (zI (de)), .int (zI (wd)), .int (zI (0)), .int (v), .int (zI (ft))]]) (L' := [zBRow ht (t) (nt), zObj h 5 [.ref fa, .int (zI (ng)), .int (zI (db)), .int (zI (de)), .int (zI (wd)), .int (zI (0)), .int (v), .int (zI (ft))]]) (stk' := [.int (zI (scanE sDig t (de + 1)))]) (c_NU_skipDigits ht t nt (de + 1) q (by omega) hend) [0] [1] rfl rfl rfl zcal_NU_skipDigits zl_NU_39 zst_NU_skipDigits (Nat.le_of_ble_eq_true rfl) (Nat.le_of_ble_eq_true rfl) (by omega) (by omega) rfl (Nat.le_of_ble_eq_true rfl) rfl rfl zd_NU_findExponent_78 ?_
            have sk78 := scanD_rg (t := t) (f := de + 1) (e := q) (by omega) hend
            refine zw_iload_n 5 rfl zd_NU_findExponent_81 ?_
            refine zw_icmp_eq 87 (by omega) (by omega) zd_NU_findExponent_82 (by decide) (fun c82 => ?_) (fun c82 => ?_)
            · -- 82 -> 87
              have hdg : ∀ c ∈ slc t (de + 1) q, 0 ≤ digV c := by
                intro c hc
                obtain ⟨j, j1, j2, j3, rfl⟩ := slc_mem (by omega) hc
                have hb := sk78.2.2 j j1 (by omega)
                unfold digV; rw [if_pos (by omega)]; omega
              refine zw_ldc2 zk_NU_90 1000 rfl zd_NU_findExponent_87 ?_
              refine zw_aload_n 4 rfl zd_NU_findExponent_90 ?_
              refine zw_iload 0 rfl zd_NU_findExponent_91 ?_
              refine zw_iload_n 5 rfl zd_NU_findExponent_93 ?_
              refine zw_bipush rfl zd_NU_findExponent_94 ?_
              refine zw_callS (a := 0) (As := [.ref ht, .int (zI (de + 1)), .int (zI (q)), .int (zI (10))]) (rest := [.long (zJ (1000))]) (L2 := [zObj h 5 [.ref fa, .int (zI (ng)), .int (zI (db)), .int (zI (de)), .int (zI (wd)), .int (zI (0)), .int (v), .int (zI (ft))]]) (L' := [zBRow ht (t) (nt), zObj h 5 [.ref fa, .int (zI (ng)), .int (zI (db)), .int (zI (de)), .int (zI (wd)), .int (zI (0)), .int (v), .int (zI (ft))]]) (stk' := [.long (zJ (satV 10 (slc t (de + 1) q))), .long (zJ (1000))]) (c_NU_sumDigits ht t nt (de + 1) q 10 (by omega) (by omega) hdg) [0] [1] rfl rfl rfl zcal_NU_sumDigits zl_NU_70 zst_NU_sumDigits (Nat.le_of_ble_eq_true rfl) (Nat.le_of_ble_eq_true rfl) (by omega) (by omega) rfl (Nat.le_of_ble_eq_true rfl) rfl rfl zd_NU_findExponent_96 ?_
              have sd96 := satV_rg (b := 10) (by omega) (slc t (de + 1) q) hdg
              refine zw_minJ (by omega) (by omega) zl_NU_81 zst_MA_minJ zini_MA zco_MA_minJ (Nat.le_of_ble_eq_true rfl) (Nat.le_of_ble_eq_true rfl) (by omega) (by omega) zd_NU_findExponent_99 ?_
              refine zw_l2i zd_NU_findExponent_102 ?_
              refine zw_istore (lv' := [(6, .int (zI (min 1000 (satV 10 (slc t (de + 1) q))))), (5, .int (zI (de + 1))), (4, .int (zI (bget t (de + 1)))), (3, .int (zI (bget t de))), (0, .ref h), (1, .ref ht), (2, .int (zI (q)))]) (Nat.le_of_ble_eq_true rfl) rfl zd_NU_findExponent_103 ?_
              refine zw_aload_n 4 rfl zd_NU_findExponent_105 ?_
              refine zw_iload 2 rfl zd_NU_findExponent_106 ?_
              refine zw_bipush rfl zd_NU_findExponent_108 ?_
              refine zw_icmp_ne 119 (by omega) (by omega) zd_NU_findExponent_110 (by decide) (fun c110 => ?_) (fun c110 => ?_)
              · -- 110 -> 119
                refine zw_iload 0 rfl zd_NU_findExponent_119 ?_
                refine zw_put (L' := [zBRow ht (t) (nt), zObj h 5 [.ref fa, .int (zI (ng)), .int (zI (db)), .int (zI (de)), .int (zI (wd)), .int (zI (min 1000 (satV 10 (slc t (de + 1) q)))), .int (v), .int (zI (ft))]]) zc_NU 1 5 rfl (by decide) zf_NU_87 rfl rfl rfl (Nat.le_of_ble_eq_true rfl) rfl zd_NU_findExponent_121 ?_
                refine zw_iconst zd_NU_findExponent_124 ?_
                refine zw_sub (L' := [zObj h 5 [.ref fa, .int (zI (ng)), .int (zI (db)), .int (zI (de)), .int (zI (wd)), .int (zI (min 1000 (satV 10 (slc t (de + 1) q)))), .int (v), .int (zI (ft))], zBRow ht (t) (nt)]) [1, 0] rfl rfl ?_
                exact zw_zret hR rfl (by rw [show exV t de q = min 1000 (satV 10 (slc t (de + 1) q)) by rw [exV, xf]; split <;> omega]) rfl rfl (by omega) (by omega) zd_NU_findExponent_125
              · -- 110 -> 113
                refine zw_iload 0 rfl zd_NU_findExponent_113 ?_
                refine zw_ineg zd_NU_findExponent_115 ?_
                refine zw_goto 121 zd_NU_findExponent_116 (by decide) ?_
                refine zw_put (L' := [zBRow ht (t) (nt), zObj h 5 [.ref fa, .int (zI (ng)), .int (zI (db)), .int (zI (de)), .int (zI (wd)), .int (zI (-(min 1000 (satV 10 (slc t (de + 1) q))))), .int (v), .int (zI (ft))]]) zc_NU 1 5 rfl (by decide) zf_NU_87 rfl rfl rfl (Nat.le_of_ble_eq_true rfl) rfl zd_NU_findExponent_121 ?_
                refine zw_iconst zd_NU_findExponent_124 ?_
                refine zw_sub (L' := [zObj h 5 [.ref fa, .int (zI (ng)), .int (zI (db)), .int (zI (de)), .int (zI (wd)), .int (zI (-(min 1000 (satV 10 (slc t (de + 1) q))))), .int (v), .int (zI (ft))], zBRow ht (t) (nt)]) [1, 0] rfl rfl ?_
                exact zw_zret hR rfl (by rw [show exV t de q = -(min 1000 (satV 10 (slc t (de + 1) q))) by rw [exV, xf]; split <;> omega]) rfl rfl (by omega) (by omega) zd_NU_findExponent_125
            · -- 82 -> 85
              omega
    · -- 45 -> 48
      refine zw_iconst zd_NU_findExponent_48 ?_
      refine zw_goto 53 zd_NU_findExponent_49 (by decide) ?_
      refine zw_iadd zd_NU_findExponent_53 ?_
      refine zw_istore (lv' := [(5, .int (zI (de + 2))), (4, .int (zI (bget t (de + 1)))), (3, .int (zI (bget t de))), (0, .ref h), (1, .ref ht), (2, .int (zI (q)))]) (Nat.le_of_ble_eq_true rfl) rfl zd_NU_findExponent_54 ?_
      have xf : exF t de = de + 2 := by rw [exF, if_pos (zbI1 (by omega))]
      rw [xf] at hy2 hy3
      refine zw_iload_n 2 rfl zd_NU_findExponent_56 ?_
      refine zw_bipush rfl zd_NU_findExponent_57 ?_
      refine zw_icmp_eq 68 (by omega) (by omega) zd_NU_findExponent_59 (by decide) (fun c59 => ?_) (fun c59 => ?_)
      · -- 59 -> 68
        refine zw_iload 0 rfl zd_NU_findExponent_68 ?_
        refine zw_iload_n 5 rfl zd_NU_findExponent_70 ?_
        refine zw_icmp_ge 85 (by omega) (by omega) zd_NU_findExponent_71 (by decide) (fun c71 => ?_) (fun c71 => ?_)
        · -- 71 -> 85
          omega
        · -- 71 -> 74
          refine zw_aload_n 4 rfl zd_NU_findExponent_74 ?_
          refine zw_iload 0 rfl zd_NU_findExponent_75 ?_
          refine zw_iload_n 5 rfl zd_NU_findExponent_77 ?_
          refine zw_callS (a := 0) (As := [.ref ht, .int (zI (de + 2)), .int (zI (q))]) (rest := []) (L2 := [zObj h 5 [.ref fa, .int (zI (ng)), .int (zI (db)), .int (zI (de)), .int (zI (wd)), .int (zI (0)), .int (v), .int (zI (ft))]]) (L' := [zBRow ht (t) (nt), zObj h 5 [.ref fa, .int (zI (ng)), .int (zI (db)), .int (zI (de)), .int (zI (wd)), .int (zI (0)), .int (v), .int (zI (ft))]]) (stk' := [.int (zI (scanE sDig t (de + 2)))]) (c_NU_skipDigits ht t nt (de + 2) q (by omega) hend) [0] [1] rfl rfl rfl zcal_NU_skipDigits zl_NU_39 zst_NU_skipDigits (Nat.le_of_ble_eq_true rfl) (Nat.le_of_ble_eq_true rfl) (by omega) (by omega) rfl (Nat.le_of_ble_eq_true rfl) rfl rfl zd_NU_findExponent_78 ?_
          have sk78 := scanD_rg (t := t) (f := de + 2) (e := q) (by omega) hend
          refine zw_iload_n 5 rfl zd_NU_findExponent_81 ?_
          refine zw_icmp_eq 87 (by omega) (by omega) zd_NU_findExponent_82 (by decide) (fun c82 => ?_) (fun c82 => ?_)
          · -- 82 -> 87
            have hdg : ∀ c ∈ slc t (de + 2) q, 0 ≤ digV c := by
              intro c hc
              obtain ⟨j, j1, j2, j3, rfl⟩ := slc_mem (by omega) hc
              have hb := sk78.2.2 j j1 (by omega)
              unfold digV; rw [if_pos (by omega)]; omega
            refine zw_ldc2 zk_NU_90 1000 rfl zd_NU_findExponent_87 ?_
            refine zw_aload_n 4 rfl zd_NU_findExponent_90 ?_
            refine zw_iload 0 rfl zd_NU_findExponent_91 ?_
            refine zw_iload_n 5 rfl zd_NU_findExponent_93 ?_
            refine zw_bipush rfl zd_NU_findExponent_94 ?_
            refine zw_callS (a := 0) (As := [.ref ht, .int (zI (de + 2)), .int (zI (q)), .int (zI (10))]) (rest := [.long (zJ (1000))]) (L2 := [zObj h 5 [.ref fa, .int (zI (ng)), .int (zI (db)), .int (zI (de)), .int (zI (wd)), .int (zI (0)), .int (v), .int (zI (ft))]]) (L' := [zBRow ht (t) (nt), zObj h 5 [.ref fa, .int (zI (ng)), .int (zI (db)), .int (zI (de)), .int (zI (wd)), .int (zI (0)), .int (v), .int (zI (ft))]]) (stk' := [.long (zJ (satV 10 (slc t (de + 2) q))), .long (zJ (1000))]) (c_NU_sumDigits ht t nt (de + 2) q 10 (by omega) (by omega) hdg) [0] [1] rfl rfl rfl zcal_NU_sumDigits zl_NU_70 zst_NU_sumDigits (Nat.le_of_ble_eq_true rfl) (Nat.le_of_ble_eq_true rfl) (by omega) (by omega) rfl (Nat.le_of_ble_eq_true rfl) rfl rfl zd_NU_findExponent_96 ?_
            have sd96 := satV_rg (b := 10) (by omega) (slc t (de + 2) q) hdg
            refine zw_minJ (by omega) (by omega) zl_NU_81 zst_MA_minJ zini_MA zco_MA_minJ (Nat.le_of_ble_eq_true rfl) (Nat.le_of_ble_eq_true rfl) (by omega) (by omega) zd_NU_findExponent_99 ?_
            refine zw_l2i zd_NU_findExponent_102 ?_
            refine zw_istore (lv' := [(6, .int (zI (min 1000 (satV 10 (slc t (de + 2) q))))), (5, .int (zI (de + 2))), (4, .int (zI (bget t (de + 1)))), (3, .int (zI (bget t de))), (0, .ref h), (1, .ref ht), (2, .int (zI (q)))]) (Nat.le_of_ble_eq_true rfl) rfl zd_NU_findExponent_103 ?_
            refine zw_aload_n 4 rfl zd_NU_findExponent_105 ?_
            refine zw_iload 2 rfl zd_NU_findExponent_106 ?_
            refine zw_bipush rfl zd_NU_findExponent_108 ?_
            refine zw_icmp_ne 119 (by omega) (by omega) zd_NU_findExponent_110 (by decide) (fun c110 => ?_) (fun c110 => ?_)
            · -- 110 -> 119
              refine zw_iload 0 rfl zd_NU_findExponent_119 ?_
              refine zw_put (L' := [zBRow ht (t) (nt), zObj h 5 [.ref fa, .int (zI (ng)), .int (zI (db)), .int (zI (de)), .int (zI (wd)), .int (zI (min 1000 (satV 10 (slc t (de + 2) q)))), .int (v), .int (zI (ft))]]) zc_NU 1 5 rfl (by decide) zf_NU_87 rfl rfl rfl (Nat.le_of_ble_eq_true rfl) rfl zd_NU_findExponent_121 ?_
              refine zw_iconst zd_NU_findExponent_124 ?_
              refine zw_sub (L' := [zObj h 5 [.ref fa, .int (zI (ng)), .int (zI (db)), .int (zI (de)), .int (zI (wd)), .int (zI (min 1000 (satV 10 (slc t (de + 2) q)))), .int (v), .int (zI (ft))], zBRow ht (t) (nt)]) [1, 0] rfl rfl ?_
              exact zw_zret hR rfl (by rw [show exV t de q = min 1000 (satV 10 (slc t (de + 2) q)) by rw [exV, xf]; split <;> omega]) rfl rfl (by omega) (by omega) zd_NU_findExponent_125
            · -- 110 -> 113
              refine zw_iload 0 rfl zd_NU_findExponent_113 ?_
              refine zw_ineg zd_NU_findExponent_115 ?_
              refine zw_goto 121 zd_NU_findExponent_116 (by decide) ?_
              refine zw_put (L' := [zBRow ht (t) (nt), zObj h 5 [.ref fa, .int (zI (ng)), .int (zI (db)), .int (zI (de)), .int (zI (wd)), .int (zI (-(min 1000 (satV 10 (slc t (de + 2) q))))), .int (v), .int (zI (ft))]]) zc_NU 1 5 rfl (by decide) zf_NU_87 rfl rfl rfl (Nat.le_of_ble_eq_true rfl) rfl zd_NU_findExponent_121 ?_
              refine zw_iconst zd_NU_findExponent_124 ?_
              refine zw_sub (L' := [zObj h 5 [.ref fa, .int (zI (ng)), .int (zI (db)), .int (zI (de)), .int (zI (wd)), .int (zI (-(min 1000 (satV 10 (slc t (de + 2) q))))), .int (v), .int (zI (ft))], zBRow ht (t) (nt)]) [1, 0] rfl rfl ?_
              exact zw_zret hR rfl (by rw [show exV t de q = -(min 1000 (satV 10 (slc t (de + 2) q))) by rw [exV, xf]; split <;> omega]) rfl rfl (by omega) (by omega) zd_NU_findExponent_125
          · -- 82 -> 85
            omega
      · -- 59 -> 62
        refine zw_iload_n 2 rfl zd_NU_findExponent_62 ?_
        refine zw_bipush rfl zd_NU_findExponent_63 ?_
        refine zw_icmp_ne 85 (by omega) (by omega) zd_NU_findExponent_65 (by decide) (fun c65 => ?_) (fun c65 => ?_)
        · -- 65 -> 85
          omega
        · -- 65 -> 68
          refine zw_iload 0 rfl zd_NU_findExponent_68 ?_
          refine zw_iload_n 5 rfl zd_NU_findExponent_70 ?_
          refine zw_icmp_ge 85 (by omega) (by omega) zd_NU_findExponent_71 (by decide) (fun c71 => ?_) (fun c71 => ?_)
          · -- 71 -> 85
            omega
          · -- 71 -> 74
            refine zw_aload_n 4 rfl zd_NU_findExponent_74 ?_
            refine zw_iload 0 rfl zd_NU_findExponent_75 ?_
            refine zw_iload_n 5 rfl zd_NU_findExponent_77 ?_
            refine zw_callS (a := 0) (As := [.ref ht, .int (zI (de + 2)), .int (zI (q))]) (rest := []) (L2 := [zObj h 5 [.ref fa, .int (zI (ng)), .int (zI (db)), .int (zI (de)), .int (zI (wd)), .int (zI (0)), .int (v), .int (zI (ft))]]) (L' := [zBRow ht (t) (nt), zObj h 5 [.ref fa, .int (zI (ng)), .int (zI (db)), .int (zI (de)), .int (zI (wd)), .int (zI (0)), .int (v), .int (zI (ft))]]) (stk' := [.int (zI (scanE sDig t (de + 2)))]) (c_NU_skipDigits ht t nt (de + 2) q (by omega) hend) [0] [1] rfl rfl rfl zcal_NU_skipDigits zl_NU_39 zst_NU_skipDigits (Nat.le_of_ble_eq_true rfl) (Nat.le_of_ble_eq_true rfl) (by omega) (by omega) rfl (Nat.le_of_ble_eq_true rfl) rfl rfl zd_NU_findExponent_78 ?_
            have sk78 := scanD_rg (t := t) (f := de + 2) (e := q) (by omega) hend
            refine zw_iload_n 5 rfl zd_NU_findExponent_81 ?_
            refine zw_icmp_eq 87 (by omega) (by omega) zd_NU_findExponent_82 (by decide) (fun c82 => ?_) (fun c82 => ?_)
            · -- 82 -> 87
              have hdg : ∀ c ∈ slc t (de + 2) q, 0 ≤ digV c := by
                intro c hc
                obtain ⟨j, j1, j2, j3, rfl⟩ := slc_mem (by omega) hc
                have hb := sk78.2.2 j j1 (by omega)
                unfold digV; rw [if_pos (by omega)]; omega
              refine zw_ldc2 zk_NU_90 1000 rfl zd_NU_findExponent_87 ?_
              refine zw_aload_n 4 rfl zd_NU_findExponent_90 ?_
              refine zw_iload 0 rfl zd_NU_findExponent_91 ?_
              refine zw_iload_n 5 rfl zd_NU_findExponent_93 ?_
              refine zw_bipush rfl zd_NU_findExponent_94 ?_
              refine zw_callS (a := 0) (As := [.ref ht, .int (zI (de + 2)), .int (zI (q)), .int (zI (10))]) (rest := [.long (zJ (1000))]) (L2 := [zObj h 5 [.ref fa, .int (zI (ng)), .int (zI (db)), .int (zI (de)), .int (zI (wd)), .int (zI (0)), .int (v), .int (zI (ft))]]) (L' := [zBRow ht (t) (nt), zObj h 5 [.ref fa, .int (zI (ng)), .int (zI (db)), .int (zI (de)), .int (zI (wd)), .int (zI (0)), .int (v), .int (zI (ft))]]) (stk' := [.long (zJ (satV 10 (slc t (de + 2) q))), .long (zJ (1000))]) (c_NU_sumDigits ht t nt (de + 2) q 10 (by omega) (by omega) hdg) [0] [1] rfl rfl rfl zcal_NU_sumDigits zl_NU_70 zst_NU_sumDigits (Nat.le_of_ble_eq_true rfl) (Nat.le_of_ble_eq_true rfl) (by omega) (by omega) rfl (Nat.le_of_ble_eq_true rfl) rfl rfl zd_NU_findExponent_96 ?_
              have sd96 := satV_rg (b := 10) (by omega) (slc t (de + 2) q) hdg
              refine zw_minJ (by omega) (by omega) zl_NU_81 zst_MA_minJ zini_MA zco_MA_minJ (Nat.le_of_ble_eq_true rfl) (Nat.le_of_ble_eq_true rfl) (by omega) (by omega) zd_NU_findExponent_99 ?_
              refine zw_l2i zd_NU_findExponent_102 ?_
              refine zw_istore (lv' := [(6, .int (zI (min 1000 (satV 10 (slc t (de + 2) q))))), (5, .int (zI (de + 2))), (4, .int (zI (bget t (de + 1)))), (3, .int (zI (bget t de))), (0, .ref h), (1, .ref ht), (2, .int (zI (q)))]) (Nat.le_of_ble_eq_true rfl) rfl zd_NU_findExponent_103 ?_
              refine zw_aload_n 4 rfl zd_NU_findExponent_105 ?_
              refine zw_iload 2 rfl zd_NU_findExponent_106 ?_
              refine zw_bipush rfl zd_NU_findExponent_108 ?_
              refine zw_icmp_ne 119 (by omega) (by omega) zd_NU_findExponent_110 (by decide) (fun c110 => ?_) (fun c110 => ?_)
              · -- 110 -> 119
                refine zw_iload 0 rfl zd_NU_findExponent_119 ?_
                refine zw_put (L' := [zBRow ht (t) (nt), zObj h 5 [.ref fa, .int (zI (ng)), .int (zI (db)), .int (zI (de)), .int (zI (wd)), .int (zI (min 1000 (satV 10 (slc t (de + 2) q)))), .int (v), .int (zI (ft))]]) zc_NU 1 5 rfl (by decide) zf_NU_87 rfl rfl rfl (Nat.le_of_ble_eq_true rfl) rfl zd_NU_findExponent_121 ?_
                refine zw_iconst zd_NU_findExponent_124 ?_
                refine zw_sub (L' := [zObj h 5 [.ref fa, .int (zI (ng)), .int (zI (db)), .int (zI (de)), .int (zI (wd)), .int (zI (min 1000 (satV 10 (slc t (de + 2) q)))), .int (v), .int (zI (ft))], zBRow ht (t) (nt)]) [1, 0] rfl rfl ?_
                exact zw_zret hR rfl (by rw [show exV t de q = min 1000 (satV 10 (slc t (de + 2) q)) by rw [exV, xf]; split <;> omega]) rfl rfl (by omega) (by omega) zd_NU_findExponent_125
              · -- 110 -> 113
                refine zw_iload 0 rfl zd_NU_findExponent_113 ?_
                refine zw_ineg zd_NU_findExponent_115 ?_
                refine zw_goto 121 zd_NU_findExponent_116 (by decide) ?_
                refine zw_put (L' := [zBRow ht (t) (nt), zObj h 5 [.ref fa, .int (zI (ng)), .int (zI (db)), .int (zI (de)), .int (zI (wd)), .int (zI (-(min 1000 (satV 10 (slc t (de + 2) q))))), .int (v), .int (zI (ft))]]) zc_NU 1 5 rfl (by decide) zf_NU_87 rfl rfl rfl (Nat.le_of_ble_eq_true rfl) rfl zd_NU_findExponent_121 ?_
                refine zw_iconst zd_NU_findExponent_124 ?_
                refine zw_sub (L' := [zObj h 5 [.ref fa, .int (zI (ng)), .int (zI (db)), .int (zI (de)), .int (zI (wd)), .int (zI (-(min 1000 (satV 10 (slc t (de + 2) q))))), .int (v), .int (zI (ft))], zBRow ht (t) (nt)]) [1, 0] rfl rfl ?_
                exact zw_zret hR rfl (by rw [show exV t de q = -(min 1000 (satV 10 (slc t (de + 2) q))) by rw [exV, xf]; split <;> omega]) rfl rfl (by omega) (by omega) zd_NU_findExponent_125
            · -- 82 -> 85
              omega
  · -- 10 -> 13
    exact absurd c10 (by omega)
set_option maxHeartbeats 4000000 in
set_option maxRecDepth 100000 in
theorem c_NU_exp_no (h fa : Nat) (ng db de wd ex : Int) (v : Int32) (ft : Int) (ht : Nat) (t : List Int) (nt : Nat) (q : Int) (hf : 0 ≤ de ∧ de < q ∧ q ≤ t.length) (hend : sDig (bget t q) = false) (hend2 : sSign (bget t q) = false) (hno : ¬ expP t de q) : zCT zy_NU_findExponent zm_NU_findExponent (0) (0) [.ref h, .ref ht, .int (zI q)] [zObj h 5 [.ref fa, .int (zI (ng)), .int (zI (db)), .int (zI (de)), .int (zI (wd)), .int (zI (ex)), .int (v), .int (zI (ft))], zBRow ht (t) (nt)] (some (.int (zI 0))) [zObj h 5 [.ref fa, .int (zI (ng)), .int (zI (db)), .int (zI (de)), .int (zI (wd)), .int (zI (0)), .int (v), .int (zI (ft))], zBRow ht (t) (nt)] := by
  refine zCT.of [(0, .ref h), (1, .ref ht), (2, .int (zI (q)))] rfl (by decide) rfl (fun h => by first | rfl | cases h) (Nat.le_of_ble_eq_true rfl) (fun X hR => ?_)
  refine zw_fact 1 rfl (fun G w h => zBR_fact h) (fun hbr => ?_)
  obtain ⟨⟨ht1, ht2, ht3⟩, hby⟩ := hbr
  refine zw_aload_n 0 rfl zd_NU_findExponent_0 ?_
  refine zw_iconst zd_NU_findExponent_1 ?_
  refine zw_put (L' := [zObj h 5 [.ref fa, .int (zI (ng)), .int (zI (db)), .int (zI (de)), .int (zI (wd)), .int (zI (0)), .int (v), .int (zI (ft))], zBRow ht (t) (nt)]) zc_NU 0 5 rfl (by decide) zf_NU_87 rfl rfl rfl (Nat.le_of_ble_eq_true rfl) rfl zd_NU_findExponent_2 ?_
  refine zw_aload_n 0 rfl zd_NU_findExponent_5 ?_
  refine zw_get zc_NU 0 3 rfl (by decide) zf_NU_43 rfl zd_NU_findExponent_6 ?_
  refine zw_iload_n 2 rfl zd_NU_findExponent_9 ?_
  refine zw_icmp_ne 15 (by omega) (by omega) zd_NU_findExponent_10 (by decide) (fun c10 => ?_) (fun c10 => ?_)
  · -- 10 -> 15
    refine zw_aload_n 1 rfl zd_NU_findExponent_15 ?_
    refine zw_aload_n 0 rfl zd_NU_findExponent_16 ?_
    refine zw_get zc_NU 0 3 rfl (by decide) zf_NU_43 rfl zd_NU_findExponent_17 ?_
    refine zw_callV (As := [.int (zI (de))]) (rest := []) (L2 := [zObj h 5 [.ref fa, .int (zI (ng)), .int (zI (db)), .int (zI (de)), .int (zI (wd)), .int (zI (0)), .int (v), .int (zI (ft))]]) (L' := [zBRow ht (t) (nt), zObj h 5 [.ref fa, .int (zI (ng)), .int (zI (db)), .int (zI (de)), .int (zI (wd)), .int (zI (0)), .int (v), .int (zI (ft))]]) (stk' := [.int (zI (bget t de))]) (c_BR_get ht (t) (nt) (de) (by omega)) [1] [0] rfl rfl rfl zcal_BR_get zl_NU_23 zin_BR_get zse_BR_get 0 rfl zRv_BRow rfl (Nat.le_of_ble_eq_true rfl) (Nat.le_of_ble_eq_true rfl) (by omega) (by omega) rfl (Nat.le_of_ble_eq_true rfl) rfl rfl zd_NU_findExponent_20 ?_
    have rg20 := bget_rg hby (de)
    refine zw_istore_n (lv' := [(3, .int (zI (bget t de))), (0, .ref h), (1, .ref ht), (2, .int (zI (q)))]) (Nat.le_of_ble_eq_true rfl) rfl zd_NU_findExponent_23 ?_
    refine zw_aload_n 2 rfl zd_NU_findExponent_24 ?_
    refine zw_aload_n 1 rfl zd_NU_findExponent_25 ?_
    refine zw_get zc_NU 1 3 rfl (by decide) zf_NU_43 rfl zd_NU_findExponent_26 ?_
    refine zw_iconst zd_NU_findExponent_29 ?_
    refine zw_iadd zd_NU_findExponent_30 ?_
    refine zw_callV (As := [.int (zI (de + 1))]) (rest := []) (L2 := [zObj h 5 [.ref fa, .int (zI (ng)), .int (zI (db)), .int (zI (de)), .int (zI (wd)), .int (zI (0)), .int (v), .int (zI (ft))]]) (L' := [zBRow ht (t) (nt), zObj h 5 [.ref fa, .int (zI (ng)), .int (zI (db)), .int (zI (de)), .int (zI (wd)), .int (zI (0)), .int (v), .int (zI (ft))]]) (stk' := [.int (zI (bget t (de + 1)))]) (c_BR_get ht (t) (nt) (de + 1) (by omega)) [0] [1] rfl rfl rfl zcal_BR_get zl_NU_23 zin_BR_get zse_BR_get 0 rfl zRv_BRow rfl (Nat.le_of_ble_eq_true rfl) (Nat.le_of_ble_eq_true rfl) (by omega) (by omega) rfl (Nat.le_of_ble_eq_true rfl) rfl rfl zd_NU_findExponent_31 ?_
    have rg31 := bget_rg hby (de + 1)
    refine zw_istore (lv' := [(4, .int (zI (bget t (de + 1)))), (3, .int (zI (bget t de))), (0, .ref h), (1, .ref ht), (2, .int (zI (q)))]) (Nat.le_of_ble_eq_true rfl) rfl zd_NU_findExponent_34 ?_
    refine zw_aload_n 2 rfl zd_NU_findExponent_36 ?_
    refine zw_get zc_NU 1 3 rfl (by decide) zf_NU_43 rfl zd_NU_findExponent_37 ?_
    refine zw_iload 0 rfl zd_NU_findExponent_40 ?_
    refine zw_callS (a := 0) (As := [.int (zI (bget t (de + 1)))]) (rest := [.int (zI (de))]) (L2 := [zBRow ht (t) (nt), zObj h 5 [.ref fa, .int (zI (ng)), .int (zI (db)), .int (zI (de)), .int (zI (wd)), .int (zI (0)), .int (v), .int (zI (ft))]]) (L' := [zBRow ht (t) (nt), zObj h 5 [.ref fa, .int (zI (ng)), .int (zI (db)), .int (zI (de)), .int (zI (wd)), .int (zI (0)), .int (v), .int (zI (ft))]]) (stk' := [.int (zI (bI (sSign (bget t (de + 1))))), .int (zI (de))]) (c_NU_isSign (bget t (de + 1)) (by omega)) [] [0, 1] rfl rfl rfl zcal_NU_isSign zl_NU_32 zst_NU_isSign (Nat.le_of_ble_eq_true rfl) (Nat.le_of_ble_eq_true rfl) (by omega) (by omega) rfl (Nat.le_of_ble_eq_true rfl) rfl rfl zd_NU_findExponent_42 ?_
    have rb42 := bI_rg (sSign (bget t (de + 1)))
    refine zw_if_eq 52 (by omega) zd_NU_findExponent_45 (by decide) (fun c45 => ?_) (fun c45 => ?_)
    · -- 45 -> 52
      refine zw_iconst zd_NU_findExponent_52 ?_
      refine zw_iadd zd_NU_findExponent_53 ?_
      refine zw_istore (lv' := [(5, .int (zI (de + 1))), (4, .int (zI (bget t (de + 1)))), (3, .int (zI (bget t de))), (0, .ref h), (1, .ref ht), (2, .int (zI (q)))]) (Nat.le_of_ble_eq_true rfl) rfl zd_NU_findExponent_54 ?_
      have xf : exF t de = de + 1 := by rw [exF, if_neg (by rw [zbI0 (b := sSign (bget t (de + 1))) (by omega)]; decide)]
      have hno2 := hno
      unfold expP at hno2
      rw [xf] at hno2
      refine zw_iload_n 2 rfl zd_NU_findExponent_56 ?_
      refine zw_bipush rfl zd_NU_findExponent_57 ?_
      refine zw_icmp_eq 68 (by omega) (by omega) zd_NU_findExponent_59 (by decide) (fun c59 => ?_) (fun c59 => ?_)
      · -- 59 -> 68
        refine zw_iload 0 rfl zd_NU_findExponent_68 ?_
        refine zw_iload_n 5 rfl zd_NU_findExponent_70 ?_
        refine zw_icmp_ge 85 (by omega) (by omega) zd_NU_findExponent_71 (by decide) (fun c71 => ?_) (fun c71 => ?_)
        · -- 71 -> 85
          refine zw_iconst zd_NU_findExponent_85 ?_
          refine zw_sub (L' := [zObj h 5 [.ref fa, .int (zI (ng)), .int (zI (db)), .int (zI (de)), .int (zI (wd)), .int (zI (0)), .int (v), .int (zI (ft))], zBRow ht (t) (nt)]) [1, 0] rfl rfl ?_
          exact zw_zret hR rfl rfl rfl rfl (by omega) (by omega) zd_NU_findExponent_86
        · -- 71 -> 74
          refine zw_aload_n 4 rfl zd_NU_findExponent_74 ?_
          refine zw_iload 0 rfl zd_NU_findExponent_75 ?_
          refine zw_iload_n 5 rfl zd_NU_findExponent_77 ?_
          refine zw_callS (a := 0) (As := [.ref ht, .int (zI (de + 1)), .int (zI (q))]) (rest := []) (L2 := [zObj h 5 [.ref fa, .int (zI (ng)), .int (zI (db)), .int (zI (de)), .int (zI (wd)), .int (zI (0)), .int (v), .int (zI (ft))]]) (L' := [zBRow ht (t) (nt), zObj h 5 [.ref fa, .int (zI (ng)), .int (zI (db)), .int (zI (de)), .int (zI (wd)), .int (zI (0)), .int (v), .int (zI (ft))]]) (stk' := [.int (zI (scanE sDig t (de + 1)))]) (c_NU_skipDigits ht t nt (de + 1) q (by omega) hend) [0] [1] rfl rfl rfl zcal_NU_skipDigits zl_NU_39 zst_NU_skipDigits (Nat.le_of_ble_eq_true rfl) (Nat.le_of_ble_eq_true rfl) (by omega) (by omega) rfl (Nat.le_of_ble_eq_true rfl) rfl rfl zd_NU_findExponent_78 ?_
          have sk78 := scanD_rg (t := t) (f := de + 1) (e := q) (by omega) hend
          refine zw_iload_n 5 rfl zd_NU_findExponent_81 ?_
          refine zw_icmp_eq 87 (by omega) (by omega) zd_NU_findExponent_82 (by decide) (fun c82 => ?_) (fun c82 => ?_)
          · -- 82 -> 87
            omega
          · -- 82 -> 85
            refine zw_iconst zd_NU_findExponent_85 ?_
            refine zw_sub (L' := [zObj h 5 [.ref fa, .int (zI (ng)), .int (zI (db)), .int (zI (de)), .int (zI (wd)), .int (zI (0)), .int (v), .int (zI (ft))], zBRow ht (t) (nt)]) [1, 0] rfl rfl ?_
            exact zw_zret hR rfl rfl rfl rfl (by omega) (by omega) zd_NU_findExponent_86
      · -- 59 -> 62
        refine zw_iload_n 2 rfl zd_NU_findExponent_62 ?_
        refine zw_bipush rfl zd_NU_findExponent_63 ?_
        refine zw_icmp_ne 85 (by omega) (by omega) zd_NU_findExponent_65 (by decide) (fun c65 => ?_) (fun c65 => ?_)
        · -- 65 -> 85
          refine zw_iconst zd_NU_findExponent_85 ?_
          refine zw_sub (L' := [zObj h 5 [.ref fa, .int (zI (ng)), .int (zI (db)), .int (zI (de)), .int (zI (wd)), .int (zI (0)), .int (v), .int (zI (ft))], zBRow ht (t) (nt)]) [1, 0] rfl rfl ?_
          exact zw_zret hR rfl rfl rfl rfl (by omega) (by omega) zd_NU_findExponent_86
        · -- 65 -> 68
          refine zw_iload 0 rfl zd_NU_findExponent_68 ?_
          refine zw_iload_n 5 rfl zd_NU_findExponent_70 ?_
          refine zw_icmp_ge 85 (by omega) (by omega) zd_NU_findExponent_71 (by decide) (fun c71 => ?_) (fun c71 => ?_)
          · -- 71 -> 85
            refine zw_iconst zd_NU_findExponent_85 ?_
            refine zw_sub (L' := [zObj h 5 [.ref fa, .int (zI (ng)), .int (zI (db)), .int (zI (de)), .int (zI (wd)), .int (zI (0)), .int (v), .int (zI (ft))], zBRow ht (t) (nt)]) [1, 0] rfl rfl ?_
            exact zw_zret hR rfl rfl rfl rfl (by omega) (by omega) zd_NU_findExponent_86
          · -- 71 -> 74
            refine zw_aload_n 4 rfl zd_NU_findExponent_74 ?_
            refine zw_iload 0 rfl zd_NU_findExponent_75 ?_
            refine zw_iload_n 5 rfl zd_NU_findExponent_77 ?_
            refine zw_callS (a := 0) (As := [.ref ht, .int (zI (de + 1)), .int (zI (q))]) (rest := []) (L2 := [zObj h 5 [.ref fa, .int (zI (ng)), .int (zI (db)), .int (zI (de)), .int (zI (wd)), .int (zI (0)), .int (v), .int (zI (ft))]]) (L' := [zBRow ht (t) (nt), zObj h 5 [.ref fa, .int (zI (ng)), .int (zI (db)), .int (zI (de)), .int (zI (wd)), .int (zI (0)), .int (v), .int (zI (ft))]]) (stk' := [.int (zI (scanE sDig t (de + 1)))]) (c_NU_skipDigits ht t nt (de + 1) q (by omega) hend) [0] [1] rfl rfl rfl zcal_NU_skipDigits zl_NU_39 zst_NU_skipDigits (Nat.le_of_ble_eq_true rfl) (Nat.le_of_ble_eq_true rfl) (by omega) (by omega) rfl (Nat.le_of_ble_eq_true rfl) rfl rfl zd_NU_findExponent_78 ?_
            have sk78 := scanD_rg (t := t) (f := de + 1) (e := q) (by omega) hend
            refine zw_iload_n 5 rfl zd_NU_findExponent_81 ?_
            refine zw_icmp_eq 87 (by omega) (by omega) zd_NU_findExponent_82 (by decide) (fun c82 => ?_) (fun c82 => ?_)
            · -- 82 -> 87
              omega
            · -- 82 -> 85
              refine zw_iconst zd_NU_findExponent_85 ?_
              refine zw_sub (L' := [zObj h 5 [.ref fa, .int (zI (ng)), .int (zI (db)), .int (zI (de)), .int (zI (wd)), .int (zI (0)), .int (v), .int (zI (ft))], zBRow ht (t) (nt)]) [1, 0] rfl rfl ?_
              exact zw_zret hR rfl rfl rfl rfl (by omega) (by omega) zd_NU_findExponent_86
    · -- 45 -> 48
      refine zw_iconst zd_NU_findExponent_48 ?_
      refine zw_goto 53 zd_NU_findExponent_49 (by decide) ?_
      refine zw_iadd zd_NU_findExponent_53 ?_
      refine zw_istore (lv' := [(5, .int (zI (de + 2))), (4, .int (zI (bget t (de + 1)))), (3, .int (zI (bget t de))), (0, .ref h), (1, .ref ht), (2, .int (zI (q)))]) (Nat.le_of_ble_eq_true rfl) rfl zd_NU_findExponent_54 ?_
      have xf : exF t de = de + 2 := by rw [exF, if_pos (zbI1 (by omega))]
      have hno2 := hno
      unfold expP at hno2
      rw [xf] at hno2
      refine zw_iload_n 2 rfl zd_NU_findExponent_56 ?_
      refine zw_bipush rfl zd_NU_findExponent_57 ?_
      refine zw_icmp_eq 68 (by omega) (by omega) zd_NU_findExponent_59 (by decide) (fun c59 => ?_) (fun c59 => ?_)
      · -- 59 -> 68
        refine zw_iload 0 rfl zd_NU_findExponent_68 ?_
        refine zw_iload_n 5 rfl zd_NU_findExponent_70 ?_
        refine zw_icmp_ge 85 (by omega) (by omega) zd_NU_findExponent_71 (by decide) (fun c71 => ?_) (fun c71 => ?_)
        · -- 71 -> 85
          refine zw_iconst zd_NU_findExponent_85 ?_
          refine zw_sub (L' := [zObj h 5 [.ref fa, .int (zI (ng)), .int (zI (db)), .int (zI (de)), .int (zI (wd)), .int (zI (0)), .int (v), .int (zI (ft))], zBRow ht (t) (nt)]) [1, 0] rfl rfl ?_
          exact zw_zret hR rfl rfl rfl rfl (by omega) (by omega) zd_NU_findExponent_86
        · -- 71 -> 74
          refine zw_aload_n 4 rfl zd_NU_findExponent_74 ?_
          refine zw_iload 0 rfl zd_NU_findExponent_75 ?_
          refine zw_iload_n 5 rfl zd_NU_findExponent_77 ?_
          refine zw_callS (a := 0) (As := [.ref ht, .int (zI (de + 2)), .int (zI (q))]) (rest := []) (L2 := [zObj h 5 [.ref fa, .int (zI (ng)), .int (zI (db)), .int (zI (de)), .int (zI (wd)), .int (zI (0)), .int (v), .int (zI (ft))]]) (L' := [zBRow ht (t) (nt), zObj h 5 [.ref fa, .int (zI (ng)), .int (zI (db)), .int (zI (de)), .int (zI (wd)), .int (zI (0)), .int (v), .int (zI (ft))]]) (stk' := [.int (zI (scanE sDig t (de + 2)))]) (c_NU_skipDigits ht t nt (de + 2) q (by omega) hend) [0] [1] rfl rfl rfl zcal_NU_skipDigits zl_NU_39 zst_NU_skipDigits (Nat.le_of_ble_eq_true rfl) (Nat.le_of_ble_eq_true rfl) (by omega) (by omega) rfl (Nat.le_of_ble_eq_true rfl) rfl rfl zd_NU_findExponent_78 ?_
          have sk78 := scanD_rg (t := t) (f := de + 2) (e := q) (by omega) hend
          refine zw_iload_n 5 rfl zd_NU_findExponent_81 ?_
          refine zw_icmp_eq 87 (by omega) (by omega) zd_NU_findExponent_82 (by decide) (fun c82 => ?_) (fun c82 => ?_)
          · -- 82 -> 87
            omega
          · -- 82 -> 85
            refine zw_iconst zd_NU_findExponent_85 ?_
            refine zw_sub (L' := [zObj h 5 [.ref fa, .int (zI (ng)), .int (zI (db)), .int (zI (de)), .int (zI (wd)), .int (zI (0)), .int (v), .int (zI (ft))], zBRow ht (t) (nt)]) [1, 0] rfl rfl ?_
            exact zw_zret hR rfl rfl rfl rfl (by omega) (by omega) zd_NU_findExponent_86
      · -- 59 -> 62
        refine zw_iload_n 2 rfl zd_NU_findExponent_62 ?_
        refine zw_bipush rfl zd_NU_findExponent_63 ?_
        refine zw_icmp_ne 85 (by omega) (by omega) zd_NU_findExponent_65 (by decide) (fun c65 => ?_) (fun c65 => ?_)
        · -- 65 -> 85
          refine zw_iconst zd_NU_findExponent_85 ?_
          refine zw_sub (L' := [zObj h 5 [.ref fa, .int (zI (ng)), .int (zI (db)), .int (zI (de)), .int (zI (wd)), .int (zI (0)), .int (v), .int (zI (ft))], zBRow ht (t) (nt)]) [1, 0] rfl rfl ?_
          exact zw_zret hR rfl rfl rfl rfl (by omega) (by omega) zd_NU_findExponent_86
        · -- 65 -> 68
          refine zw_iload 0 rfl zd_NU_findExponent_68 ?_
          refine zw_iload_n 5 rfl zd_NU_findExponent_70 ?_
          refine zw_icmp_ge 85 (by omega) (by omega) zd_NU_findExponent_71 (by decide) (fun c71 => ?_) (fun c71 => ?_)
          · -- 71 -> 85
            refine zw_iconst zd_NU_findExponent_85 ?_
            refine zw_sub (L' := [zObj h 5 [.ref fa, .int (zI (ng)), .int (zI (db)), .int (zI (de)), .int (zI (wd)), .int (zI (0)), .int (v), .int (zI (ft))], zBRow ht (t) (nt)]) [1, 0] rfl rfl ?_
            exact zw_zret hR rfl rfl rfl rfl (by omega) (by omega) zd_NU_findExponent_86
          · -- 71 -> 74
            refine zw_aload_n 4 rfl zd_NU_findExponent_74 ?_
            refine zw_iload 0 rfl zd_NU_findExponent_75 ?_
            refine zw_iload_n 5 rfl zd_NU_findExponent_77 ?_
            refine zw_callS (a := 0) (As := [.ref ht, .int (zI (de + 2)), .int (zI (q))]) (rest := []) (L2 := [zObj h 5 [.ref fa, .int (zI (ng)), .int (zI (db)), .int (zI (de)), .int (zI (wd)), .int (zI (0)), .int (v), .int (zI (ft))]]) (L' := [zBRow ht (t) (nt), zObj h 5 [.ref fa, .int (zI (ng)), .int (zI (db)), .int (zI (de)), .int (zI (wd)), .int (zI (0)), .int (v), .int (zI (ft))]]) (stk' := [.int (zI (scanE sDig t (de + 2)))]) (c_NU_skipDigits ht t nt (de + 2) q (by omega) hend) [0] [1] rfl rfl rfl zcal_NU_skipDigits zl_NU_39 zst_NU_skipDigits (Nat.le_of_ble_eq_true rfl) (Nat.le_of_ble_eq_true rfl) (by omega) (by omega) rfl (Nat.le_of_ble_eq_true rfl) rfl rfl zd_NU_findExponent_78 ?_
            have sk78 := scanD_rg (t := t) (f := de + 2) (e := q) (by omega) hend
            refine zw_iload_n 5 rfl zd_NU_findExponent_81 ?_
            refine zw_icmp_eq 87 (by omega) (by omega) zd_NU_findExponent_82 (by decide) (fun c82 => ?_) (fun c82 => ?_)
            · -- 82 -> 87
              omega
            · -- 82 -> 85
              refine zw_iconst zd_NU_findExponent_85 ?_
              refine zw_sub (L' := [zObj h 5 [.ref fa, .int (zI (ng)), .int (zI (db)), .int (zI (de)), .int (zI (wd)), .int (zI (0)), .int (v), .int (zI (ft))], zBRow ht (t) (nt)]) [1, 0] rfl rfl ?_
              exact zw_zret hR rfl rfl rfl rfl (by omega) (by omega) zd_NU_findExponent_86
  · -- 10 -> 13
    exact absurd c10 (by omega)
