set_option maxHeartbeats 4000000 in
set_option maxRecDepth 100000 in
theorem c_AR_copyOfB (a n : Nat) (f : Nat → Int32) (m : Nat) (z : Int) (hf : ∀ j, fits .byte (.int (f j)) = true) (hz : z = (m : Int)) (hm : m ≤ 1000000 ∧ n ≤ 1000000) (hne : m ≠ n) : zCTr zy_AR_copyOfB zm_AR_copyOfB 1 m [.ref a, .int (zI z)] [zArB a n f] (fun q => [zArB a n f, zArB q m (va_cpy f (fun _ => 0) 0 0 (min n m))]) := by
  refine zCTr.of [(0, .ref a), (1, .int (zI z))] rfl (by decide) rfl (fun h => by first | rfl | cases h) (Nat.le_of_ble_eq_true rfl) (fun X hR => ?_)
  refine zw_iload_n 1 rfl zd_AR_copyOfB_0 ?_
  refine zw_aload_n 0 rfl zd_AR_copyOfB_1 ?_
  refine zw_alenB 0 rfl zd_AR_copyOfB_2 ?_
  refine zw_icmp_ne 14 (by omega) (by omega) zd_AR_copyOfB_3 (by decide) (fun c3 => ?_) (fun c3 => ?_)
  · -- 3 -> 14
    refine zw_iload_n 1 rfl zd_AR_copyOfB_14 ?_
    refine zw_newaB (N := m) (by first | rfl | omega) (by omega) zac_B (by omega) (by omega) zd_AR_copyOfB_15 (fun q15 => ?_)
    simp only [List.cons_append, List.nil_append]
    refine zw_astore_n (lv' := [(2, .ref q15), (0, .ref a), (1, .int (zI (z)))]) (Nat.le_of_ble_eq_true rfl) rfl zd_AR_copyOfB_17 ?_
    refine zw_aload_n 1 rfl zd_AR_copyOfB_18 ?_
    refine zw_iconst zd_AR_copyOfB_19 ?_
    refine zw_aload_n 0 rfl zd_AR_copyOfB_20 ?_
    refine zw_iconst zd_AR_copyOfB_21 ?_
    refine zw_aload_n 1 rfl zd_AR_copyOfB_22 ?_
    refine zw_alenB 0 rfl zd_AR_copyOfB_23 ?_
    refine zw_iload_n 2 rfl zd_AR_copyOfB_24 ?_
    refine zw_minI (by omega) (by omega) zl_AR_304 zst_MA_minI zini_MA zco_MA_minI (Nat.le_of_ble_eq_true rfl) (Nat.le_of_ble_eq_true rfl) (by omega) (by omega) zd_AR_copyOfB_25 ?_
    refine zw_copyB (L' := [zArB a (n) (f), zArB q15 (m) (va_cpy f (fun _ => 0) 0 0 (min (((n : Nat) : Int)) z).toNat)]) 0 1 rfl rfl (by omega) (fun i _ => hf i) zl_AR_150 zna_SY_arraycopy zst_SY_arraycopy zini_SY (Nat.le_of_ble_eq_true rfl) (Nat.le_of_ble_eq_true rfl) rfl zd_AR_copyOfB_28 ?_
    have e1 : (min ((n : Nat) : Int) z).toNat = min n m := by omega
    refine zw_aload_n 0 rfl zd_AR_copyOfB_31 ?_
    exact zw_aret hR (by rw [e1]) rfl (by omega) (by omega) (Or.inr ⟨_, rfl⟩) zd_AR_copyOfB_32
  · -- 3 -> 6
    exact absurd c3 (by omega)
set_option maxHeartbeats 4000000 in
set_option maxRecDepth 100000 in
theorem c_AR_copyOfI (a n : Nat) (f : Nat → Int32) (m : Nat) (z : Int) (hz : z = (m : Int)) (hm : m ≤ 1000000 ∧ n ≤ 1000000) (hne : m ≠ n) : zCTr zy_AR_copyOfI zm_AR_copyOfI 1 m [.ref a, .int (zI z)] [zArI a n f] (fun q => [zArI a n f, zArI q m (va_cpy f (fun _ => 0) 0 0 (min n m))]) := by
  refine zCTr.of [(0, .ref a), (1, .int (zI z))] rfl (by decide) rfl (fun h => by first | rfl | cases h) (Nat.le_of_ble_eq_true rfl) (fun X hR => ?_)
  refine zw_iload_n 1 rfl zd_AR_copyOfI_0 ?_
  refine zw_aload_n 0 rfl zd_AR_copyOfI_1 ?_
  refine zw_alenI 0 rfl zd_AR_copyOfI_2 ?_
  refine zw_icmp_ne 14 (by omega) (by omega) zd_AR_copyOfI_3 (by decide) (fun c3 => ?_) (fun c3 => ?_)
  · -- 3 -> 14
    refine zw_iload_n 1 rfl zd_AR_copyOfI_14 ?_
    refine zw_newaI (N := m) (by first | rfl | omega) (by omega) zac_I (by omega) (by omega) zd_AR_copyOfI_15 (fun q15 => ?_)
    simp only [List.cons_append, List.nil_append]
    refine zw_astore_n (lv' := [(2, .ref q15), (0, .ref a), (1, .int (zI (z)))]) (Nat.le_of_ble_eq_true rfl) rfl zd_AR_copyOfI_17 ?_
    refine zw_aload_n 1 rfl zd_AR_copyOfI_18 ?_
    refine zw_iconst zd_AR_copyOfI_19 ?_
    refine zw_aload_n 0 rfl zd_AR_copyOfI_20 ?_
    refine zw_iconst zd_AR_copyOfI_21 ?_
    refine zw_aload_n 1 rfl zd_AR_copyOfI_22 ?_
    refine zw_alenI 0 rfl zd_AR_copyOfI_23 ?_
    refine zw_iload_n 2 rfl zd_AR_copyOfI_24 ?_
    refine zw_minI (by omega) (by omega) zl_AR_304 zst_MA_minI zini_MA zco_MA_minI (Nat.le_of_ble_eq_true rfl) (Nat.le_of_ble_eq_true rfl) (by omega) (by omega) zd_AR_copyOfI_25 ?_
    refine zw_copyI (L' := [zArI a (n) (f), zArI q15 (m) (va_cpy f (fun _ => 0) 0 0 (min (((n : Nat) : Int)) z).toNat)]) 0 1 rfl rfl (by omega) zl_AR_150 zna_SY_arraycopy zst_SY_arraycopy zini_SY (Nat.le_of_ble_eq_true rfl) (Nat.le_of_ble_eq_true rfl) rfl zd_AR_copyOfI_28 ?_
    have e1 : (min ((n : Nat) : Int) z).toNat = min n m := by omega
    refine zw_aload_n 0 rfl zd_AR_copyOfI_31 ?_
    exact zw_aret hR (by rw [e1]) rfl (by omega) (by omega) (Or.inr ⟨_, rfl⟩) zd_AR_copyOfI_32
  · -- 3 -> 6
    exact absurd c3 (by omega)
set_option maxHeartbeats 4000000 in
set_option maxRecDepth 100000 in
theorem c_AR_fill (a n : Nat) (f : Nat → Int32) (x : Int32) (hm : n ≤ 1000000) : zCT zy_AR_fill zm_AR_fill 0 0 [.ref a, .int x] [zArI a n f] none [zArI a n (fun j => if j < n then x else f j)] := by
  refine zCT.of [(0, .ref a), (1, .int x)] rfl (by decide) rfl (fun h => by first | rfl | cases h) (Nat.le_of_ble_eq_true rfl) (fun X hR => ?_)
  have lp : ∀ (fuel : Nat) (i : Int), (0 ≤ i ∧ i ≤ ((n : Nat) : Int)) → (((n : Nat) : Int) - i).toNat < fuel → zZ X zm_AR_fill (0) (0) (0) (0) [zArI a (n) (fun j => if j < i.toNat then x else f j)] 5 [(0, .ref a), (1, .int (x)), (2, .int (zI (i))), (3, .int (zI (((n : Nat) : Int))))] [] := by
    intro fuel
    induction fuel with
    | zero => intro i g0 hm; exact absurd hm (Nat.not_lt_zero _)
    | succ fuel ih =>
      intro i g0 hm
      refine zw_iload_n 2 rfl zd_AR_fill_5 ?_
      refine zw_iload_n 3 rfl zd_AR_fill_6 ?_
      refine zw_icmp_ge 20 (by omega) (by omega) zd_AR_fill_7 (by decide) (fun c7 => ?_) (fun c7 => ?_)
      · -- 7 -> 20
        have e1 : i.toNat = n := by omega
        exact zw_vret hR rfl (by rw [e1]) rfl (by omega) (by omega) zd_AR_fill_20
      · -- 7 -> 10
        refine zw_aload_n 0 rfl zd_AR_fill_10 ?_
        refine zw_iload_n 2 rfl zd_AR_fill_11 ?_
        refine zw_iload_n 1 rfl zd_AR_fill_12 ?_
        refine zw_astI (L' := [zArI a (n) (upd (fun j => if j < i.toNat then x else f j) (i).toNat x)]) 0 rfl (by omega) (by omega) rfl zd_AR_fill_13 ?_
        refine zw_iinc (lv' := [(2, .int (zI (i + 1))), (0, .ref a), (1, .int (x)), (3, .int (zI (((n : Nat) : Int))))]) 2 rfl (Nat.le_of_ble_eq_true rfl) rfl zd_AR_fill_14 ?_
        refine zw_goto 5 zd_AR_fill_17 (by decide) ?_
        refine zw_lpick (lv' := [(0, .ref a), (1, .int (x)), (2, .int (zI (i + 1))), (3, .int (zI (((n : Nat) : Int))))]) [1, 2, 0, 3] rfl ?_
        refine zw_widen (k' := 0) (n' := 0) (by omega) (by omega) ?_
        refine zw_eqL (L' := [zArI a (n) (fun j => if j < (i + 1).toNat then x else f j)]) (by rw [zfill_step g0.1]) ?_
        exact ih (i + 1) (by omega) (by omega)
  refine zw_iconst zd_AR_fill_0 ?_
  refine zw_istore_n (lv' := [(2, .int (zI (0))), (0, .ref a), (1, .int (x))]) (Nat.le_of_ble_eq_true rfl) rfl zd_AR_fill_1 ?_
  refine zw_aload_n 1 rfl zd_AR_fill_2 ?_
  refine zw_alenI 0 rfl zd_AR_fill_3 ?_
  refine zw_istore_n (lv' := [(3, .int (zI (((n : Nat) : Int)))), (2, .int (zI (0))), (0, .ref a), (1, .int (x))]) (Nat.le_of_ble_eq_true rfl) rfl zd_AR_fill_4 ?_
  refine zw_lpick (lv' := [(0, .ref a), (1, .int (x)), (2, .int (zI (0))), (3, .int (zI (((n : Nat) : Int))))]) [2, 3, 1, 0] rfl ?_
  refine zw_widen (k' := 0) (n' := 0) (by omega) (by omega) ?_
  have e0 : f = (fun j => if j < (0 : Int).toNat then x else f j) := rfl
  exact lp _ 0 (by omega) (Nat.lt_succ_self _)
set_option maxHeartbeats 4000000 in
set_option maxRecDepth 100000 in
theorem c_IG_compare (x y : Int) (hx : -2147483648 ≤ x ∧ x ≤ 2147483647) (hy : -2147483648 ≤ y ∧ y ≤ 2147483647) : zCT zy_IG_compare zm_IG_compare 0 0 [.int (zI x), .int (zI y)] [] (some (.int (zI (if x < y then -1 else if x = y then 0 else 1)))) [] := by
  refine zCT.of [(0, .int (zI x)), (1, .int (zI y))] rfl (by decide) rfl (fun h => by first | rfl | cases h) (Nat.le_of_ble_eq_true rfl) (fun X hR => ?_)
  refine zw_iload_n 0 rfl zd_IG_compare_0 ?_
  refine zw_iload_n 1 rfl zd_IG_compare_1 ?_
  refine zw_icmp_ge 9 (by omega) (by omega) zd_IG_compare_2 (by decide) (fun c2 => ?_) (fun c2 => ?_)
  · -- 2 -> 9
    refine zw_iload_n 0 rfl zd_IG_compare_9 ?_
    refine zw_iload_n 1 rfl zd_IG_compare_10 ?_
    refine zw_icmp_ne 18 (by omega) (by omega) zd_IG_compare_11 (by decide) (fun c11 => ?_) (fun c11 => ?_)
    · -- 11 -> 18
      refine zw_iconst zd_IG_compare_18 ?_
      exact zw_iret hR (by rw [show (if x < y then -1 else if x = y then 0 else 1 : Int) = 1 by repeat' (first | omega | split)]) rfl rfl (by omega) (by omega) zd_IG_compare_19
    · -- 11 -> 14
      refine zw_iconst zd_IG_compare_14 ?_
      refine zw_goto 19 zd_IG_compare_15 (by decide) ?_
      exact zw_iret hR (by rw [show (if x < y then -1 else if x = y then 0 else 1 : Int) = 0 by repeat' (first | omega | split)]) rfl rfl (by omega) (by omega) zd_IG_compare_19
  · -- 2 -> 5
    refine zw_iconst zd_IG_compare_5 ?_
    refine zw_goto 19 zd_IG_compare_6 (by decide) ?_
    exact zw_iret hR (by rw [show (if x < y then -1 else if x = y then 0 else 1 : Int) = -1 by repeat' (first | omega | split)]) rfl rfl (by omega) (by omega) zd_IG_compare_19
