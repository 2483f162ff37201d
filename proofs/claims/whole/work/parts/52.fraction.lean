/-- the digits of a fraction -/
def zFr (fa : Nat) (d : Nat → Int) : zAt := fun G w => ∃ g : Nat → Int32, ((∀ j, j < 160 → g j = zI (d j)) ∧ ∀ j, j < 160 → 0 ≤ d j ∧ d j ≤ 9) ∧ zSt [zArI fa 160 g] G w
/-- the fraction times 65536, from its last i digits on: what is carried, the digits -/
def mulS (d : Nat → Int) : Nat → Int × (Nat → Int)
  | 0 => (0, d)
  | i + 1 => (((mulS d i).2 (159 - i) * 65536 + (mulS d i).1) / 10, fun j => if j = 159 - i then ((mulS d i).2 (159 - i) * 65536 + (mulS d i).1) % 10 else (mulS d i).2 j)
theorem mulS_rg {d : Nat → Int} (hd : ∀ j, j < 160 → 0 ≤ d j ∧ d j ≤ 9) : ∀ i, i ≤ 160 → (0 ≤ (mulS d i).1 ∧ (mulS d i).1 ≤ 65536) ∧ ∀ j, j < 160 → 0 ≤ (mulS d i).2 j ∧ (mulS d i).2 j ≤ 9
  | 0, _ => ⟨by simp [mulS], hd⟩
  | i + 1, h => by
    obtain ⟨h1, h2⟩ := mulS_rg hd i (by omega)
    have h3 := h2 (159 - i) (by omega)
    refine ⟨?_, fun j hj => ?_⟩
    · show 0 ≤ ((mulS d i).2 (159 - i) * 65536 + (mulS d i).1) / 10 ∧ ((mulS d i).2 (159 - i) * 65536 + (mulS d i).1) / 10 ≤ 65536
      omega
    · show 0 ≤ (if j = 159 - i then ((mulS d i).2 (159 - i) * 65536 + (mulS d i).1) % 10 else (mulS d i).2 j) ∧ (if j = 159 - i then ((mulS d i).2 (159 - i) * 65536 + (mulS d i).1) % 10 else (mulS d i).2 j) ≤ 9
      split
      · omega
      · exact h2 j hj
theorem mulS_arr {d : Nat → Int} {g : Nat → Int32} {i : Nat} {x : Int} (hg : ∀ j, j < 160 → g j = zI ((mulS d i).2 j)) (hr : ∀ j, j < 160 → 0 ≤ (mulS d (i + 1)).2 j ∧ (mulS d (i + 1)).2 j ≤ 9) (hi : i < 160) (ex : x.toNat = 159 - i) :
    (∀ j, j < 160 → upd g x.toNat (zI (((mulS d i).2 (159 - i) * 65536 + (mulS d i).1) % 10)) j = zI ((mulS d (i + 1)).2 j)) ∧ ∀ j, j < 160 → 0 ≤ (mulS d (i + 1)).2 j ∧ (mulS d (i + 1)).2 j ≤ 9 := by
  refine ⟨fun j hj => ?_, hr⟩
  show _ = zI (if j = 159 - i then _ else _)
  rw [ex]
  by_cases e : j = 159 - i
  · subst e
    rw [pk_us, if_pos rfl]
  · rw [pk_un e, if_neg e]
    exact hg j hj
noncomputable def cmpH (d : Nat → Int) : Int := if d 0 ≠ 5 then (if d 0 < 5 then -1 else if d 0 = 5 then 0 else 1) else @ite Int (∃ j : Nat, 1 ≤ j ∧ j < 160 ∧ d j ≠ 0) (Classical.propDecidable _) 1 0
set_option maxHeartbeats 4000000 in
set_option maxRecDepth 100000 in
theorem c_NU_mul (h fa : Nat) (ng db de wd ex : Int) (v : Int32) (ft : Int) (d : Nat → Int) : zCT zy_NU_multiplyFraction zm_NU_multiplyFraction (0) (0) [.ref h] [zObj h 5 [.ref fa, .int (zI (ng)), .int (zI (db)), .int (zI (de)), .int (zI (wd)), .int (zI (ex)), .int (v), .int (zI (ft))], zFr fa (d)] (some (.int (zI (mulS d 160).1))) [zObj h 5 [.ref fa, .int (zI (ng)), .int (zI (db)), .int (zI (de)), .int (zI (wd)), .int (zI (ex)), .int (v), .int (zI (ft))], zFr fa ((mulS d 160).2)] := by
  refine zCT.of [(0, .ref h)] rfl (by decide) rfl (fun h => by first | rfl | cases h) (Nat.le_of_ble_eq_true rfl) (fun X hR => ?_)
  refine zw_fact 1 rfl (fun G w h => (h.choose_spec.1.2 : ∀ j, j < 160 → 0 ≤ d j ∧ d j ≤ 9)) (fun hd9 => ?_)
  have lp : ∀ (fuel : Nat) (i : Nat) (x : Int), (i ≤ 160 ∧ x = 159 - (i : Int)) → 160 - i < fuel → zZ X zm_NU_multiplyFraction (0) (0) (0) (0) [zFr fa ((mulS d i).2), zObj h 5 [.ref fa, .int (zI (ng)), .int (zI (db)), .int (zI (de)), .int (zI (wd)), .int (zI (ex)), .int (v), .int (zI (ft))]] 10 [(0, .ref h), (1, .int (zI ((mulS d i).1))), (2, .int (zI (x)))] [] := by
    intro fuel
    induction fuel with
    | zero => intro i x g0 hm; exact absurd hm (Nat.not_lt_zero _)
    | succ fuel ih =>
      intro i x g0 hm
      have mr := mulS_rg hd9 i (by omega)
      refine zw_iload_n 2 rfl zd_NU_multiplyFraction_10 ?_
      refine zw_if_lt 47 (by omega) zd_NU_multiplyFraction_11 (by decide) (fun c11 => ?_) (fun c11 => ?_)
      · -- 11 -> 47
        refine zw_iload_n 1 rfl zd_NU_multiplyFraction_47 ?_
        have ei : i = 160 := by omega
        refine zw_sub (L' := [zObj h 5 [.ref fa, .int (zI (ng)), .int (zI (db)), .int (zI (de)), .int (zI (wd)), .int (zI (ex)), .int (v), .int (zI (ft))], zFr fa ((mulS d i).2)]) [1, 0] rfl rfl ?_
        exact zw_iret hR (by rw [ei]) (by rw [ei]) rfl (by omega) (by omega) zd_NU_multiplyFraction_48
      · -- 11 -> 14
        refine zw_unp (fun G ws h => h) (fun g hg => ?_)
        obtain ⟨hg1, hg2⟩ := hg
        simp only [List.cons_append, List.nil_append]
        have md := mr.2 (159 - i) (by omega)
        have exx : x.toNat = 159 - i := by omega
        refine zw_aload_n 0 rfl zd_NU_multiplyFraction_14 ?_
        refine zw_get zc_NU 1 0 rfl (by decide) zf_NU_11 rfl zd_NU_multiplyFraction_15 ?_
        refine zw_iload_n 2 rfl zd_NU_multiplyFraction_18 ?_
        refine zw_aldI 0 rfl (by omega) (by omega) zd_NU_multiplyFraction_19 ?_
        refine zw_topE (show g x.toNat = zI ((mulS d i).2 (159 - i)) by rw [exx]; exact hg1 _ (by omega)) ?_
        refine zw_ldc zk_NU_114 65536 rfl zd_NU_multiplyFraction_20 ?_
        refine zw_imul zd_NU_multiplyFraction_22 ?_
        refine zw_iload_n 1 rfl zd_NU_multiplyFraction_23 ?_
        refine zw_iadd zd_NU_multiplyFraction_24 ?_
        refine zw_istore_n (lv' := [(3, .int (zI ((((mulS d i).2 (159 - i)) * 65536) + ((mulS d i).1)))), (0, .ref h), (1, .int (zI ((mulS d i).1))), (2, .int (zI (x)))]) (Nat.le_of_ble_eq_true rfl) rfl zd_NU_multiplyFraction_25 ?_
        refine zw_aload_n 1 rfl zd_NU_multiplyFraction_26 ?_
        refine zw_get zc_NU 1 0 rfl (by decide) zf_NU_11 rfl zd_NU_multiplyFraction_27 ?_
        refine zw_iload_n 3 rfl zd_NU_multiplyFraction_30 ?_
        refine zw_iload_n 0 rfl zd_NU_multiplyFraction_31 ?_
        refine zw_bipush rfl zd_NU_multiplyFraction_32 ?_
        refine zw_irem (by omega) (by omega) zd_NU_multiplyFraction_34 ?_
        refine zw_astI (L' := [zArI fa (160) (upd g (x).toNat (zI (((((mulS d i).2 (159 - i)) * 65536) + ((mulS d i).1)) % 10))), zObj h 5 [.ref fa, .int (zI (ng)), .int (zI (db)), .int (zI (de)), .int (zI (wd)), .int (zI (ex)), .int (v), .int (zI (ft))]]) 0 rfl (by omega) (by omega) rfl zd_NU_multiplyFraction_35 ?_
        refine zw_iload_n 0 rfl zd_NU_multiplyFraction_36 ?_
        refine zw_bipush rfl zd_NU_multiplyFraction_37 ?_
        refine zw_idiv (by omega) (by omega) zd_NU_multiplyFraction_39 ?_
        refine zw_istore_n (lv' := [(1, .int (zI (((((mulS d i).2 (159 - i)) * 65536) + ((mulS d i).1)) / 10))), (3, .int (zI ((((mulS d i).2 (159 - i)) * 65536) + ((mulS d i).1)))), (0, .ref h), (2, .int (zI (x)))]) (Nat.le_of_ble_eq_true rfl) rfl zd_NU_multiplyFraction_40 ?_
        refine zw_iinc (lv' := [(2, .int (zI (x + (-1)))), (1, .int (zI (((((mulS d i).2 (159 - i)) * 65536) + ((mulS d i).1)) / 10))), (3, .int (zI ((((mulS d i).2 (159 - i)) * 65536) + ((mulS d i).1)))), (0, .ref h)]) 3 rfl (Nat.le_of_ble_eq_true rfl) rfl zd_NU_multiplyFraction_41 ?_
        refine zw_goto 10 zd_NU_multiplyFraction_44 (by decide) ?_
        refine zw_pack (at0 := zFr fa ((mulS d (i + 1)).2)) (Ls := [zArI fa (160) (upd g (x).toNat (zI (((((mulS d i).2 (159 - i)) * 65536) + ((mulS d i).1)) % 10)))]) (L2 := [zObj h 5 [.ref fa, .int (zI (ng)), .int (zI (db)), .int (zI (de)), .int (zI (wd)), .int (zI (ex)), .int (v), .int (zI (ft))]]) rfl (fun G w h => ⟨upd g (x).toNat (zI (((((mulS d i).2 (159 - i)) * 65536) + ((mulS d i).1)) % 10)), mulS_arr hg1 (mulS_rg hd9 (i + 1) (by omega)).2 (by omega) exx, h⟩) ?_
        refine zw_lpick (lv' := [(0, .ref h), (1, .int (zI (((((mulS d i).2 (159 - i)) * 65536) + ((mulS d i).1)) / 10))), (2, .int (zI (x + (-1))))]) [3, 1, 0] rfl ?_
        refine zw_widen (k' := 0) (n' := 0) (by omega) (by omega) ?_
        refine zw_eqv (lv' := [(0, .ref h), (1, .int (zI ((mulS d (i + 1)).1))), (2, .int (zI (x + -1)))]) rfl ?_
        exact ih (i + 1) _ (by omega) (by omega)
  refine zw_iconst zd_NU_multiplyFraction_0 ?_
  refine zw_istore_n (lv' := [(1, .int (zI (0))), (0, .ref h)]) (Nat.le_of_ble_eq_true rfl) rfl zd_NU_multiplyFraction_1 ?_
  refine zw_sub (L' := [zFr fa (d), zObj h 5 [.ref fa, .int (zI (ng)), .int (zI (db)), .int (zI (de)), .int (zI (wd)), .int (zI (ex)), .int (v), .int (zI (ft))]]) [1, 0] rfl rfl ?_
  refine zw_unp (fun G ws h => h) (fun g hg => ?_)
  obtain ⟨hg1, hg2⟩ := hg
  simp only [List.cons_append, List.nil_append]
  refine zw_aload_n 1 rfl zd_NU_multiplyFraction_2 ?_
  refine zw_get zc_NU 1 0 rfl (by decide) zf_NU_11 rfl zd_NU_multiplyFraction_3 ?_
  refine zw_alenI 0 rfl zd_NU_multiplyFraction_6 ?_
  refine zw_iconst zd_NU_multiplyFraction_7 ?_
  refine zw_isub zd_NU_multiplyFraction_8 ?_
  refine zw_istore_n (lv' := [(2, .int (zI (160 - 1))), (1, .int (zI (0))), (0, .ref h)]) (Nat.le_of_ble_eq_true rfl) rfl zd_NU_multiplyFraction_9 ?_
  refine zw_pack (at0 := zFr fa ((mulS d 0).2)) (Ls := [zArI fa (160) (g)]) (L2 := [zObj h 5 [.ref fa, .int (zI (ng)), .int (zI (db)), .int (zI (de)), .int (zI (wd)), .int (zI (ex)), .int (v), .int (zI (ft))]]) rfl (fun G w h => ⟨g, ⟨hg1, hg2⟩, h⟩) ?_
  refine zw_lpick (lv' := [(0, .ref h), (1, .int (zI (0))), (2, .int (zI (160 - 1)))]) [2, 1, 0] rfl ?_
  refine zw_widen (k' := 0) (n' := 0) (by omega) (by omega) ?_
  refine zw_eqv (lv' := [(0, .ref h), (1, .int (zI ((mulS d 0).1))), (2, .int (zI (160 - 1)))]) rfl ?_
  exact lp _ 0 _ ⟨by omega, by omega⟩ (Nat.lt_succ_self _)
set_option maxHeartbeats 4000000 in
set_option maxRecDepth 100000 in
theorem c_NU_cmp (h fa : Nat) (ng db de wd ex : Int) (v : Int32) (ft : Int) (d : Nat → Int) : zCT zy_NU_compareFractionToHalf zm_NU_compareFractionToHalf (0) (0) [.ref h] [zObj h 5 [.ref fa, .int (zI (ng)), .int (zI (db)), .int (zI (de)), .int (zI (wd)), .int (zI (ex)), .int (v), .int (zI (ft))], zFr fa (d)] (some (.int (zI (cmpH d)))) [zObj h 5 [.ref fa, .int (zI (ng)), .int (zI (db)), .int (zI (de)), .int (zI (wd)), .int (zI (ex)), .int (v), .int (zI (ft))], zFr fa (d)] := by
  refine zCT.of [(0, .ref h)] rfl (by decide) rfl (fun h => by first | rfl | cases h) (Nat.le_of_ble_eq_true rfl) (fun X hR => ?_)
  refine zw_sub (L' := [zFr fa (d), zObj h 5 [.ref fa, .int (zI (ng)), .int (zI (db)), .int (zI (de)), .int (zI (wd)), .int (zI (ex)), .int (v), .int (zI (ft))]]) [1, 0] rfl rfl ?_
  refine zw_unp (fun G ws h => h) (fun g hg => ?_)
  obtain ⟨hg1, hg2⟩ := hg
  simp only [List.cons_append, List.nil_append]
  have h00 := hg2 0 (by omega)
  refine zw_aload_n 0 rfl zd_NU_compareFractionToHalf_0 ?_
  refine zw_get zc_NU 1 0 rfl (by decide) zf_NU_11 rfl zd_NU_compareFractionToHalf_1 ?_
  refine zw_iconst zd_NU_compareFractionToHalf_4 ?_
  refine zw_aldI 0 rfl (by omega) (by omega) zd_NU_compareFractionToHalf_5 ?_
  refine zw_topE (show g (0 : Int).toNat = zI (d 0) from hg1 0 (by omega)) ?_
  refine zw_iconst zd_NU_compareFractionToHalf_6 ?_
  refine zw_icmp_eq 21 (by omega) (by omega) zd_NU_compareFractionToHalf_7 (by decide) (fun c7 => ?_) (fun c7 => ?_)
  · -- 7 -> 21
    have lp : ∀ (fuel : Nat) (x : Int), ((1 ≤ x ∧ x ≤ 160) ∧ ∀ j : Nat, 1 ≤ j → j < x.toNat → d j = 0) → (160 - x).toNat < fuel → zZ X zm_NU_compareFractionToHalf (0) (0) (0) (0) [zArI fa (160) (g), zObj h 5 [.ref fa, .int (zI (ng)), .int (zI (db)), .int (zI (de)), .int (zI (wd)), .int (zI (ex)), .int (v), .int (zI (ft))]] 23 [(0, .ref h), (1, .int (zI (x)))] [] := by
      intro fuel
      induction fuel with
      | zero => intro x g0 hm; exact absurd hm (Nat.not_lt_zero _)
      | succ fuel ih =>
        intro x g0 hm
        refine zw_iload_n 1 rfl zd_NU_compareFractionToHalf_23 ?_
        refine zw_aload_n 0 rfl zd_NU_compareFractionToHalf_24 ?_
        refine zw_get zc_NU 1 0 rfl (by decide) zf_NU_11 rfl zd_NU_compareFractionToHalf_25 ?_
        refine zw_alenI 0 rfl zd_NU_compareFractionToHalf_28 ?_
        refine zw_icmp_ge 49 (by omega) (by omega) zd_NU_compareFractionToHalf_29 (by decide) (fun c29 => ?_) (fun c29 => ?_)
        · -- 29 -> 49
          refine zw_iconst zd_NU_compareFractionToHalf_49 ?_
          refine zw_pack (at0 := zFr fa (d)) (Ls := [zArI fa (160) (g)]) (L2 := [zObj h 5 [.ref fa, .int (zI (ng)), .int (zI (db)), .int (zI (de)), .int (zI (wd)), .int (zI (ex)), .int (v), .int (zI (ft))]]) rfl (fun G w h => ⟨g, ⟨hg1, hg2⟩, h⟩) ?_
          refine zw_sub (L' := [zObj h 5 [.ref fa, .int (zI (ng)), .int (zI (db)), .int (zI (de)), .int (zI (wd)), .int (zI (ex)), .int (v), .int (zI (ft))], zFr fa (d)]) [1, 0] rfl rfl ?_
          exact zw_iret hR (by rw [cmpH, if_neg (by omega), if_neg (by rintro ⟨j, j1, j2, j3⟩; exact j3 (g0.2 j j1 (by omega)))]) rfl rfl (by omega) (by omega) zd_NU_compareFractionToHalf_50
        · -- 29 -> 32
          refine zw_aload_n 0 rfl zd_NU_compareFractionToHalf_32 ?_
          refine zw_get zc_NU 1 0 rfl (by decide) zf_NU_11 rfl zd_NU_compareFractionToHalf_33 ?_
          refine zw_iload_n 1 rfl zd_NU_compareFractionToHalf_36 ?_
          refine zw_aldI 0 rfl (by omega) (by omega) zd_NU_compareFractionToHalf_37 ?_
          refine zw_topE (hg1 x.toNat (by omega)) ?_
          have hx9 := hg2 x.toNat (by omega)
          refine zw_if_eq 43 (by omega) zd_NU_compareFractionToHalf_38 (by decide) (fun c38 => ?_) (fun c38 => ?_)
          · -- 38 -> 43
            refine zw_iinc (lv' := [(1, .int (zI (x + 1))), (0, .ref h)]) 1 rfl (Nat.le_of_ble_eq_true rfl) rfl zd_NU_compareFractionToHalf_43 ?_
            refine zw_goto 23 zd_NU_compareFractionToHalf_46 (by decide) ?_
            refine zw_lpick (lv' := [(0, .ref h), (1, .int (zI (x + 1)))]) [1, 0] rfl ?_
            refine zw_widen (k' := 0) (n' := 0) (by omega) (by omega) ?_
            refine ih (x + 1) ⟨by omega, fun j h1 h2 => ?_⟩ (by omega)
            rcases Nat.lt_or_ge j x.toNat with r | r
            · exact g0.2 j h1 r
            · rw [show j = x.toNat by omega]; omega
          · -- 38 -> 41
            refine zw_iconst zd_NU_compareFractionToHalf_41 ?_
            refine zw_pack (at0 := zFr fa (d)) (Ls := [zArI fa (160) (g)]) (L2 := [zObj h 5 [.ref fa, .int (zI (ng)), .int (zI (db)), .int (zI (de)), .int (zI (wd)), .int (zI (ex)), .int (v), .int (zI (ft))]]) rfl (fun G w h => ⟨g, ⟨hg1, hg2⟩, h⟩) ?_
            refine zw_sub (L' := [zObj h 5 [.ref fa, .int (zI (ng)), .int (zI (db)), .int (zI (de)), .int (zI (wd)), .int (zI (ex)), .int (v), .int (zI (ft))], zFr fa (d)]) [1, 0] rfl rfl ?_
            exact zw_iret hR (by rw [cmpH, if_neg (by omega), if_pos ⟨x.toNat, by omega, by omega, by omega⟩]) rfl rfl (by omega) (by omega) zd_NU_compareFractionToHalf_42
    refine zw_iconst zd_NU_compareFractionToHalf_21 ?_
    refine zw_istore_n (lv' := [(1, .int (zI (1))), (0, .ref h)]) (Nat.le_of_ble_eq_true rfl) rfl zd_NU_compareFractionToHalf_22 ?_
    refine zw_lpick (lv' := [(0, .ref h), (1, .int (zI (1)))]) [1, 0] rfl ?_
    refine zw_widen (k' := 0) (n' := 0) (by omega) (by omega) ?_
    exact lp _ 1 ⟨by omega, fun j h1 h2 => by omega⟩ (Nat.lt_succ_self _)
  · -- 7 -> 10
    refine zw_aload_n 0 rfl zd_NU_compareFractionToHalf_10 ?_
    refine zw_get zc_NU 1 0 rfl (by decide) zf_NU_11 rfl zd_NU_compareFractionToHalf_11 ?_
    refine zw_iconst zd_NU_compareFractionToHalf_14 ?_
    refine zw_aldI 0 rfl (by omega) (by omega) zd_NU_compareFractionToHalf_15 ?_
    refine zw_topE (show g (0 : Int).toNat = zI (d 0) from hg1 0 (by omega)) ?_
    refine zw_iconst zd_NU_compareFractionToHalf_16 ?_
    refine zw_callS (a := 0) (As := [.int (zI (d 0)), .int (zI (5))]) (rest := []) (L2 := [zArI fa (160) (g), zObj h 5 [.ref fa, .int (zI (ng)), .int (zI (db)), .int (zI (de)), .int (zI (wd)), .int (zI (ex)), .int (v), .int (zI (ft))]]) (L' := [zArI fa (160) (g), zObj h 5 [.ref fa, .int (zI (ng)), .int (zI (db)), .int (zI (de)), .int (zI (wd)), .int (zI (ex)), .int (v), .int (zI (ft))]]) (stk' := [.int (zI (if d 0 < 5 then -1 else if d 0 = 5 then 0 else 1))]) (c_IG_compare (d 0) 5 (by omega) (by omega)) [] [0, 1] rfl rfl rfl zcal_IG_compare zl_NU_115 zst_IG_compare (Nat.le_of_ble_eq_true rfl) (Nat.le_of_ble_eq_true rfl) (by omega) (by omega) rfl (Nat.le_of_ble_eq_true rfl) rfl rfl zd_NU_compareFractionToHalf_17 ?_
    refine zw_pack (at0 := zFr fa (d)) (Ls := [zArI fa (160) (g)]) (L2 := [zObj h 5 [.ref fa, .int (zI (ng)), .int (zI (db)), .int (zI (de)), .int (zI (wd)), .int (zI (ex)), .int (v), .int (zI (ft))]]) rfl (fun G w h => ⟨g, ⟨hg1, hg2⟩, h⟩) ?_
    refine zw_sub (L' := [zObj h 5 [.ref fa, .int (zI (ng)), .int (zI (db)), .int (zI (de)), .int (zI (wd)), .int (zI (ex)), .int (v), .int (zI (ft))], zFr fa (d)]) [1, 0] rfl rfl ?_
    exact zw_iret hR (by rw [cmpH, if_pos (by omega)]) rfl rfl (by omega) (by omega) zd_NU_compareFractionToHalf_20
