set_option maxHeartbeats 4000000 in
set_option maxRecDepth 100000 in
theorem c_PW_isBlank (z : Int) (hz : -2147483648 ≤ z ∧ z ≤ 2147483647) : zCT zy_PW_isBlank zm_PW_isBlank 0 0 [.int (zI z)] [] (some (.int (zI (bI (sBlank z))))) [] := by
  refine zCT.of [(0, .int (zI z))] rfl (by decide) rfl (fun h => by first | rfl | cases h) (Nat.le_of_ble_eq_true rfl) (fun X hR => ?_)
  refine zw_iload_n 0 rfl zd_PW_isBlank_0 ?_
  refine zw_if_eq 34 (by omega) zd_PW_isBlank_1 (by decide) (fun c1 => ?_) (fun c1 => ?_)
  · -- 1 -> 34
    refine zw_iconst zd_PW_isBlank_34 ?_
    refine zw_goto 39 zd_PW_isBlank_35 (by decide) ?_
    exact zw_zret hR (by rw [show sBlank z = true from decide_eq_true (by omega)]; rfl) rfl rfl rfl (by omega) (by omega) zd_PW_isBlank_39
  · -- 1 -> 4
    refine zw_iload_n 0 rfl zd_PW_isBlank_4 ?_
    refine zw_bipush rfl zd_PW_isBlank_5 ?_
    refine zw_icmp_eq 34 (by omega) (by omega) zd_PW_isBlank_7 (by decide) (fun c7 => ?_) (fun c7 => ?_)
    · -- 7 -> 34
      refine zw_iconst zd_PW_isBlank_34 ?_
      refine zw_goto 39 zd_PW_isBlank_35 (by decide) ?_
      exact zw_zret hR (by rw [show sBlank z = true from decide_eq_true (by omega)]; rfl) rfl rfl rfl (by omega) (by omega) zd_PW_isBlank_39
    · -- 7 -> 10
      refine zw_iload_n 0 rfl zd_PW_isBlank_10 ?_
      refine zw_bipush rfl zd_PW_isBlank_11 ?_
      refine zw_icmp_eq 34 (by omega) (by omega) zd_PW_isBlank_13 (by decide) (fun c13 => ?_) (fun c13 => ?_)
      · -- 13 -> 34
        refine zw_iconst zd_PW_isBlank_34 ?_
        refine zw_goto 39 zd_PW_isBlank_35 (by decide) ?_
        exact zw_zret hR (by rw [show sBlank z = true from decide_eq_true (by omega)]; rfl) rfl rfl rfl (by omega) (by omega) zd_PW_isBlank_39
      · -- 13 -> 16
        refine zw_iload_n 0 rfl zd_PW_isBlank_16 ?_
        refine zw_bipush rfl zd_PW_isBlank_17 ?_
        refine zw_icmp_eq 34 (by omega) (by omega) zd_PW_isBlank_19 (by decide) (fun c19 => ?_) (fun c19 => ?_)
        · -- 19 -> 34
          refine zw_iconst zd_PW_isBlank_34 ?_
          refine zw_goto 39 zd_PW_isBlank_35 (by decide) ?_
          exact zw_zret hR (by rw [show sBlank z = true from decide_eq_true (by omega)]; rfl) rfl rfl rfl (by omega) (by omega) zd_PW_isBlank_39
        · -- 19 -> 22
          refine zw_iload_n 0 rfl zd_PW_isBlank_22 ?_
          refine zw_bipush rfl zd_PW_isBlank_23 ?_
          refine zw_icmp_eq 34 (by omega) (by omega) zd_PW_isBlank_25 (by decide) (fun c25 => ?_) (fun c25 => ?_)
          · -- 25 -> 34
            refine zw_iconst zd_PW_isBlank_34 ?_
            refine zw_goto 39 zd_PW_isBlank_35 (by decide) ?_
            exact zw_zret hR (by rw [show sBlank z = true from decide_eq_true (by omega)]; rfl) rfl rfl rfl (by omega) (by omega) zd_PW_isBlank_39
          · -- 25 -> 28
            refine zw_iload_n 0 rfl zd_PW_isBlank_28 ?_
            refine zw_bipush rfl zd_PW_isBlank_29 ?_
            refine zw_icmp_ne 38 (by omega) (by omega) zd_PW_isBlank_31 (by decide) (fun c31 => ?_) (fun c31 => ?_)
            · -- 31 -> 38
              refine zw_iconst zd_PW_isBlank_38 ?_
              exact zw_zret hR (by rw [show sBlank z = false from decide_eq_false (by omega)]; rfl) rfl rfl rfl (by omega) (by omega) zd_PW_isBlank_39
            · -- 31 -> 34
              refine zw_iconst zd_PW_isBlank_34 ?_
              refine zw_goto 39 zd_PW_isBlank_35 (by decide) ?_
              exact zw_zret hR (by rw [show sBlank z = true from decide_eq_true (by omega)]; rfl) rfl rfl rfl (by omega) (by omega) zd_PW_isBlank_39
set_option maxHeartbeats 4000000 in
set_option maxRecDepth 100000 in
theorem c_PW_isLineEnd (z : Int) (hz : -2147483648 ≤ z ∧ z ≤ 2147483647) : zCT zy_PW_isLineEnd zm_PW_isLineEnd 0 0 [.int (zI z)] [] (some (.int (zI (bI (sLine z))))) [] := by
  refine zCT.of [(0, .int (zI z))] rfl (by decide) rfl (fun h => by first | rfl | cases h) (Nat.le_of_ble_eq_true rfl) (fun X hR => ?_)
  refine zw_iload_n 0 rfl zd_PW_isLineEnd_0 ?_
  refine zw_bipush rfl zd_PW_isLineEnd_1 ?_
  refine zw_icmp_eq 12 (by omega) (by omega) zd_PW_isLineEnd_3 (by decide) (fun c3 => ?_) (fun c3 => ?_)
  · -- 3 -> 12
    refine zw_iconst zd_PW_isLineEnd_12 ?_
    refine zw_goto 17 zd_PW_isLineEnd_13 (by decide) ?_
    exact zw_zret hR (by rw [show sLine z = true from decide_eq_true (by omega)]; rfl) rfl rfl rfl (by omega) (by omega) zd_PW_isLineEnd_17
  · -- 3 -> 6
    refine zw_iload_n 0 rfl zd_PW_isLineEnd_6 ?_
    refine zw_bipush rfl zd_PW_isLineEnd_7 ?_
    refine zw_icmp_ne 16 (by omega) (by omega) zd_PW_isLineEnd_9 (by decide) (fun c9 => ?_) (fun c9 => ?_)
    · -- 9 -> 16
      refine zw_iconst zd_PW_isLineEnd_16 ?_
      exact zw_zret hR (by rw [show sLine z = false from decide_eq_false (by omega)]; rfl) rfl rfl rfl (by omega) (by omega) zd_PW_isLineEnd_17
    · -- 9 -> 12
      refine zw_iconst zd_PW_isLineEnd_12 ?_
      refine zw_goto 17 zd_PW_isLineEnd_13 (by decide) ?_
      exact zw_zret hR (by rw [show sLine z = true from decide_eq_true (by omega)]; rfl) rfl rfl rfl (by omega) (by omega) zd_PW_isLineEnd_17
set_option maxHeartbeats 4000000 in
set_option maxRecDepth 100000 in
theorem c_PW_isMark (z : Int) (hz : -2147483648 ≤ z ∧ z ≤ 2147483647) : zCT zy_PW_isMark zm_PW_isMark 0 0 [.int (zI z)] [] (some (.int (zI (bI (sMark z))))) [] := by
  refine zCT.of [(0, .int (zI z))] rfl (by decide) rfl (fun h => by first | rfl | cases h) (Nat.le_of_ble_eq_true rfl) (fun X hR => ?_)
  refine zw_iload_n 0 rfl zd_PW_isMark_0 ?_
  by_cases k1_37 : z = 37
  · refine zw_lookup (off := 91) 92 (by omega) zd_PW_isMark_1 (by decide) (by rw [k1_37]; rfl) (by decide) ?_
    refine zw_iconst zd_PW_isMark_92 ?_
    exact zw_zret hR (by rw [show sMark z = true from decide_eq_true (by omega)]; rfl) rfl rfl rfl (by omega) (by omega) zd_PW_isMark_93
  by_cases k1_40 : z = 40
  · refine zw_lookup (off := 91) 92 (by omega) zd_PW_isMark_1 (by decide) (by rw [k1_40]; rfl) (by decide) ?_
    refine zw_iconst zd_PW_isMark_92 ?_
    exact zw_zret hR (by rw [show sMark z = true from decide_eq_true (by omega)]; rfl) rfl rfl rfl (by omega) (by omega) zd_PW_isMark_93
  by_cases k1_41 : z = 41
  · refine zw_lookup (off := 91) 92 (by omega) zd_PW_isMark_1 (by decide) (by rw [k1_41]; rfl) (by decide) ?_
    refine zw_iconst zd_PW_isMark_92 ?_
    exact zw_zret hR (by rw [show sMark z = true from decide_eq_true (by omega)]; rfl) rfl rfl rfl (by omega) (by omega) zd_PW_isMark_93
  by_cases k1_47 : z = 47
  · refine zw_lookup (off := 91) 92 (by omega) zd_PW_isMark_1 (by decide) (by rw [k1_47]; rfl) (by decide) ?_
    refine zw_iconst zd_PW_isMark_92 ?_
    exact zw_zret hR (by rw [show sMark z = true from decide_eq_true (by omega)]; rfl) rfl rfl rfl (by omega) (by omega) zd_PW_isMark_93
  by_cases k1_60 : z = 60
  · refine zw_lookup (off := 91) 92 (by omega) zd_PW_isMark_1 (by decide) (by rw [k1_60]; rfl) (by decide) ?_
    refine zw_iconst zd_PW_isMark_92 ?_
    exact zw_zret hR (by rw [show sMark z = true from decide_eq_true (by omega)]; rfl) rfl rfl rfl (by omega) (by omega) zd_PW_isMark_93
  by_cases k1_62 : z = 62
  · refine zw_lookup (off := 91) 92 (by omega) zd_PW_isMark_1 (by decide) (by rw [k1_62]; rfl) (by decide) ?_
    refine zw_iconst zd_PW_isMark_92 ?_
    exact zw_zret hR (by rw [show sMark z = true from decide_eq_true (by omega)]; rfl) rfl rfl rfl (by omega) (by omega) zd_PW_isMark_93
  by_cases k1_91 : z = 91
  · refine zw_lookup (off := 91) 92 (by omega) zd_PW_isMark_1 (by decide) (by rw [k1_91]; rfl) (by decide) ?_
    refine zw_iconst zd_PW_isMark_92 ?_
    exact zw_zret hR (by rw [show sMark z = true from decide_eq_true (by omega)]; rfl) rfl rfl rfl (by omega) (by omega) zd_PW_isMark_93
  by_cases k1_93 : z = 93
  · refine zw_lookup (off := 91) 92 (by omega) zd_PW_isMark_1 (by decide) (by rw [k1_93]; rfl) (by decide) ?_
    refine zw_iconst zd_PW_isMark_92 ?_
    exact zw_zret hR (by rw [show sMark z = true from decide_eq_true (by omega)]; rfl) rfl rfl rfl (by omega) (by omega) zd_PW_isMark_93
  by_cases k1_123 : z = 123
  · refine zw_lookup (off := 91) 92 (by omega) zd_PW_isMark_1 (by decide) (by rw [k1_123]; rfl) (by decide) ?_
    refine zw_iconst zd_PW_isMark_92 ?_
    exact zw_zret hR (by rw [show sMark z = true from decide_eq_true (by omega)]; rfl) rfl rfl rfl (by omega) (by omega) zd_PW_isMark_93
  by_cases k1_125 : z = 125
  · refine zw_lookup (off := 91) 92 (by omega) zd_PW_isMark_1 (by decide) (by rw [k1_125]; rfl) (by decide) ?_
    refine zw_iconst zd_PW_isMark_92 ?_
    exact zw_zret hR (by rw [show sMark z = true from decide_eq_true (by omega)]; rfl) rfl rfl rfl (by omega) (by omega) zd_PW_isMark_93
  refine zw_lookup (off := 93) 94 (by omega) zd_PW_isMark_1 (by decide) (by rw [Op.lookupswitch.offset_cons, if_neg (Ne.symm k1_37)]; rw [Op.lookupswitch.offset_cons, if_neg (Ne.symm k1_40)]; rw [Op.lookupswitch.offset_cons, if_neg (Ne.symm k1_41)]; rw [Op.lookupswitch.offset_cons, if_neg (Ne.symm k1_47)]; rw [Op.lookupswitch.offset_cons, if_neg (Ne.symm k1_60)]; rw [Op.lookupswitch.offset_cons, if_neg (Ne.symm k1_62)]; rw [Op.lookupswitch.offset_cons, if_neg (Ne.symm k1_91)]; rw [Op.lookupswitch.offset_cons, if_neg (Ne.symm k1_93)]; rw [Op.lookupswitch.offset_cons, if_neg (Ne.symm k1_123)]; rw [Op.lookupswitch.offset_cons, if_neg (Ne.symm k1_125)]; rfl) (by decide) ?_
  refine zw_iconst zd_PW_isMark_94 ?_
  exact zw_zret hR (by rw [show sMark z = false from decide_eq_false (by omega)]; rfl) rfl rfl rfl (by omega) (by omega) zd_PW_isMark_95
set_option maxHeartbeats 4000000 in
set_option maxRecDepth 100000 in
theorem c_PW_isOctal (z : Int) (hz : -2147483648 ≤ z ∧ z ≤ 2147483647) : zCT zy_PW_isOctal zm_PW_isOctal 0 0 [.int (zI z)] [] (some (.int (zI (bI (sOct z))))) [] := by
  refine zCT.of [(0, .int (zI z))] rfl (by decide) rfl (fun h => by first | rfl | cases h) (Nat.le_of_ble_eq_true rfl) (fun X hR => ?_)
  refine zw_iload_n 0 rfl zd_PW_isOctal_0 ?_
  refine zw_bipush rfl zd_PW_isOctal_1 ?_
  refine zw_icmp_lt 16 (by omega) (by omega) zd_PW_isOctal_3 (by decide) (fun c3 => ?_) (fun c3 => ?_)
  · -- 3 -> 16
    refine zw_iconst zd_PW_isOctal_16 ?_
    exact zw_zret hR (by rw [show sOct z = false from decide_eq_false (by omega)]; rfl) rfl rfl rfl (by omega) (by omega) zd_PW_isOctal_17
  · -- 3 -> 6
    refine zw_iload_n 0 rfl zd_PW_isOctal_6 ?_
    refine zw_bipush rfl zd_PW_isOctal_7 ?_
    refine zw_icmp_gt 16 (by omega) (by omega) zd_PW_isOctal_9 (by decide) (fun c9 => ?_) (fun c9 => ?_)
    · -- 9 -> 16
      refine zw_iconst zd_PW_isOctal_16 ?_
      exact zw_zret hR (by rw [show sOct z = false from decide_eq_false (by omega)]; rfl) rfl rfl rfl (by omega) (by omega) zd_PW_isOctal_17
    · -- 9 -> 12
      refine zw_iconst zd_PW_isOctal_12 ?_
      refine zw_goto 17 zd_PW_isOctal_13 (by decide) ?_
      exact zw_zret hR (by rw [show sOct z = true from decide_eq_true (by omega)]; rfl) rfl rfl rfl (by omega) (by omega) zd_PW_isOctal_17
set_option maxHeartbeats 4000000 in
set_option maxRecDepth 100000 in
theorem c_PW_isPlain (z : Int) (hz : -2147483648 ≤ z ∧ z ≤ 2147483647) : zCT zy_PW_isPlain zm_PW_isPlain 0 0 [.int (zI z)] [] (some (.int (zI (bI (sPlain z))))) [] := by
  refine zCT.of [(0, .int (zI z))] rfl (by decide) rfl (fun h => by first | rfl | cases h) (Nat.le_of_ble_eq_true rfl) (fun X hR => ?_)
  refine zw_iload_n 0 rfl zd_PW_isPlain_0 ?_
  refine zw_callS (a := 0) (As := [.int (zI (z))]) (rest := []) (L2 := []) (L' := []) (stk' := [.int (zI (bI (sBlank (z))))]) (c_PW_isBlank (z) (by omega)) [] [] rfl rfl rfl zcal_PW_isBlank zl_PW_109 zst_PW_isBlank (Nat.le_of_ble_eq_true rfl) (Nat.le_of_ble_eq_true rfl) (by omega) (by omega) rfl (Nat.le_of_ble_eq_true rfl) rfl rfl zd_PW_isPlain_1 ?_
  have rb1 := bI_rg (sBlank (z))
  refine zw_if_ne 18 (by omega) zd_PW_isPlain_4 (by decide) (fun c4 => ?_) (fun c4 => ?_)
  · -- 4 -> 18
    refine zw_iconst zd_PW_isPlain_18 ?_
    exact zw_zret hR (by rw [show sPlain z = false by unfold sPlain; first | (rw [zbI1 (b := sBlank z) (by omega)]; rfl) | (rw [zbI1 (b := sMark z) (by omega)]; simp)]; rfl) rfl rfl rfl (by omega) (by omega) zd_PW_isPlain_19
  · -- 4 -> 7
    refine zw_iload_n 0 rfl zd_PW_isPlain_7 ?_
    refine zw_callS (a := 0) (As := [.int (zI (z))]) (rest := []) (L2 := []) (L' := []) (stk' := [.int (zI (bI (sMark (z))))]) (c_PW_isMark (z) (by omega)) [] [] rfl rfl rfl zcal_PW_isMark zl_PW_196 zst_PW_isMark (Nat.le_of_ble_eq_true rfl) (Nat.le_of_ble_eq_true rfl) (by omega) (by omega) rfl (Nat.le_of_ble_eq_true rfl) rfl rfl zd_PW_isPlain_8 ?_
    have rb8 := bI_rg (sMark (z))
    refine zw_if_ne 18 (by omega) zd_PW_isPlain_11 (by decide) (fun c11 => ?_) (fun c11 => ?_)
    · -- 11 -> 18
      refine zw_iconst zd_PW_isPlain_18 ?_
      exact zw_zret hR (by rw [show sPlain z = false by unfold sPlain; first | (rw [zbI1 (b := sBlank z) (by omega)]; rfl) | (rw [zbI1 (b := sMark z) (by omega)]; simp)]; rfl) rfl rfl rfl (by omega) (by omega) zd_PW_isPlain_19
    · -- 11 -> 14
      refine zw_iconst zd_PW_isPlain_14 ?_
      refine zw_goto 19 zd_PW_isPlain_15 (by decide) ?_
      exact zw_zret hR (by rw [show sPlain z = true by unfold sPlain; rw [zbI0 (b := sBlank z) (by omega), zbI0 (b := sMark z) (by omega)]; rfl]; rfl) rfl rfl rfl (by omega) (by omega) zd_PW_isPlain_19
set_option maxHeartbeats 4000000 in
set_option maxRecDepth 100000 in
theorem c_PW_digitValue (z : Int) (hz : -2147483648 ≤ z ∧ z ≤ 2147483647) : zCT zy_PW_digitValue zm_PW_digitValue 0 0 [.int (zI z)] [] (some (.int (zI (digV z)))) [] := by
  refine zCT.of [(0, .int (zI z))] rfl (by decide) rfl (fun h => by first | rfl | cases h) (Nat.le_of_ble_eq_true rfl) (fun X hR => ?_)
  refine zw_iload_n 0 rfl zd_PW_digitValue_0 ?_
  refine zw_bipush rfl zd_PW_digitValue_1 ?_
  refine zw_icmp_lt 17 (by omega) (by omega) zd_PW_digitValue_3 (by decide) (fun c3 => ?_) (fun c3 => ?_)
  · -- 3 -> 17
    refine zw_iload_n 0 rfl zd_PW_digitValue_17 ?_
    refine zw_bipush rfl zd_PW_digitValue_18 ?_
    refine zw_icmp_lt 37 (by omega) (by omega) zd_PW_digitValue_20 (by decide) (fun c20 => ?_) (fun c20 => ?_)
    · -- 20 -> 37
      refine zw_iload_n 0 rfl zd_PW_digitValue_37 ?_
      refine zw_bipush rfl zd_PW_digitValue_38 ?_
      refine zw_icmp_lt 57 (by omega) (by omega) zd_PW_digitValue_40 (by decide) (fun c40 => ?_) (fun c40 => ?_)
      · -- 40 -> 57
        refine zw_iconst zd_PW_digitValue_57 ?_
        exact zw_iret hR (by rw [show digV z = -1 by unfold digV; repeat' (first | omega | split)]) rfl rfl (by omega) (by omega) zd_PW_digitValue_58
      · -- 40 -> 43
        refine zw_iload_n 0 rfl zd_PW_digitValue_43 ?_
        refine zw_bipush rfl zd_PW_digitValue_44 ?_
        refine zw_icmp_gt 57 (by omega) (by omega) zd_PW_digitValue_46 (by decide) (fun c46 => ?_) (fun c46 => ?_)
        · -- 46 -> 57
          refine zw_iconst zd_PW_digitValue_57 ?_
          exact zw_iret hR (by rw [show digV z = -1 by unfold digV; repeat' (first | omega | split)]) rfl rfl (by omega) (by omega) zd_PW_digitValue_58
        · -- 46 -> 49
          refine zw_iload_n 0 rfl zd_PW_digitValue_49 ?_
          refine zw_bipush rfl zd_PW_digitValue_50 ?_
          refine zw_isub zd_PW_digitValue_52 ?_
          refine zw_bipush rfl zd_PW_digitValue_53 ?_
          refine zw_iadd zd_PW_digitValue_55 ?_
          exact zw_iret hR (by rw [show digV z = (z - 65) + 10 by unfold digV; repeat' (first | omega | split)]) rfl rfl (by omega) (by omega) zd_PW_digitValue_56
    · -- 20 -> 23
      refine zw_iload_n 0 rfl zd_PW_digitValue_23 ?_
      refine zw_bipush rfl zd_PW_digitValue_24 ?_
      refine zw_icmp_gt 37 (by omega) (by omega) zd_PW_digitValue_26 (by decide) (fun c26 => ?_) (fun c26 => ?_)
      · -- 26 -> 37
        refine zw_iload_n 0 rfl zd_PW_digitValue_37 ?_
        refine zw_bipush rfl zd_PW_digitValue_38 ?_
        refine zw_icmp_lt 57 (by omega) (by omega) zd_PW_digitValue_40 (by decide) (fun c40 => ?_) (fun c40 => ?_)
        · -- 40 -> 57
          refine zw_iconst zd_PW_digitValue_57 ?_
          exact zw_iret hR (by rw [show digV z = -1 by unfold digV; repeat' (first | omega | split)]) rfl rfl (by omega) (by omega) zd_PW_digitValue_58
        · -- 40 -> 43
          refine zw_iload_n 0 rfl zd_PW_digitValue_43 ?_
          refine zw_bipush rfl zd_PW_digitValue_44 ?_
          refine zw_icmp_gt 57 (by omega) (by omega) zd_PW_digitValue_46 (by decide) (fun c46 => ?_) (fun c46 => ?_)
          · -- 46 -> 57
            refine zw_iconst zd_PW_digitValue_57 ?_
            exact zw_iret hR (by rw [show digV z = -1 by unfold digV; repeat' (first | omega | split)]) rfl rfl (by omega) (by omega) zd_PW_digitValue_58
          · -- 46 -> 49
            refine zw_iload_n 0 rfl zd_PW_digitValue_49 ?_
            refine zw_bipush rfl zd_PW_digitValue_50 ?_
            refine zw_isub zd_PW_digitValue_52 ?_
            refine zw_bipush rfl zd_PW_digitValue_53 ?_
            refine zw_iadd zd_PW_digitValue_55 ?_
            exact zw_iret hR (by rw [show digV z = (z - 65) + 10 by unfold digV; repeat' (first | omega | split)]) rfl rfl (by omega) (by omega) zd_PW_digitValue_56
      · -- 26 -> 29
        refine zw_iload_n 0 rfl zd_PW_digitValue_29 ?_
        refine zw_bipush rfl zd_PW_digitValue_30 ?_
        refine zw_isub zd_PW_digitValue_32 ?_
        refine zw_bipush rfl zd_PW_digitValue_33 ?_
        refine zw_iadd zd_PW_digitValue_35 ?_
        exact zw_iret hR (by rw [show digV z = (z - 97) + 10 by unfold digV; repeat' (first | omega | split)]) rfl rfl (by omega) (by omega) zd_PW_digitValue_36
  · -- 3 -> 6
    refine zw_iload_n 0 rfl zd_PW_digitValue_6 ?_
    refine zw_bipush rfl zd_PW_digitValue_7 ?_
    refine zw_icmp_gt 17 (by omega) (by omega) zd_PW_digitValue_9 (by decide) (fun c9 => ?_) (fun c9 => ?_)
    · -- 9 -> 17
      refine zw_iload_n 0 rfl zd_PW_digitValue_17 ?_
      refine zw_bipush rfl zd_PW_digitValue_18 ?_
      refine zw_icmp_lt 37 (by omega) (by omega) zd_PW_digitValue_20 (by decide) (fun c20 => ?_) (fun c20 => ?_)
      · -- 20 -> 37
        refine zw_iload_n 0 rfl zd_PW_digitValue_37 ?_
        refine zw_bipush rfl zd_PW_digitValue_38 ?_
        refine zw_icmp_lt 57 (by omega) (by omega) zd_PW_digitValue_40 (by decide) (fun c40 => ?_) (fun c40 => ?_)
        · -- 40 -> 57
          refine zw_iconst zd_PW_digitValue_57 ?_
          exact zw_iret hR (by rw [show digV z = -1 by unfold digV; repeat' (first | omega | split)]) rfl rfl (by omega) (by omega) zd_PW_digitValue_58
        · -- 40 -> 43
          refine zw_iload_n 0 rfl zd_PW_digitValue_43 ?_
          refine zw_bipush rfl zd_PW_digitValue_44 ?_
          refine zw_icmp_gt 57 (by omega) (by omega) zd_PW_digitValue_46 (by decide) (fun c46 => ?_) (fun c46 => ?_)
          · -- 46 -> 57
            refine zw_iconst zd_PW_digitValue_57 ?_
            exact zw_iret hR (by rw [show digV z = -1 by unfold digV; repeat' (first | omega | split)]) rfl rfl (by omega) (by omega) zd_PW_digitValue_58
          · -- 46 -> 49
            refine zw_iload_n 0 rfl zd_PW_digitValue_49 ?_
            refine zw_bipush rfl zd_PW_digitValue_50 ?_
            refine zw_isub zd_PW_digitValue_52 ?_
            refine zw_bipush rfl zd_PW_digitValue_53 ?_
            refine zw_iadd zd_PW_digitValue_55 ?_
            exact zw_iret hR (by rw [show digV z = (z - 65) + 10 by unfold digV; repeat' (first | omega | split)]) rfl rfl (by omega) (by omega) zd_PW_digitValue_56
      · -- 20 -> 23
        refine zw_iload_n 0 rfl zd_PW_digitValue_23 ?_
        refine zw_bipush rfl zd_PW_digitValue_24 ?_
        refine zw_icmp_gt 37 (by omega) (by omega) zd_PW_digitValue_26 (by decide) (fun c26 => ?_) (fun c26 => ?_)
        · -- 26 -> 37
          refine zw_iload_n 0 rfl zd_PW_digitValue_37 ?_
          refine zw_bipush rfl zd_PW_digitValue_38 ?_
          refine zw_icmp_lt 57 (by omega) (by omega) zd_PW_digitValue_40 (by decide) (fun c40 => ?_) (fun c40 => ?_)
          · -- 40 -> 57
            refine zw_iconst zd_PW_digitValue_57 ?_
            exact zw_iret hR (by rw [show digV z = -1 by unfold digV; repeat' (first | omega | split)]) rfl rfl (by omega) (by omega) zd_PW_digitValue_58
          · -- 40 -> 43
            refine zw_iload_n 0 rfl zd_PW_digitValue_43 ?_
            refine zw_bipush rfl zd_PW_digitValue_44 ?_
            refine zw_icmp_gt 57 (by omega) (by omega) zd_PW_digitValue_46 (by decide) (fun c46 => ?_) (fun c46 => ?_)
            · -- 46 -> 57
              refine zw_iconst zd_PW_digitValue_57 ?_
              exact zw_iret hR (by rw [show digV z = -1 by unfold digV; repeat' (first | omega | split)]) rfl rfl (by omega) (by omega) zd_PW_digitValue_58
            · -- 46 -> 49
              refine zw_iload_n 0 rfl zd_PW_digitValue_49 ?_
              refine zw_bipush rfl zd_PW_digitValue_50 ?_
              refine zw_isub zd_PW_digitValue_52 ?_
              refine zw_bipush rfl zd_PW_digitValue_53 ?_
              refine zw_iadd zd_PW_digitValue_55 ?_
              exact zw_iret hR (by rw [show digV z = (z - 65) + 10 by unfold digV; repeat' (first | omega | split)]) rfl rfl (by omega) (by omega) zd_PW_digitValue_56
        · -- 26 -> 29
          refine zw_iload_n 0 rfl zd_PW_digitValue_29 ?_
          refine zw_bipush rfl zd_PW_digitValue_30 ?_
          refine zw_isub zd_PW_digitValue_32 ?_
          refine zw_bipush rfl zd_PW_digitValue_33 ?_
          refine zw_iadd zd_PW_digitValue_35 ?_
          exact zw_iret hR (by rw [show digV z = (z - 97) + 10 by unfold digV; repeat' (first | omega | split)]) rfl rfl (by omega) (by omega) zd_PW_digitValue_36
    · -- 9 -> 12
      refine zw_iload_n 0 rfl zd_PW_digitValue_12 ?_
      refine zw_bipush rfl zd_PW_digitValue_13 ?_
      refine zw_isub zd_PW_digitValue_15 ?_
      exact zw_iret hR (by rw [show digV z = z - 48 by unfold digV; repeat' (first | omega | split)]) rfl rfl (by omega) (by omega) zd_PW_digitValue_16
set_option maxHeartbeats 4000000 in
set_option maxRecDepth 100000 in
theorem c_PW_meant (z : Int) (hz : -2147483648 ≤ z ∧ z ≤ 2147483647) : zCT zy_PW_meant zm_PW_meant 0 0 [.int (zI z)] [] (some (.int (zI (meantV z)))) [] := by
  refine zCT.of [(0, .int (zI z))] rfl (by decide) rfl (fun h => by first | rfl | cases h) (Nat.le_of_ble_eq_true rfl) (fun X hR => ?_)
  refine zw_iload_n 0 rfl zd_PW_meant_0 ?_
  by_cases k1_98 : z = 98
  · refine zw_lookup (off := 60) 61 (by omega) zd_PW_meant_1 (by decide) (by rw [k1_98]; rfl) (by decide) ?_
    refine zw_bipush rfl zd_PW_meant_61 ?_
    exact zw_iret hR (by rw [show meantV z = 8 by unfold meantV; repeat' (first | omega | split)]) rfl rfl (by omega) (by omega) zd_PW_meant_63
  by_cases k1_102 : z = 102
  · refine zw_lookup (off := 63) 64 (by omega) zd_PW_meant_1 (by decide) (by rw [k1_102]; rfl) (by decide) ?_
    refine zw_bipush rfl zd_PW_meant_64 ?_
    exact zw_iret hR (by rw [show meantV z = 12 by unfold meantV; repeat' (first | omega | split)]) rfl rfl (by omega) (by omega) zd_PW_meant_66
  by_cases k1_110 : z = 110
  · refine zw_lookup (off := 51) 52 (by omega) zd_PW_meant_1 (by decide) (by rw [k1_110]; rfl) (by decide) ?_
    refine zw_bipush rfl zd_PW_meant_52 ?_
    exact zw_iret hR (by rw [show meantV z = 10 by unfold meantV; repeat' (first | omega | split)]) rfl rfl (by omega) (by omega) zd_PW_meant_54
  by_cases k1_114 : z = 114
  · refine zw_lookup (off := 54) 55 (by omega) zd_PW_meant_1 (by decide) (by rw [k1_114]; rfl) (by decide) ?_
    refine zw_bipush rfl zd_PW_meant_55 ?_
    exact zw_iret hR (by rw [show meantV z = 13 by unfold meantV; repeat' (first | omega | split)]) rfl rfl (by omega) (by omega) zd_PW_meant_57
  by_cases k1_116 : z = 116
  · refine zw_lookup (off := 57) 58 (by omega) zd_PW_meant_1 (by decide) (by rw [k1_116]; rfl) (by decide) ?_
    refine zw_bipush rfl zd_PW_meant_58 ?_
    exact zw_iret hR (by rw [show meantV z = 9 by unfold meantV; repeat' (first | omega | split)]) rfl rfl (by omega) (by omega) zd_PW_meant_60
  refine zw_lookup (off := 66) 67 (by omega) zd_PW_meant_1 (by decide) (by rw [Op.lookupswitch.offset_cons, if_neg (Ne.symm k1_98)]; rw [Op.lookupswitch.offset_cons, if_neg (Ne.symm k1_102)]; rw [Op.lookupswitch.offset_cons, if_neg (Ne.symm k1_110)]; rw [Op.lookupswitch.offset_cons, if_neg (Ne.symm k1_114)]; rw [Op.lookupswitch.offset_cons, if_neg (Ne.symm k1_116)]; rfl) (by decide) ?_
  refine zw_iload_n 0 rfl zd_PW_meant_67 ?_
  exact zw_iret hR (by rw [show meantV z = z by unfold meantV; repeat' (first | omega | split)]) rfl rfl (by omega) (by omega) zd_PW_meant_68
set_option maxHeartbeats 4000000 in
set_option maxRecDepth 100000 in
theorem c_NU_isSign (z : Int) (hz : -2147483648 ≤ z ∧ z ≤ 2147483647) : zCT zy_NU_isSign zm_NU_isSign 0 0 [.int (zI z)] [] (some (.int (zI (bI (sSign z))))) [] := by
  refine zCT.of [(0, .int (zI z))] rfl (by decide) rfl (fun h => by first | rfl | cases h) (Nat.le_of_ble_eq_true rfl) (fun X hR => ?_)
  refine zw_iload_n 0 rfl zd_NU_isSign_0 ?_
  refine zw_bipush rfl zd_NU_isSign_1 ?_
  refine zw_icmp_eq 12 (by omega) (by omega) zd_NU_isSign_3 (by decide) (fun c3 => ?_) (fun c3 => ?_)
  · -- 3 -> 12
    refine zw_iconst zd_NU_isSign_12 ?_
    refine zw_goto 17 zd_NU_isSign_13 (by decide) ?_
    exact zw_zret hR (by rw [show sSign z = true from decide_eq_true (by omega)]; rfl) rfl rfl rfl (by omega) (by omega) zd_NU_isSign_17
  · -- 3 -> 6
    refine zw_iload_n 0 rfl zd_NU_isSign_6 ?_
    refine zw_bipush rfl zd_NU_isSign_7 ?_
    refine zw_icmp_ne 16 (by omega) (by omega) zd_NU_isSign_9 (by decide) (fun c9 => ?_) (fun c9 => ?_)
    · -- 9 -> 16
      refine zw_iconst zd_NU_isSign_16 ?_
      exact zw_zret hR (by rw [show sSign z = false from decide_eq_false (by omega)]; rfl) rfl rfl rfl (by omega) (by omega) zd_NU_isSign_17
    · -- 9 -> 12
      refine zw_iconst zd_NU_isSign_12 ?_
      refine zw_goto 17 zd_NU_isSign_13 (by decide) ?_
      exact zw_zret hR (by rw [show sSign z = true from decide_eq_true (by omega)]; rfl) rfl rfl rfl (by omega) (by omega) zd_NU_isSign_17
set_option maxHeartbeats 4000000 in
set_option maxRecDepth 100000 in
theorem c_NU_isDigit (z : Int) (hz : -2147483648 ≤ z ∧ z ≤ 2147483647) : zCT zy_NU_isDigit zm_NU_isDigit 0 0 [.int (zI z)] [] (some (.int (zI (bI (sDig z))))) [] := by
  refine zCT.of [(0, .int (zI z))] rfl (by decide) rfl (fun h => by first | rfl | cases h) (Nat.le_of_ble_eq_true rfl) (fun X hR => ?_)
  refine zw_iload_n 0 rfl zd_NU_isDigit_0 ?_
  refine zw_bipush rfl zd_NU_isDigit_1 ?_
  refine zw_icmp_lt 16 (by omega) (by omega) zd_NU_isDigit_3 (by decide) (fun c3 => ?_) (fun c3 => ?_)
  · -- 3 -> 16
    refine zw_iconst zd_NU_isDigit_16 ?_
    exact zw_zret hR (by rw [show sDig z = false from decide_eq_false (by omega)]; rfl) rfl rfl rfl (by omega) (by omega) zd_NU_isDigit_17
  · -- 3 -> 6
    refine zw_iload_n 0 rfl zd_NU_isDigit_6 ?_
    refine zw_bipush rfl zd_NU_isDigit_7 ?_
    refine zw_icmp_gt 16 (by omega) (by omega) zd_NU_isDigit_9 (by decide) (fun c9 => ?_) (fun c9 => ?_)
    · -- 9 -> 16
      refine zw_iconst zd_NU_isDigit_16 ?_
      exact zw_zret hR (by rw [show sDig z = false from decide_eq_false (by omega)]; rfl) rfl rfl rfl (by omega) (by omega) zd_NU_isDigit_17
    · -- 9 -> 12
      refine zw_iconst zd_NU_isDigit_12 ?_
      refine zw_goto 17 zd_NU_isDigit_13 (by decide) ?_
      exact zw_zret hR (by rw [show sDig z = true from decide_eq_true (by omega)]; rfl) rfl rfl rfl (by omega) (by omega) zd_NU_isDigit_17
