theorem zJ_div {a b : Int} (ha : 0 ≤ a ∧ a ≤ 9223372036854775807) (hb : 0 < b ∧ b ≤ 9223372036854775807) : zJ a / zJ b = zJ (a / b) := by
  show Int64.ofInt a / Int64.ofInt b = Int64.ofInt (a / b)
  rw [← Int.tdiv_eq_ediv_of_nonneg ha.1, Int64.ofInt_tdiv] <;> first | (show (-9223372036854775808 : Int) ≤ _; omega) | (show _ ≤ (9223372036854775807 : Int); omega)
section zRows2
variable {X : zX} {M : zM} {mc ms k n pc : Nat} {L : List zAt} {lv : List (Nat × Value)} {st : List Value}
theorem zw_ldiv {a b : Int} (ha : 0 ≤ a ∧ a ≤ 9223372036854775807) (hb0 : 0 < b ∧ b ≤ 9223372036854775807) (hd : decode M.1 pc = .ok (.ldiv, 1)) (h : zZ X M mc ms k n L (pc + 1) lv (.long (zJ (a / b)) :: st)) : zZ X M mc ms k n L (pc) lv (.long (zJ b) :: .long (zJ a) :: st) := by
  obtain ⟨p, l, e, R, s, m, args, below, meth, c, G, A, Q⟩ := X
  intro ok H locs ls hH hS hl
  obtain ⟨⟨hx, hb, hml, ho, hts⟩, hr, hlk, hK, hF, hA, hrm, hin⟩ := id ok
  refine lv_ldiv hx hb hd (fun e => ?_) ?_
  · have := (zJ_eq (a := b) (b := 0) (by omega) (by omega)).mp e; omega
  rw [zJ_div ha hb0]
  exact h ok H locs ls hH hS hl
theorem zw_lrem {a b : Int} (ha : 0 ≤ a ∧ a ≤ 9223372036854775807) (hb0 : 0 < b ∧ b ≤ 9223372036854775807) (hd : decode M.1 pc = .ok (.lrem, 1)) (h : zZ X M mc ms k n L (pc + 1) lv (.long (zJ (a % b)) :: st)) : zZ X M mc ms k n L (pc) lv (.long (zJ b) :: .long (zJ a) :: st) := by
  obtain ⟨p, l, e, R, s, m, args, below, meth, c, G, A, Q⟩ := X
  intro ok H locs ls hH hS hl
  obtain ⟨⟨hx, hb, hml, ho, hts⟩, hr, hlk, hK, hF, hA, hrm, hin⟩ := id ok
  refine lv_lrem hx hb hd (fun e => ?_) ?_
  · have := (zJ_eq (a := b) (b := 0) (by omega) (by omega)).mp e; omega
  rw [zJ_div ha hb0, zJ_mul, zJ_sub, show a - a / b * b = a % b by rw [Int.emod_def, Int.mul_comm]]
  exact h ok H locs ls hH hS hl
theorem zw_lshrR {x : Int64} {y : Int32} (hd : decode M.1 pc = .ok (.lshr, 1)) (h : zZ X M mc ms k n L (pc + 1) lv (.long (x >>> (y.toInt64 &&& 63)) :: st)) : zZ X M mc ms k n L (pc) lv (.int y :: .long x :: st) := by
  obtain ⟨p, l, e, R, s, m, args, below, meth, c, G, A, Q⟩ := X
  intro ok H locs ls hH hS hl
  obtain ⟨⟨hx, hb, hml, ho, hts⟩, hr, hlk, hK, hF, hA, hrm, hin⟩ := id ok
  refine lv_lshr hx hb hd rfl ?_
  exact h ok H locs ls hH hS hl
end zRows2
