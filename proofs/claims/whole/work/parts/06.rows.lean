/-! BASE 2: the judgement zZ (the machine's state stands in the goal), rows, contracts, calls -/
abbrev zX : Type := Program × Launch × Env × Room × State × MethodId × Array Value × List Frame × Method × Code × zG × (Nat → Prop) × (State → Prop)
/-- a method: bytes, locals, its class, its answer's type, frames and locals below it, whether it is a constructor -/
abbrev zM : Type := ByteArray × Nat × String × Option FieldType × Nat × Nat × Bool
def zOK (X : zX) (M : zM) (mc ms : Nat) : Prop := match X with
  | (p, _, _, R, s, m, args, _, meth, c, G, A, _) => CallFix p m c M.1 M.2.1 s args zT M.2.2.1 ∧ meth.sig.returnType = M.2.2.2.1 ∧ meth.locks = false ∧ zK G s ∧ zF A s s.heap ∧ (∀ q, s.heap.size ≤ q → A q) ∧ (M.2.2.2.2.1 ≤ R.frames ∧ M.2.2.2.2.2.1 ≤ R.locals ∧ mc ≤ R.cells ∧ ms ≤ R.slots) ∧ (M.2.2.2.2.2.2 = true → meth.name = "<init>")
def zZ (X : zX) (M : zM) (mc ms k n : Nat) (L : List zAt) (pc : Nat) (lv : List (Nat × Value)) (st : List Value) : Prop := match X with
  | (p, l, e, R, s, m, args, below, meth, c, G, A, Q) => zOK (p, l, e, R, s, m, args, below, meth, c, G, A, Q) M mc ms → ∀ (H : Heap) (locs : List Loc) (ls : Array Slot), zHd G A H L → va_S A s.heap H locs → lv_has ls M.2.1 lv → W p l e R s m args below meth c H locs k n Q (F0 m pc ls st)
theorem zI_add (a b : Int) : zI a + zI b = zI (a + b) := (Int32.ofInt_add a b).symm
theorem zI_sub (a b : Int) : zI a - zI b = zI (a - b) := (Int32.ofInt_sub a b).symm
theorem zI_mul (a b : Int) : zI a * zI b = zI (a * b) := (Int32.ofInt_mul a b).symm
theorem zI_neg (a : Int) : -zI a = zI (-a) := Int32.neg_ofInt
theorem zJ_add (a b : Int) : zJ a + zJ b = zJ (a + b) := (Int64.ofInt_add a b).symm
theorem zJ_sub (a b : Int) : zJ a - zJ b = zJ (a - b) := (Int64.ofInt_sub a b).symm
theorem zJ_mul (a b : Int) : zJ a * zJ b = zJ (a * b) := (Int64.ofInt_mul a b).symm
theorem zJ_neg (a : Int) : -zJ a = zJ (-a) := Int64.neg_ofInt
theorem zI_to {a : Int} (h : -2147483648 ≤ a ∧ a ≤ 2147483647) : (zI a).toInt = a := Int32.toInt_ofInt_of_le (by omega) (by omega)
theorem zJ_to {a : Int} (h : -9223372036854775808 ≤ a ∧ a ≤ 9223372036854775807) : (zJ a).toInt = a := Int64.toInt_ofInt_of_le (by omega) (by omega)
theorem zI_lt {a b : Int} (ha : -2147483648 ≤ a ∧ a ≤ 2147483647) (hb : -2147483648 ≤ b ∧ b ≤ 2147483647) : zI a < zI b ↔ a < b := by rw [Int32.lt_iff_toInt_lt, zI_to ha, zI_to hb]
theorem zI_le {a b : Int} (ha : -2147483648 ≤ a ∧ a ≤ 2147483647) (hb : -2147483648 ≤ b ∧ b ≤ 2147483647) : zI a ≤ zI b ↔ a ≤ b := by rw [Int32.le_iff_toInt_le, zI_to ha, zI_to hb]
theorem zI_eq {a b : Int} (ha : -2147483648 ≤ a ∧ a ≤ 2147483647) (hb : -2147483648 ≤ b ∧ b ≤ 2147483647) : zI a = zI b ↔ a = b := by rw [← Int32.toInt_inj, zI_to ha, zI_to hb]
theorem zJ_lt {a b : Int} (ha : -9223372036854775808 ≤ a ∧ a ≤ 9223372036854775807) (hb : -9223372036854775808 ≤ b ∧ b ≤ 9223372036854775807) : zJ a < zJ b ↔ a < b := by rw [Int64.lt_iff_toInt_lt, zJ_to ha, zJ_to hb]
theorem zJ_eq {a b : Int} (ha : -9223372036854775808 ≤ a ∧ a ≤ 9223372036854775807) (hb : -9223372036854775808 ≤ b ∧ b ≤ 9223372036854775807) : zJ a = zJ b ↔ a = b := by rw [← Int64.toInt_inj, zJ_to ha, zJ_to hb]
theorem zI_of (x : Int32) : zI x.toInt = x := Int32.ofInt_toInt x
theorem zI_rg (x : Int32) : -2147483648 ≤ x.toInt ∧ x.toInt ≤ 2147483647 := ⟨x.le_toInt, by have := x.toInt_lt; omega⟩
theorem zI_0 : zI 0 = 0 := rfl
theorem zI_nat (n : Nat) : zI (n : Int) = Int32.ofNat n := Int32.ofInt_eq_ofNat
theorem zI_cl {a : Int} (h : 0 ≤ a ∧ a ≤ 2147483647) : (zI a).toNatClampNeg = a.toNat := Int32.toNatClampNeg_ofInt_of_le (by omega) (by omega)
theorem zI_in {a : Int} {n : Nat} (h : 0 ≤ a ∧ a < n) (hn : n ≤ 2147483647) : vp_in (zI a) n := by
  rw [vp_in_iff, zI_to (by omega)]
  exact h
theorem zI_l {a : Int} (h : -2147483648 ≤ a ∧ a ≤ 2147483647) : (zI a).toInt64 = zJ a := by
  rw [← Int64.toInt_inj, Int32.toInt_toInt64, zI_to h, zJ_to (by omega)]
theorem zJ_i (a : Int) : (zJ a).toInt32 = zI a := Int64.toInt32_ofInt
theorem zI_div {a b : Int} (ha : 0 ≤ a ∧ a ≤ 2147483647) (hb : 0 < b ∧ b ≤ 2147483647) : zI a / zI b = zI (a / b) := by
  show Int32.ofInt a / Int32.ofInt b = Int32.ofInt (a / b)
  rw [← Int.tdiv_eq_ediv_of_nonneg ha.1, Int32.ofInt_tdiv] <;> first | (show (-2147483648 : Int) ≤ _; omega) | (show _ ≤ (2147483647 : Int); omega)
section zRows
variable {X : zX} {M : zM} {mc ms k n pc : Nat} {L : List zAt} {lv : List (Nat × Value)} {st : List Value}
theorem zw_iload_n {i : Fin 4} {x : Int32} (q : Nat) (hq : lv[q]? = some (i.val, .int x)) (hd : decode M.1 pc = .ok (.iload_n i, 1)) (h : zZ X M mc ms k n L (pc + 1) lv (.int x :: st)) : zZ X M mc ms k n L (pc) lv st := by
  obtain ⟨p, l, e, R, s, m, args, below, meth, c, G, A, Q⟩ := X
  intro ok H locs ls hH hS hl
  obtain ⟨⟨hx, hb, hml, ho, hts⟩, hr, hlk, hK, hF, hA, hrm, hin⟩ := id ok
  refine lv_iload_n hx hb hd rfl (lv_at hl q hq) ?_
  exact h ok H locs ls hH hS hl
theorem zw_iload {i : Nat} {x : Int32} (q : Nat) (hq : lv[q]? = some (i, .int x)) (hd : decode M.1 pc = .ok (.iload i, 2)) (h : zZ X M mc ms k n L (pc + 2) lv (.int x :: st)) : zZ X M mc ms k n L (pc) lv st := by
  obtain ⟨p, l, e, R, s, m, args, below, meth, c, G, A, Q⟩ := X
  intro ok H locs ls hH hS hl
  obtain ⟨⟨hx, hb, hml, ho, hts⟩, hr, hlk, hK, hF, hA, hrm, hin⟩ := id ok
  refine lv_iload hx hb hd (lv_at hl q hq) ?_
  exact h ok H locs ls hH hS hl
theorem zw_lload_n {i : Fin 4} {x : Int64} (q : Nat) (hq : lv[q]? = some (i.val, .long x)) (hd : decode M.1 pc = .ok (.lload_n i, 1)) (h : zZ X M mc ms k n L (pc + 1) lv (.long x :: st)) : zZ X M mc ms k n L (pc) lv st := by
  obtain ⟨p, l, e, R, s, m, args, below, meth, c, G, A, Q⟩ := X
  intro ok H locs ls hH hS hl
  obtain ⟨⟨hx, hb, hml, ho, hts⟩, hr, hlk, hK, hF, hA, hrm, hin⟩ := id ok
  refine lv_lload_n hx hb hd rfl (lv_at hl q hq) ?_
  exact h ok H locs ls hH hS hl
theorem zw_lload {i : Nat} {x : Int64} (q : Nat) (hq : lv[q]? = some (i, .long x)) (hd : decode M.1 pc = .ok (.lload i, 2)) (h : zZ X M mc ms k n L (pc + 2) lv (.long x :: st)) : zZ X M mc ms k n L (pc) lv st := by
  obtain ⟨p, l, e, R, s, m, args, below, meth, c, G, A, Q⟩ := X
  intro ok H locs ls hH hS hl
  obtain ⟨⟨hx, hb, hml, ho, hts⟩, hr, hlk, hK, hF, hA, hrm, hin⟩ := id ok
  refine lv_lload hx hb hd (lv_at hl q hq) ?_
  exact h ok H locs ls hH hS hl
theorem zw_aload_n {i : Fin 4} {x : Nat} (q : Nat) (hq : lv[q]? = some (i.val, .ref x)) (hd : decode M.1 pc = .ok (.aload_n i, 1)) (h : zZ X M mc ms k n L (pc + 1) lv (.ref x :: st)) : zZ X M mc ms k n L (pc) lv st := by
  obtain ⟨p, l, e, R, s, m, args, below, meth, c, G, A, Q⟩ := X
  intro ok H locs ls hH hS hl
  obtain ⟨⟨hx, hb, hml, ho, hts⟩, hr, hlk, hK, hF, hA, hrm, hin⟩ := id ok
  refine lv_aload_n hx hb hd rfl (lv_at hl q hq) ?_
  exact h ok H locs ls hH hS hl
theorem zw_aload {i : Nat} {x : Nat} (q : Nat) (hq : lv[q]? = some (i, .ref x)) (hd : decode M.1 pc = .ok (.aload i, 2)) (h : zZ X M mc ms k n L (pc + 2) lv (.ref x :: st)) : zZ X M mc ms k n L (pc) lv st := by
  obtain ⟨p, l, e, R, s, m, args, below, meth, c, G, A, Q⟩ := X
  intro ok H locs ls hH hS hl
  obtain ⟨⟨hx, hb, hml, ho, hts⟩, hr, hlk, hK, hF, hA, hrm, hin⟩ := id ok
  refine lv_aload hx hb hd (lv_at hl q hq) ?_
  exact h ok H locs ls hH hS hl
theorem zw_istore_n {i : Fin 4} {x : Int32} {lv' : List (Nat × Value)} (hn : i.val < M.2.1) (hv : (i.val, Value.int x) :: lv.filter (fun q => !(q.1 == i.val) && !(q.1 + 1 == i.val && q.2.category == 2)) = lv') (hd : decode M.1 pc = .ok (.istore_n i, 1)) (h : zZ X M mc ms k n L (pc + 1) lv' st) : zZ X M mc ms k n L pc lv (.int x :: st) := by
  obtain ⟨p, l, e, R, s, m, args, below, meth, c, G, A, Q⟩ := X
  intro ok H locs ls hH hS hl
  obtain ⟨⟨hx, hb, hml, ho, hts⟩, hr, hlk, hK, hF, hA, hrm, hin⟩ := id ok
  refine lv_istore_n hx hb hd rfl hl hn hv (fun ls hl => ?_)
  exact h ok H locs ls hH hS hl
theorem zw_istore {i : Nat} {x : Int32} {lv' : List (Nat × Value)} (hn : i < M.2.1) (hv : (i, Value.int x) :: lv.filter (fun q => !(q.1 == i) && !(q.1 + 1 == i && q.2.category == 2)) = lv') (hd : decode M.1 pc = .ok (.istore i, 2)) (h : zZ X M mc ms k n L (pc + 2) lv' st) : zZ X M mc ms k n L pc lv (.int x :: st) := by
  obtain ⟨p, l, e, R, s, m, args, below, meth, c, G, A, Q⟩ := X
  intro ok H locs ls hH hS hl
  obtain ⟨⟨hx, hb, hml, ho, hts⟩, hr, hlk, hK, hF, hA, hrm, hin⟩ := id ok
  refine lv_istore hx hb hd hl hn hv (fun ls hl => ?_)
  exact h ok H locs ls hH hS hl
theorem zw_lstore_n {i : Fin 4} {x : Int64} {lv' : List (Nat × Value)} (hn : i.val + 1 < M.2.1) (hv : (i.val, Value.long x) :: lv.filter (fun q => !(q.1 == i.val) && (!(q.1 == i.val + 1) && !(q.1 + 1 == i.val && q.2.category == 2))) = lv') (hd : decode M.1 pc = .ok (.lstore_n i, 1)) (h : zZ X M mc ms k n L (pc + 1) lv' st) : zZ X M mc ms k n L pc lv (.long x :: st) := by
  obtain ⟨p, l, e, R, s, m, args, below, meth, c, G, A, Q⟩ := X
  intro ok H locs ls hH hS hl
  obtain ⟨⟨hx, hb, hml, ho, hts⟩, hr, hlk, hK, hF, hA, hrm, hin⟩ := id ok
  refine lv_lstore_n hx hb hd rfl hl hn hv (fun ls hl => ?_)
  exact h ok H locs ls hH hS hl
theorem zw_lstore {i : Nat} {x : Int64} {lv' : List (Nat × Value)} (hn : i + 1 < M.2.1) (hv : (i, Value.long x) :: lv.filter (fun q => !(q.1 == i) && (!(q.1 == i + 1) && !(q.1 + 1 == i && q.2.category == 2))) = lv') (hd : decode M.1 pc = .ok (.lstore i, 2)) (h : zZ X M mc ms k n L (pc + 2) lv' st) : zZ X M mc ms k n L pc lv (.long x :: st) := by
  obtain ⟨p, l, e, R, s, m, args, below, meth, c, G, A, Q⟩ := X
  intro ok H locs ls hH hS hl
  obtain ⟨⟨hx, hb, hml, ho, hts⟩, hr, hlk, hK, hF, hA, hrm, hin⟩ := id ok
  refine lv_lstore hx hb hd hl hn hv (fun ls hl => ?_)
  exact h ok H locs ls hH hS hl
theorem zw_astore_n {i : Fin 4} {x : Nat} {lv' : List (Nat × Value)} (hn : i.val < M.2.1) (hv : (i.val, Value.ref x) :: lv.filter (fun q => !(q.1 == i.val) && !(q.1 + 1 == i.val && q.2.category == 2)) = lv') (hd : decode M.1 pc = .ok (.astore_n i, 1)) (h : zZ X M mc ms k n L (pc + 1) lv' st) : zZ X M mc ms k n L pc lv (.ref x :: st) := by
  obtain ⟨p, l, e, R, s, m, args, below, meth, c, G, A, Q⟩ := X
  intro ok H locs ls hH hS hl
  obtain ⟨⟨hx, hb, hml, ho, hts⟩, hr, hlk, hK, hF, hA, hrm, hin⟩ := id ok
  refine lv_astore_n hx hb hd rfl hl hn hv (fun ls hl => ?_)
  exact h ok H locs ls hH hS hl
theorem zw_astore {i : Nat} {x : Nat} {lv' : List (Nat × Value)} (hn : i < M.2.1) (hv : (i, Value.ref x) :: lv.filter (fun q => !(q.1 == i) && !(q.1 + 1 == i && q.2.category == 2)) = lv') (hd : decode M.1 pc = .ok (.astore i, 2)) (h : zZ X M mc ms k n L (pc + 2) lv' st) : zZ X M mc ms k n L pc lv (.ref x :: st) := by
  obtain ⟨p, l, e, R, s, m, args, below, meth, c, G, A, Q⟩ := X
  intro ok H locs ls hH hS hl
  obtain ⟨⟨hx, hb, hml, ho, hts⟩, hr, hlk, hK, hF, hA, hrm, hin⟩ := id ok
  refine lv_astore hx hb hd hl hn hv (fun ls hl => ?_)
  exact h ok H locs ls hH hS hl
theorem zw_iinc {i : Nat} {d : Int} {a : Int} {lv' : List (Nat × Value)} (q : Nat) (hq : lv[q]? = some (i, .int (zI a))) (hn : i < M.2.1) (hv : (i, Value.int (zI (a + d))) :: lv.filter (fun q => !(q.1 == i) && !(q.1 + 1 == i && q.2.category == 2)) = lv') (hd : decode M.1 pc = .ok (.iinc i d, 3)) (h : zZ X M mc ms k n L (pc + 3) lv' st) : zZ X M mc ms k n L pc lv st := by
  obtain ⟨p, l, e, R, s, m, args, below, meth, c, G, A, Q⟩ := X
  intro ok H locs ls hH hS hl
  obtain ⟨⟨hx, hb, hml, ho, hts⟩, hr, hlk, hK, hF, hA, hrm, hin⟩ := id ok
  refine lv_iinc (v := zI (a + d)) hx hb hd hl (k := q) hq (zI_add a d) hn hv (fun ls hl => ?_)
  exact h ok H locs ls hH hS hl
theorem zw_iconst {a : Int} (hd : decode M.1 pc = .ok (.iconst a, 1)) (h : zZ X M mc ms k n L (pc + 1) lv (.int (zI a) :: st)) : zZ X M mc ms k n L (pc) lv st := by
  obtain ⟨p, l, e, R, s, m, args, below, meth, c, G, A, Q⟩ := X
  intro ok H locs ls hH hS hl
  obtain ⟨⟨hx, hb, hml, ho, hts⟩, hr, hlk, hK, hF, hA, hrm, hin⟩ := id ok
  refine lv_iconst (v := zI a) hx hb hd rfl ?_
  exact h ok H locs ls hH hS hl
theorem zw_bipush {a : Int} (hv : (Int8.ofInt a).toInt32 = zI a) (hd : decode M.1 pc = .ok (.bipush a, 2)) (h : zZ X M mc ms k n L (pc + 2) lv (.int (zI a) :: st)) : zZ X M mc ms k n L (pc) lv st := by
  obtain ⟨p, l, e, R, s, m, args, below, meth, c, G, A, Q⟩ := X
  intro ok H locs ls hH hS hl
  obtain ⟨⟨hx, hb, hml, ho, hts⟩, hr, hlk, hK, hF, hA, hrm, hin⟩ := id ok
  refine lv_bipush (v := zI a) hx hb hd hv ?_
  exact h ok H locs ls hH hS hl
theorem zw_sipush {a : Int} (hv : (Int16.ofInt a).toInt32 = zI a) (hd : decode M.1 pc = .ok (.sipush a, 3)) (h : zZ X M mc ms k n L (pc + 3) lv (.int (zI a) :: st)) : zZ X M mc ms k n L (pc) lv st := by
  obtain ⟨p, l, e, R, s, m, args, below, meth, c, G, A, Q⟩ := X
  intro ok H locs ls hH hS hl
  obtain ⟨⟨hx, hb, hml, ho, hts⟩, hr, hlk, hK, hF, hA, hrm, hin⟩ := id ok
  refine lv_sipush (v := zI a) hx hb hd hv ?_
  exact h ok H locs ls hH hS hl
theorem zw_lconst {i : Fin 2} {a : Int} (hv : Int64.ofNat i.val = zJ a) (hd : decode M.1 pc = .ok (.lconst i, 1)) (h : zZ X M mc ms k n L (pc + 1) lv (.long (zJ a) :: st)) : zZ X M mc ms k n L (pc) lv st := by
  obtain ⟨p, l, e, R, s, m, args, below, meth, c, G, A, Q⟩ := X
  intro ok H locs ls hH hS hl
  obtain ⟨⟨hx, hb, hml, ho, hts⟩, hr, hlk, hK, hF, hA, hrm, hin⟩ := id ok
  refine lv_lconst (v := zJ a) hx hb hd hv ?_
  exact h ok H locs ls hH hS hl
theorem zw_ldc {x : Int32} {idx : Nat} (hc : Cond.constant M.2.2.1 idx x ∈ zT) (a : Int) (hv : x = zI a) (hd : decode M.1 pc = .ok (.ldc idx, 2)) (h : zZ X M mc ms k n L (pc + 2) lv (.int (zI a) :: st)) : zZ X M mc ms k n L (pc) lv st := by
  obtain ⟨p, l, e, R, s, m, args, below, meth, c, G, A, Q⟩ := X
  intro ok H locs ls hH hS hl
  obtain ⟨⟨hx, hb, hml, ho, hts⟩, hr, hlk, hK, hF, hA, hrm, hin⟩ := id ok
  subst hv
  refine lv_ldc hx hb ho (hts _ hc) hd ?_
  exact h ok H locs ls hH hS hl
theorem zw_ldc2 {x : Int64} {idx : Nat} (hc : Cond.constantLong M.2.2.1 idx x ∈ zT) (a : Int) (hv : x = zJ a) (hd : decode M.1 pc = .ok (.ldc2_w idx, 3)) (h : zZ X M mc ms k n L (pc + 3) lv (.long (zJ a) :: st)) : zZ X M mc ms k n L (pc) lv st := by
  obtain ⟨p, l, e, R, s, m, args, below, meth, c, G, A, Q⟩ := X
  intro ok H locs ls hH hS hl
  obtain ⟨⟨hx, hb, hml, ho, hts⟩, hr, hlk, hK, hF, hA, hrm, hin⟩ := id ok
  subst hv
  refine lv_ldc2 hx hb ho (hts _ hc) hd ?_
  exact h ok H locs ls hH hS hl
theorem zw_iadd {a b : Int} (hd : decode M.1 pc = .ok (.iadd, 1)) (h : zZ X M mc ms k n L (pc + 1) lv (.int (zI (a + b)) :: st)) : zZ X M mc ms k n L (pc) lv (.int (zI b) :: .int (zI a) :: st) := by
  obtain ⟨p, l, e, R, s, m, args, below, meth, c, G, A, Q⟩ := X
  intro ok H locs ls hH hS hl
  obtain ⟨⟨hx, hb, hml, ho, hts⟩, hr, hlk, hK, hF, hA, hrm, hin⟩ := id ok
  refine lv_iadd hx hb hd ?_
  rw [zI_add]
  exact h ok H locs ls hH hS hl
theorem zw_isub {a b : Int} (hd : decode M.1 pc = .ok (.isub, 1)) (h : zZ X M mc ms k n L (pc + 1) lv (.int (zI (a - b)) :: st)) : zZ X M mc ms k n L (pc) lv (.int (zI b) :: .int (zI a) :: st) := by
  obtain ⟨p, l, e, R, s, m, args, below, meth, c, G, A, Q⟩ := X
  intro ok H locs ls hH hS hl
  obtain ⟨⟨hx, hb, hml, ho, hts⟩, hr, hlk, hK, hF, hA, hrm, hin⟩ := id ok
  refine lv_isub hx hb hd ?_
  rw [zI_sub]
  exact h ok H locs ls hH hS hl
theorem zw_imul {a b : Int} (hd : decode M.1 pc = .ok (.imul, 1)) (h : zZ X M mc ms k n L (pc + 1) lv (.int (zI (a * b)) :: st)) : zZ X M mc ms k n L (pc) lv (.int (zI b) :: .int (zI a) :: st) := by
  obtain ⟨p, l, e, R, s, m, args, below, meth, c, G, A, Q⟩ := X
  intro ok H locs ls hH hS hl
  obtain ⟨⟨hx, hb, hml, ho, hts⟩, hr, hlk, hK, hF, hA, hrm, hin⟩ := id ok
  refine lv_imul hx hb hd ?_
  rw [zI_mul]
  exact h ok H locs ls hH hS hl
theorem zw_ineg {a : Int} (hd : decode M.1 pc = .ok (.ineg, 1)) (h : zZ X M mc ms k n L (pc + 1) lv (.int (zI (-a)) :: st)) : zZ X M mc ms k n L (pc) lv (.int (zI a) :: st) := by
  obtain ⟨p, l, e, R, s, m, args, below, meth, c, G, A, Q⟩ := X
  intro ok H locs ls hH hS hl
  obtain ⟨⟨hx, hb, hml, ho, hts⟩, hr, hlk, hK, hF, hA, hrm, hin⟩ := id ok
  refine lv_ineg hx hb hd ?_
  rw [zI_neg]
  exact h ok H locs ls hH hS hl
theorem zw_ladd {a b : Int} (hd : decode M.1 pc = .ok (.ladd, 1)) (h : zZ X M mc ms k n L (pc + 1) lv (.long (zJ (a + b)) :: st)) : zZ X M mc ms k n L (pc) lv (.long (zJ b) :: .long (zJ a) :: st) := by
  obtain ⟨p, l, e, R, s, m, args, below, meth, c, G, A, Q⟩ := X
  intro ok H locs ls hH hS hl
  obtain ⟨⟨hx, hb, hml, ho, hts⟩, hr, hlk, hK, hF, hA, hrm, hin⟩ := id ok
  refine lv_ladd hx hb hd ?_
  rw [zJ_add]
  exact h ok H locs ls hH hS hl
theorem zw_lsub {a b : Int} (hd : decode M.1 pc = .ok (.lsub, 1)) (h : zZ X M mc ms k n L (pc + 1) lv (.long (zJ (a - b)) :: st)) : zZ X M mc ms k n L (pc) lv (.long (zJ b) :: .long (zJ a) :: st) := by
  obtain ⟨p, l, e, R, s, m, args, below, meth, c, G, A, Q⟩ := X
  intro ok H locs ls hH hS hl
  obtain ⟨⟨hx, hb, hml, ho, hts⟩, hr, hlk, hK, hF, hA, hrm, hin⟩ := id ok
  refine lv_lsub hx hb hd ?_
  rw [zJ_sub]
  exact h ok H locs ls hH hS hl
theorem zw_lmul {a b : Int} (hd : decode M.1 pc = .ok (.lmul, 1)) (h : zZ X M mc ms k n L (pc + 1) lv (.long (zJ (a * b)) :: st)) : zZ X M mc ms k n L (pc) lv (.long (zJ b) :: .long (zJ a) :: st) := by
  obtain ⟨p, l, e, R, s, m, args, below, meth, c, G, A, Q⟩ := X
  intro ok H locs ls hH hS hl
  obtain ⟨⟨hx, hb, hml, ho, hts⟩, hr, hlk, hK, hF, hA, hrm, hin⟩ := id ok
  refine lv_lmul hx hb hd ?_
  rw [zJ_mul]
  exact h ok H locs ls hH hS hl
theorem zw_lneg {a : Int} (hd : decode M.1 pc = .ok (.lneg, 1)) (h : zZ X M mc ms k n L (pc + 1) lv (.long (zJ (-a)) :: st)) : zZ X M mc ms k n L (pc) lv (.long (zJ a) :: st) := by
  obtain ⟨p, l, e, R, s, m, args, below, meth, c, G, A, Q⟩ := X
  intro ok H locs ls hH hS hl
  obtain ⟨⟨hx, hb, hml, ho, hts⟩, hr, hlk, hK, hF, hA, hrm, hin⟩ := id ok
  refine lv_lneg hx hb hd ?_
  rw [zJ_neg]
  exact h ok H locs ls hH hS hl
theorem zw_iaddR {x y : Int32} (hd : decode M.1 pc = .ok (.iadd, 1)) (h : zZ X M mc ms k n L (pc + 1) lv (.int (x + y) :: st)) : zZ X M mc ms k n L (pc) lv (.int y :: .int x :: st) := by
  obtain ⟨p, l, e, R, s, m, args, below, meth, c, G, A, Q⟩ := X
  intro ok H locs ls hH hS hl
  obtain ⟨⟨hx, hb, hml, ho, hts⟩, hr, hlk, hK, hF, hA, hrm, hin⟩ := id ok
  refine lv_iadd hx hb hd ?_
  exact h ok H locs ls hH hS hl
theorem zw_isubR {x y : Int32} (hd : decode M.1 pc = .ok (.isub, 1)) (h : zZ X M mc ms k n L (pc + 1) lv (.int (x - y) :: st)) : zZ X M mc ms k n L (pc) lv (.int y :: .int x :: st) := by
  obtain ⟨p, l, e, R, s, m, args, below, meth, c, G, A, Q⟩ := X
  intro ok H locs ls hH hS hl
  obtain ⟨⟨hx, hb, hml, ho, hts⟩, hr, hlk, hK, hF, hA, hrm, hin⟩ := id ok
  refine lv_isub hx hb hd ?_
  exact h ok H locs ls hH hS hl
theorem zw_imulR {x y : Int32} (hd : decode M.1 pc = .ok (.imul, 1)) (h : zZ X M mc ms k n L (pc + 1) lv (.int (x * y) :: st)) : zZ X M mc ms k n L (pc) lv (.int y :: .int x :: st) := by
  obtain ⟨p, l, e, R, s, m, args, below, meth, c, G, A, Q⟩ := X
  intro ok H locs ls hH hS hl
  obtain ⟨⟨hx, hb, hml, ho, hts⟩, hr, hlk, hK, hF, hA, hrm, hin⟩ := id ok
  refine lv_imul hx hb hd ?_
  exact h ok H locs ls hH hS hl
theorem zw_iandR {x y : Int32} (hd : decode M.1 pc = .ok (.iand, 1)) (h : zZ X M mc ms k n L (pc + 1) lv (.int (x &&& y) :: st)) : zZ X M mc ms k n L (pc) lv (.int y :: .int x :: st) := by
  obtain ⟨p, l, e, R, s, m, args, below, meth, c, G, A, Q⟩ := X
  intro ok H locs ls hH hS hl
  obtain ⟨⟨hx, hb, hml, ho, hts⟩, hr, hlk, hK, hF, hA, hrm, hin⟩ := id ok
  refine lv_iand hx hb hd ?_
  exact h ok H locs ls hH hS hl
theorem zw_iorR {x y : Int32} (hd : decode M.1 pc = .ok (.ior, 1)) (h : zZ X M mc ms k n L (pc + 1) lv (.int (x ||| y) :: st)) : zZ X M mc ms k n L (pc) lv (.int y :: .int x :: st) := by
  obtain ⟨p, l, e, R, s, m, args, below, meth, c, G, A, Q⟩ := X
  intro ok H locs ls hH hS hl
  obtain ⟨⟨hx, hb, hml, ho, hts⟩, hr, hlk, hK, hF, hA, hrm, hin⟩ := id ok
  refine lv_ior hx hb hd ?_
  exact h ok H locs ls hH hS hl
theorem zw_ixorR {x y : Int32} (hd : decode M.1 pc = .ok (.ixor, 1)) (h : zZ X M mc ms k n L (pc + 1) lv (.int (x ^^^ y) :: st)) : zZ X M mc ms k n L (pc) lv (.int y :: .int x :: st) := by
  obtain ⟨p, l, e, R, s, m, args, below, meth, c, G, A, Q⟩ := X
  intro ok H locs ls hH hS hl
  obtain ⟨⟨hx, hb, hml, ho, hts⟩, hr, hlk, hK, hF, hA, hrm, hin⟩ := id ok
  refine lv_ixor hx hb hd ?_
  exact h ok H locs ls hH hS hl
theorem zw_laddR {x y : Int64} (hd : decode M.1 pc = .ok (.ladd, 1)) (h : zZ X M mc ms k n L (pc + 1) lv (.long (x + y) :: st)) : zZ X M mc ms k n L (pc) lv (.long y :: .long x :: st) := by
  obtain ⟨p, l, e, R, s, m, args, below, meth, c, G, A, Q⟩ := X
  intro ok H locs ls hH hS hl
  obtain ⟨⟨hx, hb, hml, ho, hts⟩, hr, hlk, hK, hF, hA, hrm, hin⟩ := id ok
  refine lv_ladd hx hb hd ?_
  exact h ok H locs ls hH hS hl
theorem zw_lsubR {x y : Int64} (hd : decode M.1 pc = .ok (.lsub, 1)) (h : zZ X M mc ms k n L (pc + 1) lv (.long (x - y) :: st)) : zZ X M mc ms k n L (pc) lv (.long y :: .long x :: st) := by
  obtain ⟨p, l, e, R, s, m, args, below, meth, c, G, A, Q⟩ := X
  intro ok H locs ls hH hS hl
  obtain ⟨⟨hx, hb, hml, ho, hts⟩, hr, hlk, hK, hF, hA, hrm, hin⟩ := id ok
  refine lv_lsub hx hb hd ?_
  exact h ok H locs ls hH hS hl
theorem zw_lmulR {x y : Int64} (hd : decode M.1 pc = .ok (.lmul, 1)) (h : zZ X M mc ms k n L (pc + 1) lv (.long (x * y) :: st)) : zZ X M mc ms k n L (pc) lv (.long y :: .long x :: st) := by
  obtain ⟨p, l, e, R, s, m, args, below, meth, c, G, A, Q⟩ := X
  intro ok H locs ls hH hS hl
  obtain ⟨⟨hx, hb, hml, ho, hts⟩, hr, hlk, hK, hF, hA, hrm, hin⟩ := id ok
  refine lv_lmul hx hb hd ?_
  exact h ok H locs ls hH hS hl
theorem zw_landR {x y : Int64} (hd : decode M.1 pc = .ok (.land, 1)) (h : zZ X M mc ms k n L (pc + 1) lv (.long (x &&& y) :: st)) : zZ X M mc ms k n L (pc) lv (.long y :: .long x :: st) := by
  obtain ⟨p, l, e, R, s, m, args, below, meth, c, G, A, Q⟩ := X
  intro ok H locs ls hH hS hl
  obtain ⟨⟨hx, hb, hml, ho, hts⟩, hr, hlk, hK, hF, hA, hrm, hin⟩ := id ok
  refine lv_land hx hb hd ?_
  exact h ok H locs ls hH hS hl
theorem zw_lorR {x y : Int64} (hd : decode M.1 pc = .ok (.lor, 1)) (h : zZ X M mc ms k n L (pc + 1) lv (.long (x ||| y) :: st)) : zZ X M mc ms k n L (pc) lv (.long y :: .long x :: st) := by
  obtain ⟨p, l, e, R, s, m, args, below, meth, c, G, A, Q⟩ := X
  intro ok H locs ls hH hS hl
  obtain ⟨⟨hx, hb, hml, ho, hts⟩, hr, hlk, hK, hF, hA, hrm, hin⟩ := id ok
  refine lv_lor hx hb hd ?_
  exact h ok H locs ls hH hS hl
theorem zw_lxorR {x y : Int64} (hd : decode M.1 pc = .ok (.lxor, 1)) (h : zZ X M mc ms k n L (pc + 1) lv (.long (x ^^^ y) :: st)) : zZ X M mc ms k n L (pc) lv (.long y :: .long x :: st) := by
  obtain ⟨p, l, e, R, s, m, args, below, meth, c, G, A, Q⟩ := X
  intro ok H locs ls hH hS hl
  obtain ⟨⟨hx, hb, hml, ho, hts⟩, hr, hlk, hK, hF, hA, hrm, hin⟩ := id ok
  refine lv_lxor hx hb hd ?_
  exact h ok H locs ls hH hS hl
theorem zw_ishlR {x y : Int32} (hd : decode M.1 pc = .ok (.ishl, 1)) (h : zZ X M mc ms k n L (pc + 1) lv (.int (x <<< (y &&& 31)) :: st)) : zZ X M mc ms k n L (pc) lv (.int y :: .int x :: st) := by
  obtain ⟨p, l, e, R, s, m, args, below, meth, c, G, A, Q⟩ := X
  intro ok H locs ls hH hS hl
  obtain ⟨⟨hx, hb, hml, ho, hts⟩, hr, hlk, hK, hF, hA, hrm, hin⟩ := id ok
  refine lv_ishl hx hb hd ?_
  exact h ok H locs ls hH hS hl
theorem zw_ishrR {x y : Int32} (hd : decode M.1 pc = .ok (.ishr, 1)) (h : zZ X M mc ms k n L (pc + 1) lv (.int (x >>> (y &&& 31)) :: st)) : zZ X M mc ms k n L (pc) lv (.int y :: .int x :: st) := by
  obtain ⟨p, l, e, R, s, m, args, below, meth, c, G, A, Q⟩ := X
  intro ok H locs ls hH hS hl
  obtain ⟨⟨hx, hb, hml, ho, hts⟩, hr, hlk, hK, hF, hA, hrm, hin⟩ := id ok
  refine lv_ishr hx hb hd ?_
  exact h ok H locs ls hH hS hl
theorem zw_iushrR {x y : Int32} (hd : decode M.1 pc = .ok (.iushr, 1)) (h : zZ X M mc ms k n L (pc + 1) lv (.int ((x.toUInt32 >>> (y.toUInt32 &&& Int32.toUInt32 31)).toInt32) :: st)) : zZ X M mc ms k n L (pc) lv (.int y :: .int x :: st) := by
  obtain ⟨p, l, e, R, s, m, args, below, meth, c, G, A, Q⟩ := X
  intro ok H locs ls hH hS hl
  obtain ⟨⟨hx, hb, hml, ho, hts⟩, hr, hlk, hK, hF, hA, hrm, hin⟩ := id ok
  refine lv_iushr hx hb hd rfl ?_
  exact h ok H locs ls hH hS hl
theorem zw_lushrR {x : Int64} {y : Int32} (hd : decode M.1 pc = .ok (.lushr, 1)) (h : zZ X M mc ms k n L (pc + 1) lv (.long ((x.toUInt64 >>> (y.toInt64.toUInt64 &&& Int64.toUInt64 63)).toInt64) :: st)) : zZ X M mc ms k n L (pc) lv (.int y :: .long x :: st) := by
  obtain ⟨p, l, e, R, s, m, args, below, meth, c, G, A, Q⟩ := X
  intro ok H locs ls hH hS hl
  obtain ⟨⟨hx, hb, hml, ho, hts⟩, hr, hlk, hK, hF, hA, hrm, hin⟩ := id ok
  refine lv_lushr hx hb hd rfl ?_
  exact h ok H locs ls hH hS hl
theorem zw_lshlR {x : Int64} {y : Int32} (hd : decode M.1 pc = .ok (.lshl, 1)) (h : zZ X M mc ms k n L (pc + 1) lv (.long (x <<< (y.toInt64 &&& 63)) :: st)) : zZ X M mc ms k n L (pc) lv (.int y :: .long x :: st) := by
  obtain ⟨p, l, e, R, s, m, args, below, meth, c, G, A, Q⟩ := X
  intro ok H locs ls hH hS hl
  obtain ⟨⟨hx, hb, hml, ho, hts⟩, hr, hlk, hK, hF, hA, hrm, hin⟩ := id ok
  refine lv_lshl hx hb hd rfl ?_
  exact h ok H locs ls hH hS hl
theorem zw_idiv {a b : Int} (ha : 0 ≤ a ∧ a ≤ 2147483647) (hb0 : 0 < b ∧ b ≤ 2147483647) (hd : decode M.1 pc = .ok (.idiv, 1)) (h : zZ X M mc ms k n L (pc + 1) lv (.int (zI (a / b)) :: st)) : zZ X M mc ms k n L (pc) lv (.int (zI b) :: .int (zI a) :: st) := by
  obtain ⟨p, l, e, R, s, m, args, below, meth, c, G, A, Q⟩ := X
  intro ok H locs ls hH hS hl
  obtain ⟨⟨hx, hb, hml, ho, hts⟩, hr, hlk, hK, hF, hA, hrm, hin⟩ := id ok
  refine lv_idiv hx hb hd (fun e => ?_) ?_
  · have := (zI_eq (a := b) (b := 0) (by omega) (by omega)).mp e; omega
  rw [zI_div ha hb0]
  exact h ok H locs ls hH hS hl
theorem zw_irem {a b : Int} (ha : 0 ≤ a ∧ a ≤ 2147483647) (hb0 : 0 < b ∧ b ≤ 2147483647) (hd : decode M.1 pc = .ok (.irem, 1)) (h : zZ X M mc ms k n L (pc + 1) lv (.int (zI (a % b)) :: st)) : zZ X M mc ms k n L (pc) lv (.int (zI b) :: .int (zI a) :: st) := by
  obtain ⟨p, l, e, R, s, m, args, below, meth, c, G, A, Q⟩ := X
  intro ok H locs ls hH hS hl
  obtain ⟨⟨hx, hb, hml, ho, hts⟩, hr, hlk, hK, hF, hA, hrm, hin⟩ := id ok
  refine lv_irem hx hb hd (fun e => ?_) ?_
  · have := (zI_eq (a := b) (b := 0) (by omega) (by omega)).mp e; omega
  rw [zI_div ha hb0, zI_mul, zI_sub, show a - a / b * b = a % b by rw [Int.emod_def, Int.mul_comm]]
  exact h ok H locs ls hH hS hl
theorem zw_i2l {a : Int} (ha : -2147483648 ≤ a ∧ a ≤ 2147483647) (hd : decode M.1 pc = .ok (.i2l, 1)) (h : zZ X M mc ms k n L (pc + 1) lv (.long (zJ a) :: st)) : zZ X M mc ms k n L (pc) lv (.int (zI a) :: st) := by
  obtain ⟨p, l, e, R, s, m, args, below, meth, c, G, A, Q⟩ := X
  intro ok H locs ls hH hS hl
  obtain ⟨⟨hx, hb, hml, ho, hts⟩, hr, hlk, hK, hF, hA, hrm, hin⟩ := id ok
  refine lv_i2l (v := zJ a) hx hb hd (zI_l ha) ?_
  exact h ok H locs ls hH hS hl
theorem zw_i2lR {x : Int32} (hd : decode M.1 pc = .ok (.i2l, 1)) (h : zZ X M mc ms k n L (pc + 1) lv (.long x.toInt64 :: st)) : zZ X M mc ms k n L (pc) lv (.int x :: st) := by
  obtain ⟨p, l, e, R, s, m, args, below, meth, c, G, A, Q⟩ := X
  intro ok H locs ls hH hS hl
  obtain ⟨⟨hx, hb, hml, ho, hts⟩, hr, hlk, hK, hF, hA, hrm, hin⟩ := id ok
  refine lv_i2l hx hb hd rfl ?_
  exact h ok H locs ls hH hS hl
theorem zw_l2i {a : Int} (hd : decode M.1 pc = .ok (.l2i, 1)) (h : zZ X M mc ms k n L (pc + 1) lv (.int (zI a) :: st)) : zZ X M mc ms k n L (pc) lv (.long (zJ a) :: st) := by
  obtain ⟨p, l, e, R, s, m, args, below, meth, c, G, A, Q⟩ := X
  intro ok H locs ls hH hS hl
  obtain ⟨⟨hx, hb, hml, ho, hts⟩, hr, hlk, hK, hF, hA, hrm, hin⟩ := id ok
  refine lv_l2i (v := zI a) hx hb hd (zJ_i a) ?_
  exact h ok H locs ls hH hS hl
theorem zw_l2iR {x : Int64} (hd : decode M.1 pc = .ok (.l2i, 1)) (h : zZ X M mc ms k n L (pc + 1) lv (.int x.toInt32 :: st)) : zZ X M mc ms k n L (pc) lv (.long x :: st) := by
  obtain ⟨p, l, e, R, s, m, args, below, meth, c, G, A, Q⟩ := X
  intro ok H locs ls hH hS hl
  obtain ⟨⟨hx, hb, hml, ho, hts⟩, hr, hlk, hK, hF, hA, hrm, hin⟩ := id ok
  refine lv_l2i hx hb hd rfl ?_
  exact h ok H locs ls hH hS hl
theorem zw_i2bR {x : Int32} (hd : decode M.1 pc = .ok (.i2b, 1)) (h : zZ X M mc ms k n L (pc + 1) lv (.int x.toInt8.toInt32 :: st)) : zZ X M mc ms k n L (pc) lv (.int x :: st) := by
  obtain ⟨p, l, e, R, s, m, args, below, meth, c, G, A, Q⟩ := X
  intro ok H locs ls hH hS hl
  obtain ⟨⟨hx, hb, hml, ho, hts⟩, hr, hlk, hK, hF, hA, hrm, hin⟩ := id ok
  refine lv_i2b hx hb hd rfl ?_
  exact h ok H locs ls hH hS hl
theorem zw_lcmpR {x y : Int64} (hd : decode M.1 pc = .ok (.lcmp, 1)) (h : zZ X M mc ms k n L (pc + 1) lv (.int (lg_cmp x y) :: st)) : zZ X M mc ms k n L (pc) lv (.long y :: .long x :: st) := by
  obtain ⟨p, l, e, R, s, m, args, below, meth, c, G, A, Q⟩ := X
  intro ok H locs ls hH hS hl
  obtain ⟨⟨hx, hb, hml, ho, hts⟩, hr, hlk, hK, hF, hA, hrm, hin⟩ := id ok
  refine W.lcmp hx hb hd ?_
  exact h ok H locs ls hH hS hl
theorem zw_dup {v : Value} (hv : v.category = 1) (hd : decode M.1 pc = .ok (.dup, 1)) (h : zZ X M mc ms k n L (pc + 1) lv (v :: v :: st)) : zZ X M mc ms k n L (pc) lv (v :: st) := by
  obtain ⟨p, l, e, R, s, m, args, below, meth, c, G, A, Q⟩ := X
  intro ok H locs ls hH hS hl
  obtain ⟨⟨hx, hb, hml, ho, hts⟩, hr, hlk, hK, hF, hA, hrm, hin⟩ := id ok
  refine lv_dup hx hb hd hv ?_
  exact h ok H locs ls hH hS hl
theorem zw_pop {v : Value} (hv : v.category = 1) (hd : decode M.1 pc = .ok (.pop, 1)) (h : zZ X M mc ms k n L (pc + 1) lv st) : zZ X M mc ms k n L (pc) lv (v :: st) := by
  obtain ⟨p, l, e, R, s, m, args, below, meth, c, G, A, Q⟩ := X
  intro ok H locs ls hH hS hl
  obtain ⟨⟨hx, hb, hml, ho, hts⟩, hr, hlk, hK, hF, hA, hrm, hin⟩ := id ok
  refine lv_pop hx hb hd hv ?_
  exact h ok H locs ls hH hS hl
theorem zw_dup_x1 {v w : Value} (hv : v.category = 1) (hw : w.category = 1) (hd : decode M.1 pc = .ok (.dup_x1, 1)) (h : zZ X M mc ms k n L (pc + 1) lv (v :: w :: v :: st)) : zZ X M mc ms k n L (pc) lv (v :: w :: st) := by
  obtain ⟨p, l, e, R, s, m, args, below, meth, c, G, A, Q⟩ := X
  intro ok H locs ls hH hS hl
  obtain ⟨⟨hx, hb, hml, ho, hts⟩, hr, hlk, hK, hF, hA, hrm, hin⟩ := id ok
  refine lv_dup_x1 hx hb hd hv hw ?_
  exact h ok H locs ls hH hS hl
theorem zw_dup_x2 {v w u : Value} (hv : v.category = 1) (hw : w.category = 1) (hu : u.category = 1) (hd : decode M.1 pc = .ok (.dup_x2, 1)) (h : zZ X M mc ms k n L (pc + 1) lv (v :: w :: u :: v :: st)) : zZ X M mc ms k n L (pc) lv (v :: w :: u :: st) := by
  obtain ⟨p, l, e, R, s, m, args, below, meth, c, G, A, Q⟩ := X
  intro ok H locs ls hH hS hl
  obtain ⟨⟨hx, hb, hml, ho, hts⟩, hr, hlk, hK, hF, hA, hrm, hin⟩ := id ok
  refine lv_dup_x2 hx hb hd hv hw hu ?_
  exact h ok H locs ls hH hS hl
theorem zw_dup2 {v w : Value} (hv : v.category = 1) (hw : w.category = 1) (hd : decode M.1 pc = .ok (.dup2, 1)) (h : zZ X M mc ms k n L (pc + 1) lv (v :: w :: v :: w :: st)) : zZ X M mc ms k n L (pc) lv (v :: w :: st) := by
  obtain ⟨p, l, e, R, s, m, args, below, meth, c, G, A, Q⟩ := X
  intro ok H locs ls hH hS hl
  obtain ⟨⟨hx, hb, hml, ho, hts⟩, hr, hlk, hK, hF, hA, hrm, hin⟩ := id ok
  refine lv_dup2_11 hx hb hd hv hw ?_
  exact h ok H locs ls hH hS hl
theorem zw_icmp_eq {a b : Int} {off : Int} (tgt : Nat) (ha : -2147483648 ≤ a ∧ a ≤ 2147483647) (hb0 : -2147483648 ≤ b ∧ b ≤ 2147483647) (hd : decode M.1 pc = .ok (.if_icmp .eq off, 3)) (ht : (pc : Int) + off = (tgt : Int)) (h1 : a = b → zZ X M mc ms k n L tgt lv st) (h2 : a ≠ b → zZ X M mc ms k n L (pc + 3) lv st) : zZ X M mc ms k n L pc lv (.int (zI b) :: .int (zI a) :: st) := by
  obtain ⟨p, l, e, R, s, m, args, below, meth, c, G, A, Q⟩ := X
  intro ok H locs ls hH hS hl
  obtain ⟨⟨hx, hb, hml, ho, hts⟩, hr, hlk, hK, hF, hA, hrm, hin⟩ := id ok
  refine lv_icmp_eq hx hb hd ht (fun hc => ?_) (fun hc => ?_)
  · refine h1 ?_ ok H locs ls hH hS hl
    have e1 := zI_lt ha hb0; have e2 := zI_lt hb0 ha; have e3 := zI_le ha hb0; have e4 := zI_le hb0 ha; have e5 := zI_eq ha hb0
    first | exact e5.mp hc | exact e1.mp hc | exact e2.mp hc | exact e3.mp hc | exact e4.mp hc | exact fun z => hc (e5.mpr z) | exact Int.not_lt.mp (fun z => hc (e1.mpr z)) | exact Int.not_lt.mp (fun z => hc (e2.mpr z)) | exact Int.not_le.mp (fun z => hc (e3.mpr z)) | exact Int.not_le.mp (fun z => hc (e4.mpr z)) | (exact e5.mp (Decidable.of_not_not hc))
  · refine h2 ?_ ok H locs ls hH hS hl
    have e1 := zI_lt ha hb0; have e2 := zI_lt hb0 ha; have e3 := zI_le ha hb0; have e4 := zI_le hb0 ha; have e5 := zI_eq ha hb0
    first | exact e5.mp hc | exact e1.mp hc | exact e2.mp hc | exact e3.mp hc | exact e4.mp hc | exact fun z => hc (e5.mpr z) | exact Int.not_lt.mp (fun z => hc (e1.mpr z)) | exact Int.not_lt.mp (fun z => hc (e2.mpr z)) | exact Int.not_le.mp (fun z => hc (e3.mpr z)) | exact Int.not_le.mp (fun z => hc (e4.mpr z)) | (exact e5.mp (Decidable.of_not_not hc))
theorem zw_icmp_ne {a b : Int} {off : Int} (tgt : Nat) (ha : -2147483648 ≤ a ∧ a ≤ 2147483647) (hb0 : -2147483648 ≤ b ∧ b ≤ 2147483647) (hd : decode M.1 pc = .ok (.if_icmp .ne off, 3)) (ht : (pc : Int) + off = (tgt : Int)) (h1 : a ≠ b → zZ X M mc ms k n L tgt lv st) (h2 : a = b → zZ X M mc ms k n L (pc + 3) lv st) : zZ X M mc ms k n L pc lv (.int (zI b) :: .int (zI a) :: st) := by
  obtain ⟨p, l, e, R, s, m, args, below, meth, c, G, A, Q⟩ := X
  intro ok H locs ls hH hS hl
  obtain ⟨⟨hx, hb, hml, ho, hts⟩, hr, hlk, hK, hF, hA, hrm, hin⟩ := id ok
  refine lv_icmp_ne hx hb hd ht (fun hc => ?_) (fun hc => ?_)
  · refine h1 ?_ ok H locs ls hH hS hl
    have e1 := zI_lt ha hb0; have e2 := zI_lt hb0 ha; have e3 := zI_le ha hb0; have e4 := zI_le hb0 ha; have e5 := zI_eq ha hb0
    first | exact e5.mp hc | exact e1.mp hc | exact e2.mp hc | exact e3.mp hc | exact e4.mp hc | exact fun z => hc (e5.mpr z) | exact Int.not_lt.mp (fun z => hc (e1.mpr z)) | exact Int.not_lt.mp (fun z => hc (e2.mpr z)) | exact Int.not_le.mp (fun z => hc (e3.mpr z)) | exact Int.not_le.mp (fun z => hc (e4.mpr z)) | (exact e5.mp (Decidable.of_not_not hc))
  · refine h2 ?_ ok H locs ls hH hS hl
    have e1 := zI_lt ha hb0; have e2 := zI_lt hb0 ha; have e3 := zI_le ha hb0; have e4 := zI_le hb0 ha; have e5 := zI_eq ha hb0
    first | exact e5.mp hc | exact e1.mp hc | exact e2.mp hc | exact e3.mp hc | exact e4.mp hc | exact fun z => hc (e5.mpr z) | exact Int.not_lt.mp (fun z => hc (e1.mpr z)) | exact Int.not_lt.mp (fun z => hc (e2.mpr z)) | exact Int.not_le.mp (fun z => hc (e3.mpr z)) | exact Int.not_le.mp (fun z => hc (e4.mpr z)) | (exact e5.mp (Decidable.of_not_not hc))
theorem zw_icmp_lt {a b : Int} {off : Int} (tgt : Nat) (ha : -2147483648 ≤ a ∧ a ≤ 2147483647) (hb0 : -2147483648 ≤ b ∧ b ≤ 2147483647) (hd : decode M.1 pc = .ok (.if_icmp .lt off, 3)) (ht : (pc : Int) + off = (tgt : Int)) (h1 : a < b → zZ X M mc ms k n L tgt lv st) (h2 : b ≤ a → zZ X M mc ms k n L (pc + 3) lv st) : zZ X M mc ms k n L pc lv (.int (zI b) :: .int (zI a) :: st) := by
  obtain ⟨p, l, e, R, s, m, args, below, meth, c, G, A, Q⟩ := X
  intro ok H locs ls hH hS hl
  obtain ⟨⟨hx, hb, hml, ho, hts⟩, hr, hlk, hK, hF, hA, hrm, hin⟩ := id ok
  refine lv_icmp_lt hx hb hd ht (fun hc => ?_) (fun hc => ?_)
  · refine h1 ?_ ok H locs ls hH hS hl
    have e1 := zI_lt ha hb0; have e2 := zI_lt hb0 ha; have e3 := zI_le ha hb0; have e4 := zI_le hb0 ha; have e5 := zI_eq ha hb0
    first | exact e5.mp hc | exact e1.mp hc | exact e2.mp hc | exact e3.mp hc | exact e4.mp hc | exact fun z => hc (e5.mpr z) | exact Int.not_lt.mp (fun z => hc (e1.mpr z)) | exact Int.not_lt.mp (fun z => hc (e2.mpr z)) | exact Int.not_le.mp (fun z => hc (e3.mpr z)) | exact Int.not_le.mp (fun z => hc (e4.mpr z)) | (exact e5.mp (Decidable.of_not_not hc))
  · refine h2 ?_ ok H locs ls hH hS hl
    have e1 := zI_lt ha hb0; have e2 := zI_lt hb0 ha; have e3 := zI_le ha hb0; have e4 := zI_le hb0 ha; have e5 := zI_eq ha hb0
    first | exact e5.mp hc | exact e1.mp hc | exact e2.mp hc | exact e3.mp hc | exact e4.mp hc | exact fun z => hc (e5.mpr z) | exact Int.not_lt.mp (fun z => hc (e1.mpr z)) | exact Int.not_lt.mp (fun z => hc (e2.mpr z)) | exact Int.not_le.mp (fun z => hc (e3.mpr z)) | exact Int.not_le.mp (fun z => hc (e4.mpr z)) | (exact e5.mp (Decidable.of_not_not hc))
theorem zw_icmp_ge {a b : Int} {off : Int} (tgt : Nat) (ha : -2147483648 ≤ a ∧ a ≤ 2147483647) (hb0 : -2147483648 ≤ b ∧ b ≤ 2147483647) (hd : decode M.1 pc = .ok (.if_icmp .ge off, 3)) (ht : (pc : Int) + off = (tgt : Int)) (h1 : b ≤ a → zZ X M mc ms k n L tgt lv st) (h2 : a < b → zZ X M mc ms k n L (pc + 3) lv st) : zZ X M mc ms k n L pc lv (.int (zI b) :: .int (zI a) :: st) := by
  obtain ⟨p, l, e, R, s, m, args, below, meth, c, G, A, Q⟩ := X
  intro ok H locs ls hH hS hl
  obtain ⟨⟨hx, hb, hml, ho, hts⟩, hr, hlk, hK, hF, hA, hrm, hin⟩ := id ok
  refine lv_icmp_ge hx hb hd ht (fun hc => ?_) (fun hc => ?_)
  · refine h1 ?_ ok H locs ls hH hS hl
    have e1 := zI_lt ha hb0; have e2 := zI_lt hb0 ha; have e3 := zI_le ha hb0; have e4 := zI_le hb0 ha; have e5 := zI_eq ha hb0
    first | exact e5.mp hc | exact e1.mp hc | exact e2.mp hc | exact e3.mp hc | exact e4.mp hc | exact fun z => hc (e5.mpr z) | exact Int.not_lt.mp (fun z => hc (e1.mpr z)) | exact Int.not_lt.mp (fun z => hc (e2.mpr z)) | exact Int.not_le.mp (fun z => hc (e3.mpr z)) | exact Int.not_le.mp (fun z => hc (e4.mpr z)) | (exact e5.mp (Decidable.of_not_not hc))
  · refine h2 ?_ ok H locs ls hH hS hl
    have e1 := zI_lt ha hb0; have e2 := zI_lt hb0 ha; have e3 := zI_le ha hb0; have e4 := zI_le hb0 ha; have e5 := zI_eq ha hb0
    first | exact e5.mp hc | exact e1.mp hc | exact e2.mp hc | exact e3.mp hc | exact e4.mp hc | exact fun z => hc (e5.mpr z) | exact Int.not_lt.mp (fun z => hc (e1.mpr z)) | exact Int.not_lt.mp (fun z => hc (e2.mpr z)) | exact Int.not_le.mp (fun z => hc (e3.mpr z)) | exact Int.not_le.mp (fun z => hc (e4.mpr z)) | (exact e5.mp (Decidable.of_not_not hc))
theorem zw_icmp_gt {a b : Int} {off : Int} (tgt : Nat) (ha : -2147483648 ≤ a ∧ a ≤ 2147483647) (hb0 : -2147483648 ≤ b ∧ b ≤ 2147483647) (hd : decode M.1 pc = .ok (.if_icmp .gt off, 3)) (ht : (pc : Int) + off = (tgt : Int)) (h1 : b < a → zZ X M mc ms k n L tgt lv st) (h2 : a ≤ b → zZ X M mc ms k n L (pc + 3) lv st) : zZ X M mc ms k n L pc lv (.int (zI b) :: .int (zI a) :: st) := by
  obtain ⟨p, l, e, R, s, m, args, below, meth, c, G, A, Q⟩ := X
  intro ok H locs ls hH hS hl
  obtain ⟨⟨hx, hb, hml, ho, hts⟩, hr, hlk, hK, hF, hA, hrm, hin⟩ := id ok
  refine lv_icmp_gt hx hb hd ht (fun hc => ?_) (fun hc => ?_)
  · refine h1 ?_ ok H locs ls hH hS hl
    have e1 := zI_lt ha hb0; have e2 := zI_lt hb0 ha; have e3 := zI_le ha hb0; have e4 := zI_le hb0 ha; have e5 := zI_eq ha hb0
    first | exact e5.mp hc | exact e1.mp hc | exact e2.mp hc | exact e3.mp hc | exact e4.mp hc | exact fun z => hc (e5.mpr z) | exact Int.not_lt.mp (fun z => hc (e1.mpr z)) | exact Int.not_lt.mp (fun z => hc (e2.mpr z)) | exact Int.not_le.mp (fun z => hc (e3.mpr z)) | exact Int.not_le.mp (fun z => hc (e4.mpr z)) | (exact e5.mp (Decidable.of_not_not hc))
  · refine h2 ?_ ok H locs ls hH hS hl
    have e1 := zI_lt ha hb0; have e2 := zI_lt hb0 ha; have e3 := zI_le ha hb0; have e4 := zI_le hb0 ha; have e5 := zI_eq ha hb0
    first | exact e5.mp hc | exact e1.mp hc | exact e2.mp hc | exact e3.mp hc | exact e4.mp hc | exact fun z => hc (e5.mpr z) | exact Int.not_lt.mp (fun z => hc (e1.mpr z)) | exact Int.not_lt.mp (fun z => hc (e2.mpr z)) | exact Int.not_le.mp (fun z => hc (e3.mpr z)) | exact Int.not_le.mp (fun z => hc (e4.mpr z)) | (exact e5.mp (Decidable.of_not_not hc))
theorem zw_icmp_le {a b : Int} {off : Int} (tgt : Nat) (ha : -2147483648 ≤ a ∧ a ≤ 2147483647) (hb0 : -2147483648 ≤ b ∧ b ≤ 2147483647) (hd : decode M.1 pc = .ok (.if_icmp .le off, 3)) (ht : (pc : Int) + off = (tgt : Int)) (h1 : a ≤ b → zZ X M mc ms k n L tgt lv st) (h2 : b < a → zZ X M mc ms k n L (pc + 3) lv st) : zZ X M mc ms k n L pc lv (.int (zI b) :: .int (zI a) :: st) := by
  obtain ⟨p, l, e, R, s, m, args, below, meth, c, G, A, Q⟩ := X
  intro ok H locs ls hH hS hl
  obtain ⟨⟨hx, hb, hml, ho, hts⟩, hr, hlk, hK, hF, hA, hrm, hin⟩ := id ok
  refine lv_icmp_le hx hb hd ht (fun hc => ?_) (fun hc => ?_)
  · refine h1 ?_ ok H locs ls hH hS hl
    have e1 := zI_lt ha hb0; have e2 := zI_lt hb0 ha; have e3 := zI_le ha hb0; have e4 := zI_le hb0 ha; have e5 := zI_eq ha hb0
    first | exact e5.mp hc | exact e1.mp hc | exact e2.mp hc | exact e3.mp hc | exact e4.mp hc | exact fun z => hc (e5.mpr z) | exact Int.not_lt.mp (fun z => hc (e1.mpr z)) | exact Int.not_lt.mp (fun z => hc (e2.mpr z)) | exact Int.not_le.mp (fun z => hc (e3.mpr z)) | exact Int.not_le.mp (fun z => hc (e4.mpr z)) | (exact e5.mp (Decidable.of_not_not hc))
  · refine h2 ?_ ok H locs ls hH hS hl
    have e1 := zI_lt ha hb0; have e2 := zI_lt hb0 ha; have e3 := zI_le ha hb0; have e4 := zI_le hb0 ha; have e5 := zI_eq ha hb0
    first | exact e5.mp hc | exact e1.mp hc | exact e2.mp hc | exact e3.mp hc | exact e4.mp hc | exact fun z => hc (e5.mpr z) | exact Int.not_lt.mp (fun z => hc (e1.mpr z)) | exact Int.not_lt.mp (fun z => hc (e2.mpr z)) | exact Int.not_le.mp (fun z => hc (e3.mpr z)) | exact Int.not_le.mp (fun z => hc (e4.mpr z)) | (exact e5.mp (Decidable.of_not_not hc))
theorem zw_if_eq {a : Int} {off : Int} (tgt : Nat) (ha : -2147483648 ≤ a ∧ a ≤ 2147483647) (hd : decode M.1 pc = .ok (.ifCond .eq off, 3)) (ht : (pc : Int) + off = (tgt : Int)) (h1 : a = 0 → zZ X M mc ms k n L tgt lv st) (h2 : a ≠ 0 → zZ X M mc ms k n L (pc + 3) lv st) : zZ X M mc ms k n L pc lv (.int (zI a) :: st) := by
  obtain ⟨p, l, e, R, s, m, args, below, meth, c, G, A, Q⟩ := X
  intro ok H locs ls hH hS hl
  obtain ⟨⟨hx, hb, hml, ho, hts⟩, hr, hlk, hK, hF, hA, hrm, hin⟩ := id ok
  have hb0 : -2147483648 ≤ (0 : Int) ∧ (0 : Int) ≤ 2147483647 := by omega
  have e1 := zI_lt ha hb0; have e2 := zI_lt hb0 ha; have e3 := zI_le ha hb0; have e4 := zI_le hb0 ha; have e5 := zI_eq ha hb0
  rw [zI_0] at e1 e2 e3 e4 e5
  refine lv_if_eq hx hb hd ht (fun hc => ?_) (fun hc => ?_)
  · refine h1 ?_ ok H locs ls hH hS hl
    first | exact e5.mp hc | exact e1.mp hc | exact e2.mp hc | exact e3.mp hc | exact e4.mp hc | exact fun z => hc (e5.mpr z) | exact Int.not_lt.mp (fun z => hc (e1.mpr z)) | exact Int.not_lt.mp (fun z => hc (e2.mpr z)) | exact Int.not_le.mp (fun z => hc (e3.mpr z)) | exact Int.not_le.mp (fun z => hc (e4.mpr z)) | (exact e5.mp (Decidable.of_not_not hc))
  · refine h2 ?_ ok H locs ls hH hS hl
    first | exact e5.mp hc | exact e1.mp hc | exact e2.mp hc | exact e3.mp hc | exact e4.mp hc | exact fun z => hc (e5.mpr z) | exact Int.not_lt.mp (fun z => hc (e1.mpr z)) | exact Int.not_lt.mp (fun z => hc (e2.mpr z)) | exact Int.not_le.mp (fun z => hc (e3.mpr z)) | exact Int.not_le.mp (fun z => hc (e4.mpr z)) | (exact e5.mp (Decidable.of_not_not hc))
theorem zw_if_ne {a : Int} {off : Int} (tgt : Nat) (ha : -2147483648 ≤ a ∧ a ≤ 2147483647) (hd : decode M.1 pc = .ok (.ifCond .ne off, 3)) (ht : (pc : Int) + off = (tgt : Int)) (h1 : a ≠ 0 → zZ X M mc ms k n L tgt lv st) (h2 : a = 0 → zZ X M mc ms k n L (pc + 3) lv st) : zZ X M mc ms k n L pc lv (.int (zI a) :: st) := by
  obtain ⟨p, l, e, R, s, m, args, below, meth, c, G, A, Q⟩ := X
  intro ok H locs ls hH hS hl
  obtain ⟨⟨hx, hb, hml, ho, hts⟩, hr, hlk, hK, hF, hA, hrm, hin⟩ := id ok
  have hb0 : -2147483648 ≤ (0 : Int) ∧ (0 : Int) ≤ 2147483647 := by omega
  have e1 := zI_lt ha hb0; have e2 := zI_lt hb0 ha; have e3 := zI_le ha hb0; have e4 := zI_le hb0 ha; have e5 := zI_eq ha hb0
  rw [zI_0] at e1 e2 e3 e4 e5
  refine lv_if_ne hx hb hd ht (fun hc => ?_) (fun hc => ?_)
  · refine h1 ?_ ok H locs ls hH hS hl
    first | exact e5.mp hc | exact e1.mp hc | exact e2.mp hc | exact e3.mp hc | exact e4.mp hc | exact fun z => hc (e5.mpr z) | exact Int.not_lt.mp (fun z => hc (e1.mpr z)) | exact Int.not_lt.mp (fun z => hc (e2.mpr z)) | exact Int.not_le.mp (fun z => hc (e3.mpr z)) | exact Int.not_le.mp (fun z => hc (e4.mpr z)) | (exact e5.mp (Decidable.of_not_not hc))
  · refine h2 ?_ ok H locs ls hH hS hl
    first | exact e5.mp hc | exact e1.mp hc | exact e2.mp hc | exact e3.mp hc | exact e4.mp hc | exact fun z => hc (e5.mpr z) | exact Int.not_lt.mp (fun z => hc (e1.mpr z)) | exact Int.not_lt.mp (fun z => hc (e2.mpr z)) | exact Int.not_le.mp (fun z => hc (e3.mpr z)) | exact Int.not_le.mp (fun z => hc (e4.mpr z)) | (exact e5.mp (Decidable.of_not_not hc))
theorem zw_if_lt {a : Int} {off : Int} (tgt : Nat) (ha : -2147483648 ≤ a ∧ a ≤ 2147483647) (hd : decode M.1 pc = .ok (.ifCond .lt off, 3)) (ht : (pc : Int) + off = (tgt : Int)) (h1 : a < 0 → zZ X M mc ms k n L tgt lv st) (h2 : 0 ≤ a → zZ X M mc ms k n L (pc + 3) lv st) : zZ X M mc ms k n L pc lv (.int (zI a) :: st) := by
  obtain ⟨p, l, e, R, s, m, args, below, meth, c, G, A, Q⟩ := X
  intro ok H locs ls hH hS hl
  obtain ⟨⟨hx, hb, hml, ho, hts⟩, hr, hlk, hK, hF, hA, hrm, hin⟩ := id ok
  have hb0 : -2147483648 ≤ (0 : Int) ∧ (0 : Int) ≤ 2147483647 := by omega
  have e1 := zI_lt ha hb0; have e2 := zI_lt hb0 ha; have e3 := zI_le ha hb0; have e4 := zI_le hb0 ha; have e5 := zI_eq ha hb0
  rw [zI_0] at e1 e2 e3 e4 e5
  refine lv_if_lt hx hb hd ht (fun hc => ?_) (fun hc => ?_)
  · refine h1 ?_ ok H locs ls hH hS hl
    first | exact e5.mp hc | exact e1.mp hc | exact e2.mp hc | exact e3.mp hc | exact e4.mp hc | exact fun z => hc (e5.mpr z) | exact Int.not_lt.mp (fun z => hc (e1.mpr z)) | exact Int.not_lt.mp (fun z => hc (e2.mpr z)) | exact Int.not_le.mp (fun z => hc (e3.mpr z)) | exact Int.not_le.mp (fun z => hc (e4.mpr z)) | (exact e5.mp (Decidable.of_not_not hc))
  · refine h2 ?_ ok H locs ls hH hS hl
    first | exact e5.mp hc | exact e1.mp hc | exact e2.mp hc | exact e3.mp hc | exact e4.mp hc | exact fun z => hc (e5.mpr z) | exact Int.not_lt.mp (fun z => hc (e1.mpr z)) | exact Int.not_lt.mp (fun z => hc (e2.mpr z)) | exact Int.not_le.mp (fun z => hc (e3.mpr z)) | exact Int.not_le.mp (fun z => hc (e4.mpr z)) | (exact e5.mp (Decidable.of_not_not hc))
theorem zw_if_ge {a : Int} {off : Int} (tgt : Nat) (ha : -2147483648 ≤ a ∧ a ≤ 2147483647) (hd : decode M.1 pc = .ok (.ifCond .ge off, 3)) (ht : (pc : Int) + off = (tgt : Int)) (h1 : 0 ≤ a → zZ X M mc ms k n L tgt lv st) (h2 : a < 0 → zZ X M mc ms k n L (pc + 3) lv st) : zZ X M mc ms k n L pc lv (.int (zI a) :: st) := by
  obtain ⟨p, l, e, R, s, m, args, below, meth, c, G, A, Q⟩ := X
  intro ok H locs ls hH hS hl
  obtain ⟨⟨hx, hb, hml, ho, hts⟩, hr, hlk, hK, hF, hA, hrm, hin⟩ := id ok
  have hb0 : -2147483648 ≤ (0 : Int) ∧ (0 : Int) ≤ 2147483647 := by omega
  have e1 := zI_lt ha hb0; have e2 := zI_lt hb0 ha; have e3 := zI_le ha hb0; have e4 := zI_le hb0 ha; have e5 := zI_eq ha hb0
  rw [zI_0] at e1 e2 e3 e4 e5
  refine lv_if_ge hx hb hd ht (fun hc => ?_) (fun hc => ?_)
  · refine h1 ?_ ok H locs ls hH hS hl
    first | exact e5.mp hc | exact e1.mp hc | exact e2.mp hc | exact e3.mp hc | exact e4.mp hc | exact fun z => hc (e5.mpr z) | exact Int.not_lt.mp (fun z => hc (e1.mpr z)) | exact Int.not_lt.mp (fun z => hc (e2.mpr z)) | exact Int.not_le.mp (fun z => hc (e3.mpr z)) | exact Int.not_le.mp (fun z => hc (e4.mpr z)) | (exact e5.mp (Decidable.of_not_not hc))
  · refine h2 ?_ ok H locs ls hH hS hl
    first | exact e5.mp hc | exact e1.mp hc | exact e2.mp hc | exact e3.mp hc | exact e4.mp hc | exact fun z => hc (e5.mpr z) | exact Int.not_lt.mp (fun z => hc (e1.mpr z)) | exact Int.not_lt.mp (fun z => hc (e2.mpr z)) | exact Int.not_le.mp (fun z => hc (e3.mpr z)) | exact Int.not_le.mp (fun z => hc (e4.mpr z)) | (exact e5.mp (Decidable.of_not_not hc))
theorem zw_if_gt {a : Int} {off : Int} (tgt : Nat) (ha : -2147483648 ≤ a ∧ a ≤ 2147483647) (hd : decode M.1 pc = .ok (.ifCond .gt off, 3)) (ht : (pc : Int) + off = (tgt : Int)) (h1 : 0 < a → zZ X M mc ms k n L tgt lv st) (h2 : a ≤ 0 → zZ X M mc ms k n L (pc + 3) lv st) : zZ X M mc ms k n L pc lv (.int (zI a) :: st) := by
  obtain ⟨p, l, e, R, s, m, args, below, meth, c, G, A, Q⟩ := X
  intro ok H locs ls hH hS hl
  obtain ⟨⟨hx, hb, hml, ho, hts⟩, hr, hlk, hK, hF, hA, hrm, hin⟩ := id ok
  have hb0 : -2147483648 ≤ (0 : Int) ∧ (0 : Int) ≤ 2147483647 := by omega
  have e1 := zI_lt ha hb0; have e2 := zI_lt hb0 ha; have e3 := zI_le ha hb0; have e4 := zI_le hb0 ha; have e5 := zI_eq ha hb0
  rw [zI_0] at e1 e2 e3 e4 e5
  refine lv_if_gt hx hb hd ht (fun hc => ?_) (fun hc => ?_)
  · refine h1 ?_ ok H locs ls hH hS hl
    first | exact e5.mp hc | exact e1.mp hc | exact e2.mp hc | exact e3.mp hc | exact e4.mp hc | exact fun z => hc (e5.mpr z) | exact Int.not_lt.mp (fun z => hc (e1.mpr z)) | exact Int.not_lt.mp (fun z => hc (e2.mpr z)) | exact Int.not_le.mp (fun z => hc (e3.mpr z)) | exact Int.not_le.mp (fun z => hc (e4.mpr z)) | (exact e5.mp (Decidable.of_not_not hc))
  · refine h2 ?_ ok H locs ls hH hS hl
    first | exact e5.mp hc | exact e1.mp hc | exact e2.mp hc | exact e3.mp hc | exact e4.mp hc | exact fun z => hc (e5.mpr z) | exact Int.not_lt.mp (fun z => hc (e1.mpr z)) | exact Int.not_lt.mp (fun z => hc (e2.mpr z)) | exact Int.not_le.mp (fun z => hc (e3.mpr z)) | exact Int.not_le.mp (fun z => hc (e4.mpr z)) | (exact e5.mp (Decidable.of_not_not hc))
theorem zw_if_le {a : Int} {off : Int} (tgt : Nat) (ha : -2147483648 ≤ a ∧ a ≤ 2147483647) (hd : decode M.1 pc = .ok (.ifCond .le off, 3)) (ht : (pc : Int) + off = (tgt : Int)) (h1 : a ≤ 0 → zZ X M mc ms k n L tgt lv st) (h2 : 0 < a → zZ X M mc ms k n L (pc + 3) lv st) : zZ X M mc ms k n L pc lv (.int (zI a) :: st) := by
  obtain ⟨p, l, e, R, s, m, args, below, meth, c, G, A, Q⟩ := X
  intro ok H locs ls hH hS hl
  obtain ⟨⟨hx, hb, hml, ho, hts⟩, hr, hlk, hK, hF, hA, hrm, hin⟩ := id ok
  have hb0 : -2147483648 ≤ (0 : Int) ∧ (0 : Int) ≤ 2147483647 := by omega
  have e1 := zI_lt ha hb0; have e2 := zI_lt hb0 ha; have e3 := zI_le ha hb0; have e4 := zI_le hb0 ha; have e5 := zI_eq ha hb0
  rw [zI_0] at e1 e2 e3 e4 e5
  refine lv_if_le hx hb hd ht (fun hc => ?_) (fun hc => ?_)
  · refine h1 ?_ ok H locs ls hH hS hl
    first | exact e5.mp hc | exact e1.mp hc | exact e2.mp hc | exact e3.mp hc | exact e4.mp hc | exact fun z => hc (e5.mpr z) | exact Int.not_lt.mp (fun z => hc (e1.mpr z)) | exact Int.not_lt.mp (fun z => hc (e2.mpr z)) | exact Int.not_le.mp (fun z => hc (e3.mpr z)) | exact Int.not_le.mp (fun z => hc (e4.mpr z)) | (exact e5.mp (Decidable.of_not_not hc))
  · refine h2 ?_ ok H locs ls hH hS hl
    first | exact e5.mp hc | exact e1.mp hc | exact e2.mp hc | exact e3.mp hc | exact e4.mp hc | exact fun z => hc (e5.mpr z) | exact Int.not_lt.mp (fun z => hc (e1.mpr z)) | exact Int.not_lt.mp (fun z => hc (e2.mpr z)) | exact Int.not_le.mp (fun z => hc (e3.mpr z)) | exact Int.not_le.mp (fun z => hc (e4.mpr z)) | (exact e5.mp (Decidable.of_not_not hc))
theorem zw_lif_eq {a b : Int} {off : Int} (tgt : Nat) (ha : -9223372036854775808 ≤ a ∧ a ≤ 9223372036854775807) (hb0 : -9223372036854775808 ≤ b ∧ b ≤ 9223372036854775807) (hd : decode M.1 pc = .ok (.ifCond .eq off, 3)) (ht : (pc : Int) + off = (tgt : Int)) (h1 : a = b → zZ X M mc ms k n L tgt lv st) (h2 : a ≠ b → zZ X M mc ms k n L (pc + 3) lv st) : zZ X M mc ms k n L pc lv (.int (lg_cmp (zJ a) (zJ b)) :: st) := by
  obtain ⟨p, l, e, R, s, m, args, below, meth, c, G, A, Q⟩ := X
  intro ok H locs ls hH hS hl
  obtain ⟨⟨hx, hb, hml, ho, hts⟩, hr, hlk, hK, hF, hA, hrm, hin⟩ := id ok
  have g1 := lg_cmp_lt (zJ a) (zJ b); have g2 := lg_cmp_ge (zJ a) (zJ b); have g3 := lg_cmp_gt (zJ a) (zJ b); have g4 := lg_cmp_le (zJ a) (zJ b); have g5 := lg_cmp_eq (zJ a) (zJ b)
  rw [Int64.lt_iff_toInt_lt, zJ_to ha, zJ_to hb0] at g1
  rw [Int64.le_iff_toInt_le, zJ_to ha, zJ_to hb0] at g2
  rw [Int64.lt_iff_toInt_lt, zJ_to ha, zJ_to hb0] at g3
  rw [Int64.le_iff_toInt_le, zJ_to ha, zJ_to hb0] at g4
  rw [← Int64.toInt_inj, zJ_to ha, zJ_to hb0] at g5
  refine lv_if_eq hx hb hd ht (fun hc => ?_) (fun hc => ?_)
  · refine h1 ?_ ok H locs ls hH hS hl
    first | exact g5.mp hc | exact g1.mp hc | exact g2.mp hc | exact g3.mp hc | exact g4.mp hc | exact fun z => hc (g5.mpr z) | exact Int.not_lt.mp (fun z => hc (g1.mpr z)) | exact Int.not_le.mp (fun z => hc (g2.mpr z)) | exact Int.not_lt.mp (fun z => hc (g3.mpr z)) | exact Int.not_le.mp (fun z => hc (g4.mpr z)) | (exact g5.mp (Decidable.of_not_not hc))
  · refine h2 ?_ ok H locs ls hH hS hl
    first | exact g5.mp hc | exact g1.mp hc | exact g2.mp hc | exact g3.mp hc | exact g4.mp hc | exact fun z => hc (g5.mpr z) | exact Int.not_lt.mp (fun z => hc (g1.mpr z)) | exact Int.not_le.mp (fun z => hc (g2.mpr z)) | exact Int.not_lt.mp (fun z => hc (g3.mpr z)) | exact Int.not_le.mp (fun z => hc (g4.mpr z)) | (exact g5.mp (Decidable.of_not_not hc))
theorem zw_lif_ne {a b : Int} {off : Int} (tgt : Nat) (ha : -9223372036854775808 ≤ a ∧ a ≤ 9223372036854775807) (hb0 : -9223372036854775808 ≤ b ∧ b ≤ 9223372036854775807) (hd : decode M.1 pc = .ok (.ifCond .ne off, 3)) (ht : (pc : Int) + off = (tgt : Int)) (h1 : a ≠ b → zZ X M mc ms k n L tgt lv st) (h2 : a = b → zZ X M mc ms k n L (pc + 3) lv st) : zZ X M mc ms k n L pc lv (.int (lg_cmp (zJ a) (zJ b)) :: st) := by
  obtain ⟨p, l, e, R, s, m, args, below, meth, c, G, A, Q⟩ := X
  intro ok H locs ls hH hS hl
  obtain ⟨⟨hx, hb, hml, ho, hts⟩, hr, hlk, hK, hF, hA, hrm, hin⟩ := id ok
  have g1 := lg_cmp_lt (zJ a) (zJ b); have g2 := lg_cmp_ge (zJ a) (zJ b); have g3 := lg_cmp_gt (zJ a) (zJ b); have g4 := lg_cmp_le (zJ a) (zJ b); have g5 := lg_cmp_eq (zJ a) (zJ b)
  rw [Int64.lt_iff_toInt_lt, zJ_to ha, zJ_to hb0] at g1
  rw [Int64.le_iff_toInt_le, zJ_to ha, zJ_to hb0] at g2
  rw [Int64.lt_iff_toInt_lt, zJ_to ha, zJ_to hb0] at g3
  rw [Int64.le_iff_toInt_le, zJ_to ha, zJ_to hb0] at g4
  rw [← Int64.toInt_inj, zJ_to ha, zJ_to hb0] at g5
  refine lv_if_ne hx hb hd ht (fun hc => ?_) (fun hc => ?_)
  · refine h1 ?_ ok H locs ls hH hS hl
    first | exact g5.mp hc | exact g1.mp hc | exact g2.mp hc | exact g3.mp hc | exact g4.mp hc | exact fun z => hc (g5.mpr z) | exact Int.not_lt.mp (fun z => hc (g1.mpr z)) | exact Int.not_le.mp (fun z => hc (g2.mpr z)) | exact Int.not_lt.mp (fun z => hc (g3.mpr z)) | exact Int.not_le.mp (fun z => hc (g4.mpr z)) | (exact g5.mp (Decidable.of_not_not hc))
  · refine h2 ?_ ok H locs ls hH hS hl
    first | exact g5.mp hc | exact g1.mp hc | exact g2.mp hc | exact g3.mp hc | exact g4.mp hc | exact fun z => hc (g5.mpr z) | exact Int.not_lt.mp (fun z => hc (g1.mpr z)) | exact Int.not_le.mp (fun z => hc (g2.mpr z)) | exact Int.not_lt.mp (fun z => hc (g3.mpr z)) | exact Int.not_le.mp (fun z => hc (g4.mpr z)) | (exact g5.mp (Decidable.of_not_not hc))
theorem zw_lif_lt {a b : Int} {off : Int} (tgt : Nat) (ha : -9223372036854775808 ≤ a ∧ a ≤ 9223372036854775807) (hb0 : -9223372036854775808 ≤ b ∧ b ≤ 9223372036854775807) (hd : decode M.1 pc = .ok (.ifCond .lt off, 3)) (ht : (pc : Int) + off = (tgt : Int)) (h1 : a < b → zZ X M mc ms k n L tgt lv st) (h2 : b ≤ a → zZ X M mc ms k n L (pc + 3) lv st) : zZ X M mc ms k n L pc lv (.int (lg_cmp (zJ a) (zJ b)) :: st) := by
  obtain ⟨p, l, e, R, s, m, args, below, meth, c, G, A, Q⟩ := X
  intro ok H locs ls hH hS hl
  obtain ⟨⟨hx, hb, hml, ho, hts⟩, hr, hlk, hK, hF, hA, hrm, hin⟩ := id ok
  have g1 := lg_cmp_lt (zJ a) (zJ b); have g2 := lg_cmp_ge (zJ a) (zJ b); have g3 := lg_cmp_gt (zJ a) (zJ b); have g4 := lg_cmp_le (zJ a) (zJ b); have g5 := lg_cmp_eq (zJ a) (zJ b)
  rw [Int64.lt_iff_toInt_lt, zJ_to ha, zJ_to hb0] at g1
  rw [Int64.le_iff_toInt_le, zJ_to ha, zJ_to hb0] at g2
  rw [Int64.lt_iff_toInt_lt, zJ_to ha, zJ_to hb0] at g3
  rw [Int64.le_iff_toInt_le, zJ_to ha, zJ_to hb0] at g4
  rw [← Int64.toInt_inj, zJ_to ha, zJ_to hb0] at g5
  refine lv_if_lt hx hb hd ht (fun hc => ?_) (fun hc => ?_)
  · refine h1 ?_ ok H locs ls hH hS hl
    first | exact g5.mp hc | exact g1.mp hc | exact g2.mp hc | exact g3.mp hc | exact g4.mp hc | exact fun z => hc (g5.mpr z) | exact Int.not_lt.mp (fun z => hc (g1.mpr z)) | exact Int.not_le.mp (fun z => hc (g2.mpr z)) | exact Int.not_lt.mp (fun z => hc (g3.mpr z)) | exact Int.not_le.mp (fun z => hc (g4.mpr z)) | (exact g5.mp (Decidable.of_not_not hc))
  · refine h2 ?_ ok H locs ls hH hS hl
    first | exact g5.mp hc | exact g1.mp hc | exact g2.mp hc | exact g3.mp hc | exact g4.mp hc | exact fun z => hc (g5.mpr z) | exact Int.not_lt.mp (fun z => hc (g1.mpr z)) | exact Int.not_le.mp (fun z => hc (g2.mpr z)) | exact Int.not_lt.mp (fun z => hc (g3.mpr z)) | exact Int.not_le.mp (fun z => hc (g4.mpr z)) | (exact g5.mp (Decidable.of_not_not hc))
theorem zw_lif_ge {a b : Int} {off : Int} (tgt : Nat) (ha : -9223372036854775808 ≤ a ∧ a ≤ 9223372036854775807) (hb0 : -9223372036854775808 ≤ b ∧ b ≤ 9223372036854775807) (hd : decode M.1 pc = .ok (.ifCond .ge off, 3)) (ht : (pc : Int) + off = (tgt : Int)) (h1 : b ≤ a → zZ X M mc ms k n L tgt lv st) (h2 : a < b → zZ X M mc ms k n L (pc + 3) lv st) : zZ X M mc ms k n L pc lv (.int (lg_cmp (zJ a) (zJ b)) :: st) := by
  obtain ⟨p, l, e, R, s, m, args, below, meth, c, G, A, Q⟩ := X
  intro ok H locs ls hH hS hl
  obtain ⟨⟨hx, hb, hml, ho, hts⟩, hr, hlk, hK, hF, hA, hrm, hin⟩ := id ok
  have g1 := lg_cmp_lt (zJ a) (zJ b); have g2 := lg_cmp_ge (zJ a) (zJ b); have g3 := lg_cmp_gt (zJ a) (zJ b); have g4 := lg_cmp_le (zJ a) (zJ b); have g5 := lg_cmp_eq (zJ a) (zJ b)
  rw [Int64.lt_iff_toInt_lt, zJ_to ha, zJ_to hb0] at g1
  rw [Int64.le_iff_toInt_le, zJ_to ha, zJ_to hb0] at g2
  rw [Int64.lt_iff_toInt_lt, zJ_to ha, zJ_to hb0] at g3
  rw [Int64.le_iff_toInt_le, zJ_to ha, zJ_to hb0] at g4
  rw [← Int64.toInt_inj, zJ_to ha, zJ_to hb0] at g5
  refine lv_if_ge hx hb hd ht (fun hc => ?_) (fun hc => ?_)
  · refine h1 ?_ ok H locs ls hH hS hl
    first | exact g5.mp hc | exact g1.mp hc | exact g2.mp hc | exact g3.mp hc | exact g4.mp hc | exact fun z => hc (g5.mpr z) | exact Int.not_lt.mp (fun z => hc (g1.mpr z)) | exact Int.not_le.mp (fun z => hc (g2.mpr z)) | exact Int.not_lt.mp (fun z => hc (g3.mpr z)) | exact Int.not_le.mp (fun z => hc (g4.mpr z)) | (exact g5.mp (Decidable.of_not_not hc))
  · refine h2 ?_ ok H locs ls hH hS hl
    first | exact g5.mp hc | exact g1.mp hc | exact g2.mp hc | exact g3.mp hc | exact g4.mp hc | exact fun z => hc (g5.mpr z) | exact Int.not_lt.mp (fun z => hc (g1.mpr z)) | exact Int.not_le.mp (fun z => hc (g2.mpr z)) | exact Int.not_lt.mp (fun z => hc (g3.mpr z)) | exact Int.not_le.mp (fun z => hc (g4.mpr z)) | (exact g5.mp (Decidable.of_not_not hc))
theorem zw_lif_gt {a b : Int} {off : Int} (tgt : Nat) (ha : -9223372036854775808 ≤ a ∧ a ≤ 9223372036854775807) (hb0 : -9223372036854775808 ≤ b ∧ b ≤ 9223372036854775807) (hd : decode M.1 pc = .ok (.ifCond .gt off, 3)) (ht : (pc : Int) + off = (tgt : Int)) (h1 : b < a → zZ X M mc ms k n L tgt lv st) (h2 : a ≤ b → zZ X M mc ms k n L (pc + 3) lv st) : zZ X M mc ms k n L pc lv (.int (lg_cmp (zJ a) (zJ b)) :: st) := by
  obtain ⟨p, l, e, R, s, m, args, below, meth, c, G, A, Q⟩ := X
  intro ok H locs ls hH hS hl
  obtain ⟨⟨hx, hb, hml, ho, hts⟩, hr, hlk, hK, hF, hA, hrm, hin⟩ := id ok
  have g1 := lg_cmp_lt (zJ a) (zJ b); have g2 := lg_cmp_ge (zJ a) (zJ b); have g3 := lg_cmp_gt (zJ a) (zJ b); have g4 := lg_cmp_le (zJ a) (zJ b); have g5 := lg_cmp_eq (zJ a) (zJ b)
  rw [Int64.lt_iff_toInt_lt, zJ_to ha, zJ_to hb0] at g1
  rw [Int64.le_iff_toInt_le, zJ_to ha, zJ_to hb0] at g2
  rw [Int64.lt_iff_toInt_lt, zJ_to ha, zJ_to hb0] at g3
  rw [Int64.le_iff_toInt_le, zJ_to ha, zJ_to hb0] at g4
  rw [← Int64.toInt_inj, zJ_to ha, zJ_to hb0] at g5
  refine lv_if_gt hx hb hd ht (fun hc => ?_) (fun hc => ?_)
  · refine h1 ?_ ok H locs ls hH hS hl
    first | exact g5.mp hc | exact g1.mp hc | exact g2.mp hc | exact g3.mp hc | exact g4.mp hc | exact fun z => hc (g5.mpr z) | exact Int.not_lt.mp (fun z => hc (g1.mpr z)) | exact Int.not_le.mp (fun z => hc (g2.mpr z)) | exact Int.not_lt.mp (fun z => hc (g3.mpr z)) | exact Int.not_le.mp (fun z => hc (g4.mpr z)) | (exact g5.mp (Decidable.of_not_not hc))
  · refine h2 ?_ ok H locs ls hH hS hl
    first | exact g5.mp hc | exact g1.mp hc | exact g2.mp hc | exact g3.mp hc | exact g4.mp hc | exact fun z => hc (g5.mpr z) | exact Int.not_lt.mp (fun z => hc (g1.mpr z)) | exact Int.not_le.mp (fun z => hc (g2.mpr z)) | exact Int.not_lt.mp (fun z => hc (g3.mpr z)) | exact Int.not_le.mp (fun z => hc (g4.mpr z)) | (exact g5.mp (Decidable.of_not_not hc))
theorem zw_lif_le {a b : Int} {off : Int} (tgt : Nat) (ha : -9223372036854775808 ≤ a ∧ a ≤ 9223372036854775807) (hb0 : -9223372036854775808 ≤ b ∧ b ≤ 9223372036854775807) (hd : decode M.1 pc = .ok (.ifCond .le off, 3)) (ht : (pc : Int) + off = (tgt : Int)) (h1 : a ≤ b → zZ X M mc ms k n L tgt lv st) (h2 : b < a → zZ X M mc ms k n L (pc + 3) lv st) : zZ X M mc ms k n L pc lv (.int (lg_cmp (zJ a) (zJ b)) :: st) := by
  obtain ⟨p, l, e, R, s, m, args, below, meth, c, G, A, Q⟩ := X
  intro ok H locs ls hH hS hl
  obtain ⟨⟨hx, hb, hml, ho, hts⟩, hr, hlk, hK, hF, hA, hrm, hin⟩ := id ok
  have g1 := lg_cmp_lt (zJ a) (zJ b); have g2 := lg_cmp_ge (zJ a) (zJ b); have g3 := lg_cmp_gt (zJ a) (zJ b); have g4 := lg_cmp_le (zJ a) (zJ b); have g5 := lg_cmp_eq (zJ a) (zJ b)
  rw [Int64.lt_iff_toInt_lt, zJ_to ha, zJ_to hb0] at g1
  rw [Int64.le_iff_toInt_le, zJ_to ha, zJ_to hb0] at g2
  rw [Int64.lt_iff_toInt_lt, zJ_to ha, zJ_to hb0] at g3
  rw [Int64.le_iff_toInt_le, zJ_to ha, zJ_to hb0] at g4
  rw [← Int64.toInt_inj, zJ_to ha, zJ_to hb0] at g5
  refine lv_if_le hx hb hd ht (fun hc => ?_) (fun hc => ?_)
  · refine h1 ?_ ok H locs ls hH hS hl
    first | exact g5.mp hc | exact g1.mp hc | exact g2.mp hc | exact g3.mp hc | exact g4.mp hc | exact fun z => hc (g5.mpr z) | exact Int.not_lt.mp (fun z => hc (g1.mpr z)) | exact Int.not_le.mp (fun z => hc (g2.mpr z)) | exact Int.not_lt.mp (fun z => hc (g3.mpr z)) | exact Int.not_le.mp (fun z => hc (g4.mpr z)) | (exact g5.mp (Decidable.of_not_not hc))
  · refine h2 ?_ ok H locs ls hH hS hl
    first | exact g5.mp hc | exact g1.mp hc | exact g2.mp hc | exact g3.mp hc | exact g4.mp hc | exact fun z => hc (g5.mpr z) | exact Int.not_lt.mp (fun z => hc (g1.mpr z)) | exact Int.not_le.mp (fun z => hc (g2.mpr z)) | exact Int.not_lt.mp (fun z => hc (g3.mpr z)) | exact Int.not_le.mp (fun z => hc (g4.mpr z)) | (exact g5.mp (Decidable.of_not_not hc))
theorem zw_icmp_eqR {x y : Int32} {off : Int} (tgt : Nat) (hd : decode M.1 pc = .ok (.if_icmp .eq off, 3)) (ht : (pc : Int) + off = (tgt : Int)) (h1 : x = y → zZ X M mc ms k n L tgt lv st) (h2 : x ≠ y → zZ X M mc ms k n L (pc + 3) lv st) : zZ X M mc ms k n L pc lv (.int y :: .int x :: st) := by
  obtain ⟨p, l, e, R, s, m, args, below, meth, c, G, A, Q⟩ := X
  intro ok H locs ls hH hS hl
  obtain ⟨⟨hx, hb, hml, ho, hts⟩, hr, hlk, hK, hF, hA, hrm, hin⟩ := id ok
  refine lv_icmp_eq hx hb hd ht (fun hc => ?_) (fun hc => ?_)
  · exact h1 (by first | exact hc | exact Decidable.of_not_not hc) ok H locs ls hH hS hl
  · exact h2 (by first | exact hc | exact Decidable.of_not_not hc) ok H locs ls hH hS hl
theorem zw_icmp_neR {x y : Int32} {off : Int} (tgt : Nat) (hd : decode M.1 pc = .ok (.if_icmp .ne off, 3)) (ht : (pc : Int) + off = (tgt : Int)) (h1 : x ≠ y → zZ X M mc ms k n L tgt lv st) (h2 : x = y → zZ X M mc ms k n L (pc + 3) lv st) : zZ X M mc ms k n L pc lv (.int y :: .int x :: st) := by
  obtain ⟨p, l, e, R, s, m, args, below, meth, c, G, A, Q⟩ := X
  intro ok H locs ls hH hS hl
  obtain ⟨⟨hx, hb, hml, ho, hts⟩, hr, hlk, hK, hF, hA, hrm, hin⟩ := id ok
  refine lv_icmp_ne hx hb hd ht (fun hc => ?_) (fun hc => ?_)
  · exact h1 (by first | exact hc | exact Decidable.of_not_not hc) ok H locs ls hH hS hl
  · exact h2 (by first | exact hc | exact Decidable.of_not_not hc) ok H locs ls hH hS hl
theorem zw_goto {off : Int} (tgt : Nat) (hd : decode M.1 pc = .ok (.goto off, 3)) (ht : (pc : Int) + off = (tgt : Int)) (h : zZ X M mc ms k n L tgt lv st) : zZ X M mc ms k n L pc lv st := by
  obtain ⟨p, l, e, R, s, m, args, below, meth, c, G, A, Q⟩ := X
  intro ok H locs ls hH hS hl
  obtain ⟨⟨hx, hb, hml, ho, hts⟩, hr, hlk, hK, hF, hA, hrm, hin⟩ := id ok
  refine lv_goto hx hb hd ht ?_
  exact h ok H locs ls hH hS hl
theorem zw_lookup {dflt : Int} {ps : Array (Int × Int)} {len : Nat} {a : Int} {off : Int} (tgt : Nat) (ha : -2147483648 ≤ a ∧ a ≤ 2147483647) (hd : decode M.1 pc = .ok (.lookupswitch dflt ps, len)) (hp : (ps.toList.zip (ps.toList.drop 1)).all (fun (a, next) => a.1 < next.1) = true) (hof : Op.lookupswitch.offset ps.toList dflt a = off) (ht : (pc : Int) + off = (tgt : Int)) (h : zZ X M mc ms k n L tgt lv st) : zZ X M mc ms k n L pc lv (.int (zI a) :: st) := by
  obtain ⟨p, l, e, R, s, m, args, below, meth, c, G, A, Q⟩ := X
  intro ok H locs ls hH hS hl
  obtain ⟨⟨hx, hb, hml, ho, hts⟩, hr, hlk, hK, hF, hA, hrm, hin⟩ := id ok
  refine lv_lookup hx hb hd hp (by rw [zI_to ha]; exact hof) ht ?_
  exact h ok H locs ls hH hS hl
theorem zw_tableOut {dflt lo hi : Int} {offs : Array Int} {len : Nat} {a : Int} (tgt : Nat) (ha : -2147483648 ≤ a ∧ a ≤ 2147483647) (hd : decode M.1 pc = .ok (.tableswitch dflt lo hi offs, len)) (hof : a < lo ∨ hi < a) (ht : (pc : Int) + dflt = (tgt : Int)) (h : zZ X M mc ms k n L tgt lv st) : zZ X M mc ms k n L pc lv (.int (zI a) :: st) := by
  obtain ⟨p, l, e, R, s, m, args, below, meth, c, G, A, Q⟩ := X
  intro ok H locs ls hH hS hl
  obtain ⟨⟨hx, hb, hml, ho, hts⟩, hr, hlk, hK, hF, hA, hrm, hin⟩ := id ok
  refine lv_tableOut hx hb hd (by rw [zI_to ha]; exact hof) ht ?_
  exact h ok H locs ls hH hS hl
theorem zw_tableIn {dflt lo hi : Int} {offs : Array Int} {len : Nat} {a : Int} {off : Int} (tgt : Nat) (ha : -2147483648 ≤ a ∧ a ≤ 2147483647) (hd : decode M.1 pc = .ok (.tableswitch dflt lo hi offs, len)) (h1 : lo ≤ a ∧ a ≤ hi) (hof : offs[(a - lo).toNat]? = some off) (ht : (pc : Int) + off = (tgt : Int)) (h : zZ X M mc ms k n L tgt lv st) : zZ X M mc ms k n L pc lv (.int (zI a) :: st) := by
  obtain ⟨p, l, e, R, s, m, args, below, meth, c, G, A, Q⟩ := X
  intro ok H locs ls hH hS hl
  obtain ⟨⟨hx, hb, hml, ho, hts⟩, hr, hlk, hK, hF, hA, hrm, hin⟩ := id ok
  refine lv_tableIn hx hb hd (by rw [zI_to ha]; omega) (by rw [zI_to ha]; omega) (by rw [zI_to ha]; exact hof) ht ?_
  exact h ok H locs ls hH hS hl
theorem zw_eqs {st' : List Value} (e : st = st') (h : zZ X M mc ms k n L pc lv st') : zZ X M mc ms k n L pc lv st := e ▸ h
theorem zw_eqL {L' : List zAt} (e : L = L') (h : zZ X M mc ms k n L' pc lv st) : zZ X M mc ms k n L pc lv st := e ▸ h
theorem zw_eqv {lv' : List (Nat × Value)} (e : lv = lv') (h : zZ X M mc ms k n L pc lv' st) : zZ X M mc ms k n L pc lv st := e ▸ h
theorem zw_topI {x : Int32} (h : ∀ y : Int32, y = x → zZ X M mc ms k n L pc lv (.int y :: st)) : zZ X M mc ms k n L pc lv (.int x :: st) := h x rfl
theorem zw_topZ {a : Int} (h : ∀ b : Int, b = a → zZ X M mc ms k n L pc lv (.int (zI b) :: st)) : zZ X M mc ms k n L pc lv (.int (zI a) :: st) := h a rfl
theorem zw_topRZ {x : Int32} (h : ∀ b : Int, zI b = x → (-2147483648 ≤ b ∧ b ≤ 2147483647) → zZ X M mc ms k n L pc lv (.int (zI b) :: st)) : zZ X M mc ms k n L pc lv (.int x :: st) := by
  have := h x.toInt (zI_of x) (zI_rg x)
  rwa [zI_of] at this
theorem zw_topE {x y : Int32} (e : x = y) (h : zZ X M mc ms k n L pc lv (.int y :: st)) : zZ X M mc ms k n L pc lv (.int x :: st) := e ▸ h
theorem zw_topLE {x y : Int64} (e : x = y) (h : zZ X M mc ms k n L pc lv (.long y :: st)) : zZ X M mc ms k n L pc lv (.long x :: st) := e ▸ h
theorem zw_lpick {lv' : List (Nat × Value)} (ks : List Nat) (he : lv_pick lv ks = lv') (h : zZ X M mc ms k n L pc lv' st) : zZ X M mc ms k n L pc lv st := by
  obtain ⟨p, l, e, R, s, m, args, below, meth, c, G, A, Q⟩ := X
  intro ok H locs ls hH hS hl
  obtain ⟨⟨hx, hb, hml, ho, hts⟩, hr, hlk, hK, hF, hA, hrm, hin⟩ := id ok
  exact h ok H locs ls hH hS (lv_sub hl ks he)
theorem zw_sub {L' : List zAt} (is : List Nat) (hn : va_nd is = true) (hs : is.map (fun i => L[i]?) = L'.map some) (h : zZ X M mc ms k n L' pc lv st) : zZ X M mc ms k n L pc lv st := by
  obtain ⟨p, l, e, R, s, m, args, below, meth, c, G, A, Q⟩ := X
  intro ok H locs ls hH hS hl
  obtain ⟨⟨hx, hb, hml, ho, hts⟩, hr, hlk, hK, hF, hA, hrm, hin⟩ := id ok
  exact h ok H locs ls (hH.sub is hn hs) hS hl
theorem zw_widen {k' n' : Nat} (h1 : k ≤ k') (h2 : n ≤ n') (h : zZ X M mc ms k' n' L pc lv st) : zZ X M mc ms k n L pc lv st := by
  obtain ⟨p, l, e, R, s, m, args, below, meth, c, G, A, Q⟩ := X
  intro ok H locs ls hH hS hl
  obtain ⟨⟨hx, hb, hml, ho, hts⟩, hr, hlk, hK, hF, hA, hrm, hin⟩ := id ok
  exact W.widen h1 h2 (h ok H locs ls hH hS hl)
theorem zw_unp {α : Type} {at0 : zAt} {P : α → List zAt} {pr : α → Prop} (hp : ∀ (G : zG) (ws : va_W), at0 G ws → ∃ x, pr x ∧ zSt (P x) G ws) (h : ∀ x, pr x → zZ X M mc ms k n (P x ++ L) pc lv st) : zZ X M mc ms k n (at0 :: L) pc lv st := by
  obtain ⟨p, l, e, R, s, m, args, below, meth, c, G, A, Q⟩ := X
  intro ok H locs ls hH hS hl
  obtain ⟨⟨hx, hb, hml, ho, hts⟩, hr, hlk, hK, hF, hA, hrm, hin⟩ := id ok
  obtain ⟨x, hx1, hH⟩ := hH.unp hp
  exact h x hx1 ok H locs ls hH hS hl
theorem zw_pack {at0 : zAt} {Ls L2 : List zAt} (hL : L = Ls ++ L2) (hp : ∀ (G : zG) (ws : va_W), zSt Ls G ws → at0 G ws) (h : zZ X M mc ms k n (at0 :: L2) pc lv st) : zZ X M mc ms k n L pc lv st := by
  subst hL
  obtain ⟨p, l, e, R, s, m, args, below, meth, c, G, A, Q⟩ := X
  intro ok H locs ls hH hS hl
  obtain ⟨⟨hx, hb, hml, ho, hts⟩, hr, hlk, hK, hF, hA, hrm, hin⟩ := id ok
  exact h ok H locs ls (hH.pack hp) hS hl
/-- a fact of an atom -/
theorem zw_fact {at0 : zAt} {q : Prop} (j : Nat) (hj : L[j]? = some at0) (hp : ∀ (G : zG) (ws : va_W), at0 G ws → q) (h : q → zZ X M mc ms k n L pc lv st) : zZ X M mc ms k n L pc lv st := by
  obtain ⟨p, l, e, R, s, m, args, below, meth, c, G, A, Q⟩ := X
  intro ok H locs ls hH hS hl
  obtain ⟨⟨hx, hb, hml, ho, hts⟩, hr, hlk, hK, hF, hA, hrm, hin⟩ := id ok
  have hq : q := by
    obtain ⟨ws, h0, hP, hD⟩ := hH
    obtain ⟨f, f1, -⟩ := zHd.toF h0 hD
    exact hp G _ (f1 j at0 hj).1
  exact h hq ok H locs ls hH hS hl
end zRows
section zFields
variable {X : zX} {M : zM} {mc ms k n pc : Nat} {L : List zAt} {lv : List (Nat × Value)} {st : List Value}
theorem zw_get {ci N idx a : Nat} {C : String} {T : u_T} {ty : Nat → FieldType} {fs : List Value} {v : Value} (hc : zCls ci C T N ty) (j f : Nat) (hj : L[j]? = some (zObj a ci fs)) (hf : f < N) (hlink : Cond.fieldLink M.2.2.1 idx (T f).1 (T f).2.1 (T f).2.2.1 ∈ zT) (hv : fs[f]? = some v) (hd : decode M.1 pc = .ok (.getfield idx, 3)) (h : zZ X M mc ms k n L (pc + 3) lv (v :: st)) : zZ X M mc ms k n L pc lv (.ref a :: st) := by
  obtain ⟨p, l, e, R, s, m, args, below, meth, c, G, A, Q⟩ := X
  intro ok H locs ls hH hS hl
  obtain ⟨⟨hx, hb, hml, ho, hts⟩, hr, hlk, hK, hF, hA, hrm, hin⟩ := id ok
  obtain ⟨hc1, hc2, hc3, hc4⟩ := hc
  obtain ⟨ws, h0, hP, hD⟩ := id hH
  obtain ⟨p0, q1, -⟩ := zSt.at (at0 := zObj a ci fs) (fun _ h => h) h0 hj
  refine va_get (ci := ci) (v := v) hx hb hts hc2 ho hK hP p0 q1 hc1 f hf (hts _ hlink) (fun _ h9 => h9) hv hd ?_
  exact h ok H locs ls hH hS hl
theorem zw_put {ci N idx a : Nat} {C : String} {T : u_T} {ty : Nat → FieldType} {fs : List Value} {v : Value} {L' : List zAt} (hc : zCls ci C T N ty) (j f : Nat) (hj : L[j]? = some (zObj a ci fs)) (hf : f < N) (hlink : Cond.fieldLink M.2.2.1 idx (T f).1 (T f).2.1 (T f).2.2.1 ∈ zT) (hfin : (T f).2.2.2 = false) (hnar : narrow (ty f) v = v) (hfit : fits (ty f) v = true) (hlen : f < fs.length) (hL : L.set j (zObj a ci (fs.set f v)) = L') (hd : decode M.1 pc = .ok (.putfield idx, 3)) (h : zZ X M mc ms k n L' (pc + 3) lv st) : zZ X M mc ms k n L pc lv (v :: .ref a :: st) := by
  obtain ⟨p, l, e, R, s, m, args, below, meth, c, G, A, Q⟩ := X
  intro ok H locs ls hH hS hl
  obtain ⟨⟨hx, hb, hml, ho, hts⟩, hr, hlk, hK, hF, hA, hrm, hin⟩ := id ok
  obtain ⟨hc1, hc2, hc3, hc4⟩ := hc
  obtain ⟨ws, h0, hP, hD⟩ := id hH
  obtain ⟨p0, q1, q2⟩ := zSt.at (at0 := zObj a ci fs) (fun _ h => h) h0 hj
  refine va_put (ci := ci) (v := v) (ty := ty f) hx hb hts hc2 ty hc3 hc4 ho hK hP hD hS p0 q1 hc1 f hf (hts _ hlink) (fun _ h9 => h9) hfin (hc3 f hf) hnar hfit hlen hd (fun H locs hP hD hS => ?_)
  exact h ok H locs ls ⟨_, hL ▸ q2 _ _ rfl, hP, hD⟩ hS hl
theorem zw_putF {ci N idx a : Nat} {C : String} {T : u_T} {ty : Nat → FieldType} {fs : List Value} {v : Value} {L' : List zAt} (hc : zCls ci C T N ty) (j f : Nat) (hj : L[j]? = some (zObj a ci fs)) (hf : f < N) (hlink : Cond.fieldLink M.2.2.1 idx (T f).1 (T f).2.1 (T f).2.2.1 ∈ zT) (hfin : (T f).2.2.2 = true) (hinit : M.2.2.2.2.2.2 = true) (hdecl : (T f).1 = M.2.2.1) (hnar : narrow (ty f) v = v) (hfit : fits (ty f) v = true) (hlen : f < fs.length) (hL : L.set j (zObj a ci (fs.set f v)) = L') (hd : decode M.1 pc = .ok (.putfield idx, 3)) (h : zZ X M mc ms k n L' (pc + 3) lv st) : zZ X M mc ms k n L pc lv (v :: .ref a :: st) := by
  obtain ⟨p, l, e, R, s, m, args, below, meth, c, G, A, Q⟩ := X
  intro ok H locs ls hH hS hl
  obtain ⟨⟨hx, hb, hml, ho, hts⟩, hr, hlk, hK, hF, hA, hrm, hin⟩ := id ok
  obtain ⟨hc1, hc2, hc3, hc4⟩ := hc
  obtain ⟨ws, h0, hP, hD⟩ := id hH
  obtain ⟨p0, q1, q2⟩ := zSt.at (at0 := zObj a ci fs) (fun _ h => h) h0 hj
  refine va_putF (ci := ci) (v := v) (ty := ty f) hx hb hts hc2 ty hc3 hc4 ho hK hP hD hS p0 q1 hc1 f hf (hts _ hlink) (fun _ h9 => h9) hfin (hin hinit) hdecl (hc3 f hf) hnar hfit hlen hd (fun H locs hP hD hS => ?_)
  exact h ok H locs ls ⟨_, hL ▸ q2 _ _ rfl, hP, hD⟩ hS hl
theorem zw_new {ci N idx : Nat} {C : String} {T : u_T} {ty : Nat → FieldType} (fs : List Value) (hc : zCls ci C T N ty) (hlink : Cond.classLink M.2.2.1 idx C ∈ zT) (hinst : Cond.instantiable C N ∈ zT) (hini : Cond.initialized C ∈ zT) (hfs : ∀ j, j < N → defaultValue (ty j) = vp_V fs j) (hk : k + 1 ≤ mc) (hn : n + N ≤ ms) (hd : decode M.1 pc = .ok (.new idx, 3)) (h : ∀ q : Nat, zZ X M mc ms (k + 1) (n + N) (L ++ [zObj q ci fs]) (pc + 3) lv (.ref q :: st)) : zZ X M mc ms k n L pc lv st := by
  obtain ⟨p, l, e, R, s, m, args, below, meth, c, G, A, Q⟩ := X
  intro ok H locs ls hH hS hl
  obtain ⟨⟨hx, hb, hml, ho, hts⟩, hr, hlk, hK, hF, hA, hrm, hin⟩ := id ok
  obtain ⟨hc1, hc2, hc3, hc4⟩ := hc
  obtain ⟨ws, h0, hP, hD⟩ := id hH
  refine va_new (ci := ci) (fs := fs) hx hb hts hc2 ty hc3 ho (hts _ hlink) (hts _ hinst) (hts _ hini) hK hP hD hS hA hc1 hfs (by omega) (by omega) hd (fun q H hP hD hS => ?_)
  exact h q ok H locs ls ⟨_, zSt.push h0 rfl, hP, hD⟩ hS hl
theorem zw_newaI {a : Int} {N : Nat} (hN : a = (N : Int)) (hN2 : N ≤ 100000000) (hac : Cond.arrayClass .int ∈ zT) (hk : k + 1 ≤ mc) (hn : n + N ≤ ms) (hd : decode M.1 pc = .ok (.newarray .int, 2)) (h : ∀ q : Nat, zZ X M mc ms (k + 1) (n + N) (L ++ [zArI q N (fun _ => 0)]) (pc + 2) lv (.ref q :: st)) : zZ X M mc ms k n L pc lv (.int (zI a) :: st) := by
  obtain ⟨p, l, e, R, s, m, args, below, meth, c, G, A, Q⟩ := X
  intro ok H locs ls hH hS hl
  obtain ⟨⟨hx, hb, hml, ho, hts⟩, hr, hlk, hK, hF, hA, hrm, hin⟩ := id ok
  subst hN
  obtain ⟨ws, h0, hP, hD⟩ := id hH
  refine va_newa (atype := .int) (ty := .int) (N' := N) (a0 := (N, .inl (fun _ => 0))) hx hb (hts _ hac) rfl hK hP hD hS hA (fun cA => rfl) (fun hneg => ?_) (by rw [zI_cl (by omega)]; omega) (show N * componentBytes .int ≤ 536870912 by show N * 4 ≤ _; omega) (by omega) (by omega) hd (fun q cA H hK2 hP hD hS => ?_)
  · have := (zI_lt (a := (N : Int)) (b := 0) (by omega) (by omega)).mp hneg
    omega
  · have e1 : s.vm.findClass ("[" ++ (.int : FieldType).toString) = some cA := (hK2.2 2 (cA, .int) rfl).2
    have e2 : s.vm.findClass ("[" ++ (.int : FieldType).toString) = some (G.2 0) := (hK.2 0 (G.2 0, .int) rfl).2
    have e3 : cA = G.2 0 := Option.some.inj (e1.symm.trans e2)
    subst e3
    exact h q ok H locs ls ⟨_, zSt.push h0 rfl, hP, hD⟩ hS hl
theorem zw_aldI {a N : Nat} {f : Nat → Int32} {z : Int} (j : Nat) (hj : L[j]? = some (zArI a N f)) (hz : 0 ≤ z ∧ z < N) (hN : N ≤ 2147483647) (hd : decode M.1 pc = .ok (.iaload, 1)) (h : zZ X M mc ms k n L (pc + 1) lv (.int (f z.toNat) :: st)) : zZ X M mc ms k n L pc lv (.int (zI z) :: .ref a :: st) := by
  obtain ⟨p, l, e, R, s, m, args, below, meth, c, G, A, Q⟩ := X
  intro ok H locs ls hH hS hl
  obtain ⟨⟨hx, hb, hml, ho, hts⟩, hr, hlk, hK, hF, hA, hrm, hin⟩ := id ok
  obtain ⟨ws, h0, hP, hD⟩ := id hH
  obtain ⟨p0, q1, q2⟩ := zSt.at (at0 := zArI a N f) (fun _ h => h) h0 hj
  refine va_iald hx hb hK hP p0 0 q1 rfl (zI_in hz hN) hd ?_
  rw [zI_cl (by omega)]
  exact h ok H locs ls hH hS hl
theorem zw_astI {a N : Nat} {f : Nat → Int32} {z : Int} {x : Int32} {L' : List zAt} (j : Nat) (hj : L[j]? = some (zArI a N f)) (hz : 0 ≤ z ∧ z < N) (hN : N ≤ 2147483647) (hL : L.set j (zArI a N (upd f z.toNat x)) = L') (hd : decode M.1 pc = .ok (.iastore, 1)) (h : zZ X M mc ms k n L' (pc + 1) lv st) : zZ X M mc ms k n L pc lv (.int x :: .int (zI z) :: .ref a :: st) := by
  obtain ⟨p, l, e, R, s, m, args, below, meth, c, G, A, Q⟩ := X
  intro ok H locs ls hH hS hl
  obtain ⟨⟨hx, hb, hml, ho, hts⟩, hr, hlk, hK, hF, hA, hrm, hin⟩ := id ok
  obtain ⟨ws, h0, hP, hD⟩ := id hH
  obtain ⟨p0, q1, q2⟩ := zSt.at (at0 := zArI a N f) (fun _ h => h) h0 hj
  refine va_iast hx hb hK hP hD hS p0 0 q1 rfl (zI_in hz hN) hd (fun H locs hP hD hS => ?_)
  rw [zI_cl (by omega)] at hP hD
  exact h ok H locs ls ⟨_, hL ▸ q2 _ _ rfl, hP, hD⟩ hS hl
theorem zw_alenI {a N : Nat} {f : Nat → Int32} (j : Nat) (hj : L[j]? = some (zArI a N f)) (hd : decode M.1 pc = .ok (.arraylength, 1)) (h : zZ X M mc ms k n L (pc + 1) lv (.int (zI N) :: st)) : zZ X M mc ms k n L pc lv (.ref a :: st) := by
  obtain ⟨p, l, e, R, s, m, args, below, meth, c, G, A, Q⟩ := X
  intro ok H locs ls hH hS hl
  obtain ⟨⟨hx, hb, hml, ho, hts⟩, hr, hlk, hK, hF, hA, hrm, hin⟩ := id ok
  obtain ⟨ws, h0, hP, hD⟩ := id hH
  obtain ⟨p0, q1, q2⟩ := zSt.at (at0 := zArI a N f) (fun _ h => h) h0 hj
  refine va_alen (v := zI N) hx hb hK hP p0 0 q1 rfl (zI_nat N).symm hd ?_
  exact h ok H locs ls hH hS hl
theorem zw_newaB {a : Int} {N : Nat} (hN : a = (N : Int)) (hN2 : N ≤ 100000000) (hac : Cond.arrayClass .byte ∈ zT) (hk : k + 1 ≤ mc) (hn : n + N ≤ ms) (hd : decode M.1 pc = .ok (.newarray .byte, 2)) (h : ∀ q : Nat, zZ X M mc ms (k + 1) (n + N) (L ++ [zArB q N (fun _ => 0)]) (pc + 2) lv (.ref q :: st)) : zZ X M mc ms k n L pc lv (.int (zI a) :: st) := by
  obtain ⟨p, l, e, R, s, m, args, below, meth, c, G, A, Q⟩ := X
  intro ok H locs ls hH hS hl
  obtain ⟨⟨hx, hb, hml, ho, hts⟩, hr, hlk, hK, hF, hA, hrm, hin⟩ := id ok
  subst hN
  obtain ⟨ws, h0, hP, hD⟩ := id hH
  refine va_newa (atype := .byte) (ty := .byte) (N' := N) (a0 := (N, .inl (fun _ => 0))) hx hb (hts _ hac) rfl hK hP hD hS hA (fun cA => rfl) (fun hneg => ?_) (by rw [zI_cl (by omega)]; omega) (show N * componentBytes .byte ≤ 536870912 by show N * 1 ≤ _; omega) (by omega) (by omega) hd (fun q cA H hK2 hP hD hS => ?_)
  · have := (zI_lt (a := (N : Int)) (b := 0) (by omega) (by omega)).mp hneg
    omega
  · have e1 : s.vm.findClass ("[" ++ (.byte : FieldType).toString) = some cA := (hK2.2 2 (cA, .byte) rfl).2
    have e2 : s.vm.findClass ("[" ++ (.byte : FieldType).toString) = some (G.2 1) := (hK.2 1 (G.2 1, .byte) rfl).2
    have e3 : cA = G.2 1 := Option.some.inj (e1.symm.trans e2)
    subst e3
    exact h q ok H locs ls ⟨_, zSt.push h0 rfl, hP, hD⟩ hS hl
theorem zw_aldB {a N : Nat} {f : Nat → Int32} {z : Int} (j : Nat) (hj : L[j]? = some (zArB a N f)) (hz : 0 ≤ z ∧ z < N) (hN : N ≤ 2147483647) (hd : decode M.1 pc = .ok (.baload, 1)) (h : zZ X M mc ms k n L (pc + 1) lv (.int (f z.toNat) :: st)) : zZ X M mc ms k n L pc lv (.int (zI z) :: .ref a :: st) := by
  obtain ⟨p, l, e, R, s, m, args, below, meth, c, G, A, Q⟩ := X
  intro ok H locs ls hH hS hl
  obtain ⟨⟨hx, hb, hml, ho, hts⟩, hr, hlk, hK, hF, hA, hrm, hin⟩ := id ok
  obtain ⟨ws, h0, hP, hD⟩ := id hH
  obtain ⟨p0, q1, q2⟩ := zSt.at (at0 := zArB a N f) (fun _ h => h) h0 hj
  refine va_bald hx hb hK hP p0 1 q1 rfl (zI_in hz hN) hd ?_
  rw [zI_cl (by omega)]
  exact h ok H locs ls hH hS hl
theorem zw_astB {a N : Nat} {f : Nat → Int32} {z : Int} {x : Int32} {L' : List zAt} (j : Nat) (hj : L[j]? = some (zArB a N f)) (hz : 0 ≤ z ∧ z < N) (hN : N ≤ 2147483647) (hL : L.set j (zArB a N (upd f z.toNat (vp_nar .byte x))) = L') (hd : decode M.1 pc = .ok (.bastore, 1)) (h : zZ X M mc ms k n L' (pc + 1) lv st) : zZ X M mc ms k n L pc lv (.int x :: .int (zI z) :: .ref a :: st) := by
  obtain ⟨p, l, e, R, s, m, args, below, meth, c, G, A, Q⟩ := X
  intro ok H locs ls hH hS hl
  obtain ⟨⟨hx, hb, hml, ho, hts⟩, hr, hlk, hK, hF, hA, hrm, hin⟩ := id ok
  obtain ⟨ws, h0, hP, hD⟩ := id hH
  obtain ⟨p0, q1, q2⟩ := zSt.at (at0 := zArB a N f) (fun _ h => h) h0 hj
  refine va_bast hx hb hK hP hD hS p0 1 q1 rfl (zI_in hz hN) hd (fun H locs hP hD hS => ?_)
  rw [zI_cl (by omega)] at hP hD
  exact h ok H locs ls ⟨_, hL ▸ q2 _ _ rfl, hP, hD⟩ hS hl
theorem zw_alenB {a N : Nat} {f : Nat → Int32} (j : Nat) (hj : L[j]? = some (zArB a N f)) (hd : decode M.1 pc = .ok (.arraylength, 1)) (h : zZ X M mc ms k n L (pc + 1) lv (.int (zI N) :: st)) : zZ X M mc ms k n L pc lv (.ref a :: st) := by
  obtain ⟨p, l, e, R, s, m, args, below, meth, c, G, A, Q⟩ := X
  intro ok H locs ls hH hS hl
  obtain ⟨⟨hx, hb, hml, ho, hts⟩, hr, hlk, hK, hF, hA, hrm, hin⟩ := id ok
  obtain ⟨ws, h0, hP, hD⟩ := id hH
  obtain ⟨p0, q1, q2⟩ := zSt.at (at0 := zArB a N f) (fun _ h => h) h0 hj
  refine va_alen (v := zI N) hx hb hK hP p0 1 q1 rfl (zI_nat N).symm hd ?_
  exact h ok H locs ls hH hS hl
theorem zw_objInit {idx a : Nat} (hl1 : Cond.methodLink M.2.2.1 idx Lib.objectInit ∈ zT) (hl2 : Cond.instanceMethod Lib.objectInit ∈ zT) (hl3 : Cond.code Lib.objectInit ⟨#[0xb1]⟩ 1 none ∈ zT) (hfr : 1 ≤ M.2.2.2.2.1) (hlo : (st.map fun v => v.category).sum + 12 ≤ M.2.2.2.2.2.1) (hd : decode M.1 pc = .ok (.invokespecial idx, 3)) (h : zZ X M mc ms k n L (pc + 3) lv st) : zZ X M mc ms k n L pc lv (.ref a :: st) := by
  obtain ⟨p, l, e, R, s, m, args, below, meth, c, G, A, Q⟩ := X
  intro ok H locs ls hH hS hl
  obtain ⟨⟨hx, hb, hml, ho, hts⟩, hr, hlk, hK, hF, hA, hrm, hin⟩ := id ok
  refine W.objInit hx hb ho (hts _ hl1) (hts _ hl2) (hts _ hl3) rfl (by rw [hml]; exact hl.1) rfl hd (by omega) (by show 2 * 0 + _ + 12 ≤ _; omega) ?_
  exact h ok H locs ls hH hS hl
end zFields
/-- a contract: from the atoms L, with the arguments av, y returns V, and the atoms are L' -/
def zCT (y : MethodName) (M : zM) (mc ms : Nat) (av : List Value) (L : List zAt) (V : Option Value) (L' : List zAt) : Prop :=
  ∀ (l : Launch) (G : zG) (B : Nat → Prop) (sz : Nat), Met l y (Cond.code y M.1 M.2.1 M.2.2.2.1 :: zT) { frames := M.2.2.2.2.1, cells := mc, slots := ms, locals := M.2.2.2.2.2.1 }
    (va_Pc av (fun U => U.heap.size = sz ∧ zK G U ∧ zF (zB B sz) U U.heap ∧ zHd G B U.heap L))
    (fun _ st oc t => oc = .returned V ∧ zHd G (zB B sz) t.heap L' ∧ va_F (zB B sz) st t) mc ms (zB B sz)
/-- what a method's end must be -/
def zRT (X : zX) (M : zM) (mc ms : Nat) (V : Option Value) (L' : List zAt) : Prop := match X with
  | (_, _, _, _, s, _, args, below, _, _, G, A, Q) => Q = MQ below (fun _ st oc t => oc = .returned V ∧ zHd G A t.heap L' ∧ va_F A st t) args s mc ms A
theorem zCT.of {y : MethodName} {M : zM} {mc ms : Nat} {av : List Value} {L L' : List zAt} {V : Option Value} (lv : List (Nat × Value)) (hlv : lv_args 0 av = lv) (hy : plainName y.cls = true) (hcls : y.cls = M.2.2.1) (hnm : M.2.2.2.2.2.2 = true → y.name = "<init>") (hal : (lg_sl av).length ≤ M.2.1)
    (body : ∀ X : zX, zRT X M mc ms V L' → zZ X M mc ms 0 0 L 0 lv []) : zCT y M mc ms av L V L' := by
  intro l G B sz
  refine Met.ofW (cc := M.1) (maxL := M.2.1) (ret := M.2.2.2.1) hy rfl ?_
  intro p e s m args below meth c s₁ Bd hml hv
  obtain ⟨rfl, hsz, hK, hF, hH⟩ := hv
  subst hsz
  have hts := atoms_spec (ws := Cond.code y M.1 M.2.1 M.2.2.2.1 :: zT) Bd.pre
  have hown : s.vm.findClass y.cls = some m.cls := findClass_of_methodNamed Bd.named
  rw [hcls] at hown
  have hl := lv_entry av (n := M.2.1) hal
  rw [lg_entry_eq]
  rw [hlv] at hl
  refine body (p, l, e, _, s, m, av.toArray, below, meth, c, G, zB B s.heap.size, _) rfl ⟨⟨Bd.exec, Bd.bytes, hml, hown, fun w hw => hts w (List.mem_cons_of_mem _ hw)⟩, Bd.returns, Bd.notSynchronized, hK, hF, fun q hq => Or.inr hq, ⟨Nat.le_refl _, Nat.le_refl _, Nat.le_refl _, Nat.le_refl _⟩, fun hi => ?_⟩ s.heap [] _ (hH.weaken fun q hq => Or.inl hq) va_S.rf hl
  rw [(name_of_methodNamed Bd.named Bd.method).1]
  exact hnm hi
section zRets
variable {X : zX} {M : zM} {mc ms k n pc : Nat} {L : List zAt} {lv : List (Nat × Value)} {st : List Value}
theorem zw_vret {V : Option Value} {L' : List zAt} (hR : zRT X M mc ms V L') (hV : V = none) (hL : L' = L) (hrt : M.2.2.2.1 = none) (hk : k ≤ mc) (hn : n ≤ ms) (hd : decode M.1 pc = .ok (.return_, 1)) : zZ X M mc ms k n L pc lv [] := by
  subst hV; subst hL
  obtain ⟨p, l, e, R, s, m, args, below, meth, c, G, A, Q⟩ := X
  intro ok H locs ls hH hS hl
  obtain ⟨⟨hx, hb, hml, ho, hts⟩, hr, hlk, hK, hF, hA, hrm, hin⟩ := id ok
  have hR : Q = _ := hR
  rw [hR]
  refine W.widen hk hn ?_
  refine W.vret hx hb (hr.trans hrt) (fun t ht hW => ⟨rfl, ?_, hS.F ht⟩) hS.2.2 hd
  rw [ht]
  exact hH
theorem zw_iret {v : Int32} {V : Option Value} {L' : List zAt} (hR : zRT X M mc ms V L') (hV : V = some (.int v)) (hL : L' = L) (hrt : M.2.2.2.1 = some .int) (hk : k ≤ mc) (hn : n ≤ ms) (hd : decode M.1 pc = .ok (.ireturn, 1)) : zZ X M mc ms k n L pc lv [.int v] := by
  subst hV; subst hL
  obtain ⟨p, l, e, R, s, m, args, below, meth, c, G, A, Q⟩ := X
  intro ok H locs ls hH hS hl
  obtain ⟨⟨hx, hb, hml, ho, hts⟩, hr, hlk, hK, hF, hA, hrm, hin⟩ := id ok
  have hR : Q = _ := hR
  rw [hR]
  refine W.widen hk hn ?_
  refine W.iret hx hb (hr.trans hrt) (fun t ht hW => ⟨rfl, ?_, hS.F ht⟩) hS.2.2 hd
  rw [ht]
  exact hH
theorem zw_lret {v : Int64} {V : Option Value} {L' : List zAt} (hR : zRT X M mc ms V L') (hV : V = some (.long v)) (hL : L' = L) (hrt : M.2.2.2.1 = some .long) (hk : k ≤ mc) (hn : n ≤ ms) (hd : decode M.1 pc = .ok (.lreturn, 1)) : zZ X M mc ms k n L pc lv [.long v] := by
  subst hV; subst hL
  obtain ⟨p, l, e, R, s, m, args, below, meth, c, G, A, Q⟩ := X
  intro ok H locs ls hH hS hl
  obtain ⟨⟨hx, hb, hml, ho, hts⟩, hr, hlk, hK, hF, hA, hrm, hin⟩ := id ok
  have hR : Q = _ := hR
  rw [hR]
  refine W.widen hk hn ?_
  refine W.lret hx hb (hr.trans hrt) (fun t ht hW => ⟨rfl, ?_, hS.F ht⟩) hS.2.2 hd
  rw [ht]
  exact hH
theorem zw_zret {v : Int32} {V : Option Value} {L' : List zAt} (hR : zRT X M mc ms V L') (hV : V = some (.int v)) (hL : L' = L) (hrt : M.2.2.2.1 = some .boolean) (hnar : narrow .boolean (.int v) = .int v) (hk : k ≤ mc) (hn : n ≤ ms) (hd : decode M.1 pc = .ok (.ireturn, 1)) : zZ X M mc ms k n L pc lv [.int v] := by
  subst hV; subst hL
  obtain ⟨p, l, e, R, s, m, args, below, meth, c, G, A, Q⟩ := X
  intro ok H locs ls hH hS hl
  obtain ⟨⟨hx, hb, hml, ho, hts⟩, hr, hlk, hK, hF, hA, hrm, hin⟩ := id ok
  have hR : Q = _ := hR
  rw [hR]
  refine W.widen hk hn ?_
  refine W.zret hx hb (hr.trans hrt) hnar (fun t ht hW => ⟨rfl, ?_, hS.F ht⟩) hS.2.2 hd
  rw [ht]
  exact hH
end zRets
theorem zGood {c2 : Cond} (h : c2 ∈ zT) : GoodIn zT (c2 :: zT) := by
  intro w hw
  rcases List.mem_cons.mp hw with rfl | hw
  · exact ⟨h, good_of_word (List.mem_filter.mp h).2⟩
  · exact ⟨hw, good_of_word (List.mem_filter.mp hw).2⟩
/-- an atom that holds an object: the receiver of a call -/
def zRv (at0 : zAt) (a ci : Nat) : Prop := ∀ (G : zG) (ws : va_W), at0 G ws → ∃ (p : Nat) (fs : List Value), ws[p]? = some (a, .inr (ci, fs))
theorem zRv_st {a ci : Nat} {fs : List Value} {Ls : List zAt} {G : zG} {ws : va_W} (h : zSt (zObj a ci fs :: Ls) G ws) : ∃ (p : Nat) (fs : List Value), ws[p]? = some (a, .inr (ci, fs)) := by
  obtain ⟨u, v, rfl, hu, hv⟩ := h
  have hu : u = [(a, .inr (ci, fs))] := hu
  subst hu
  exact ⟨0, fs, rfl⟩
theorem zRv_obj {a ci : Nat} {fs : List Value} : zRv (zObj a ci fs) a ci := fun _ _ h => ⟨0, fs, by rw [h]; rfl⟩
section zCalls
variable {p : Program} {l : Launch} {e : Env} {R : Room} {s : State} {m : MethodId} {args : Array Value} {below : List Frame} {meth : Method} {c : Code} {H : Heap} {locs : List Loc} {cells slots : Nat} {Q : State → Prop}
theorem zAfter {G : zG} {A B : Nat → Prop} {L1' L2 : List zAt} {V : Option Value} {mc ms pc : Nat} {ls : Array Slot} {st0 rest : List Value}
    (hr : va_Run p l e R s m args below meth c H locs cells slots mc ms (F0 m pc ls st0) rest (fun st oc t => oc = .returned V ∧ zHd G (zB B H.size) t.heap L1' ∧ va_F (zB B H.size) st t) (zB B H.size))
    (hA : ∀ q, s.heap.size ≤ q → A q) (hBA : ∀ q, B q → A q) (hfr : ∀ (H1 : Heap) (L1' : List zAt), (∀ q : Nat, q < H.size → ¬ zB B H.size q → H1[q]? = H[q]?) → zHd G (zB B H.size) H1 L1' → (∀ q, H.size ≤ q → A q) → zHd G A H1 (L1' ++ L2)) (hS : va_S A s.heap H locs)
    (kk : ∀ (H1 : Heap) (locs1 : List Loc), zHd G A H1 (L1' ++ L2) → va_S A s.heap H1 locs1 → W p l e R s m args below meth c H1 locs1 (cells + mc) (slots + ms) Q (F0 m (pc + 3) ls (V.toList ++ rest))) : W p l e R s m args below meth c H locs cells slots Q (F0 m pc ls st0) := by
  intro T hT X
  obtain ⟨v, st₀, t, T', L, h0, X', hL, e1, e2, ⟨hv, hB, hF⟩, st⟩ := hr T hT X
  cases hv
  obtain ⟨hz, hk⟩ := hF
  rw [h0] at hz hk
  have hA2 : ∀ q, H.size ≤ q → A q := fun q hq => hA q (Nat.le_trans hS.1 hq)
  have hBA2 : ∀ q, zB B H.size q → A q := fun q hq => hq.elim (hBA q) (hA2 q)
  have hk' : ∀ q : Nat, q < H.size → ¬ zB B H.size q → T'.heap[q]? = H[q]? := fun q h1 h2 => by rw [e1]; exact hk q h1 h2
  obtain ⟨t2, a1, b1⟩ := kk T'.heap (locs ++ L) (hfr _ _ hk' (by rw [e1]; exact hB) hA2)
    ⟨Nat.le_trans hS.1 (by rw [e1]; exact hz), fun q h1 h2 => by rw [hk' q (Nat.lt_of_lt_of_le h1 hS.1) (fun z => h2 (hBA2 q z))]; exact hS.2.1 q h1 h2, fun q hq => by
      rcases List.mem_append.mp hq with h | h
      · exact hS.2.2 q h
      · exact hBA2 _ (hL q h)⟩ T' rfl X'
  exact ⟨t2, st t2 a1, b1⟩
theorem zBlind {av : List Value} {G : zG} {B : Nat → Prop} {sz : Nat} {L : List zAt} : FrameBlind (va_Pc av (fun U => U.heap.size = sz ∧ zK G U ∧ zF (zB B sz) U U.heap ∧ zHd G B U.heap L)) := by
  intro a U g mk q
  obtain ⟨q0, q1, qK, qF, qD⟩ := q
  exact ⟨q0, q1, va_K.moved (u := U) (U := U.calling g mk a) (Vm.Alike.refl U.vm) qK, zF.same (u := U) (U := U.calling g mk a) rfl qF, qD⟩
theorem zPre {av : List Value} {G : zG} {A B : Nat → Prop} {L : List zAt} (hK : zK G s) (hF : zF A s s.heap) (hS : va_S A s.heap H locs) (hA : ∀ q, s.heap.size ≤ q → A q) (hBA : ∀ q, B q → A q) (hH : zHd G B H L) : ∀ U : State, U.heap = H → s.WarmedH U.vm → va_Pc av (fun U => U.heap.size = H.size ∧ zK G U ∧ zF (zB B H.size) U U.heap ∧ zHd G B U.heap L) av.toArray U := by
  intro U hU hW
  refine ⟨rfl, by rw [hU], va_K.moved hW.alike hK, ?_, by rw [hU]; exact hH⟩
  rw [hU]
  exact (zF.warm hW ((hF.kept (fun a h1 h2 => hS.2.1 a h1 h2)).narrow (fun q hq => hq.elim (hBA q) (fun z => hA q (Nat.le_trans hS.1 z)))))
end zCalls
section zCallRows
variable {X : zX} {M : zM} {mc ms k n pc : Nat} {L : List zAt} {lv : List (Nat × Value)} {st : List Value}
theorem zw_callV {y : MethodName} {Mc : zM} {mc' ms' idx a : Nat} {As rest stk stk' : List Value} {L1 L1' L2 L' : List zAt} {V : Option Value} (hc : zCT y Mc mc' ms' (.ref a :: As) L1 V L1') (isC isR : List Nat) (hC : isC.map (fun i => L[i]?) = L1.map some) (hR2 : isR.map (fun i => L[i]?) = L2.map some) (hnd : va_nd (isC ++ isR) = true) (hcal : zCal y Mc As.length) (hlink : Cond.methodLink M.2.2.1 idx y ∈ zT) (hV1 : Cond.instanceMethod y ∈ zT) (hV2 : Cond.selects y.cls y y ∈ zT) {at0 : zAt} {ci : Nat} {T : u_T} {N : Nat} (j : Nat) (hj : L1[j]? = some at0) (hrv : zRv at0 a ci) (hci : zCl[ci]? = some (y.cls, T, N)) (hfr : Mc.2.2.2.2.1 + 1 ≤ M.2.2.2.2.1) (hlo : 8 + (Mc.2.1 + 11) + Mc.2.2.2.2.2.1 ≤ M.2.2.2.2.2.1) (hk : k + mc' ≤ mc) (hn : n + ms' ≤ ms) (hstk : stk = As.reverse ++ .ref a :: rest) (hrs : (rest.map fun v => v.category).sum ≤ 8) (hL : L1' ++ L2 = L') (hstk' : V.toList ++ rest = stk') (hd : decode M.1 pc = .ok (.invokevirtual idx, 3)) (h : zZ X M mc ms (k + mc') (n + ms') L' (pc + 3) lv stk') : zZ X M mc ms k n L pc lv stk := by
  subst hstk; subst hL; subst hstk'
  obtain ⟨p, l, e, R, s, m, args, below, meth, c, G, A, Q⟩ := X
  intro ok H locs ls hH hS hl
  obtain ⟨⟨hx, hb, hml, ho, hts⟩, hr, hlk, hK, hF, hA, hrm, hin⟩ := id ok
  have hH2 : zHd G A H (L1 ++ L2) := hH.sub (isC ++ isR) hnd (by rw [List.map_append, List.map_append, hC, hR2])
  obtain ⟨B, b1, b2, b3⟩ := hH2.frame
  obtain ⟨c1, c2, c3⟩ := hcal
  have hw : ∀ w ∈ (Cond.code y Mc.1 Mc.2.1 Mc.2.2.2.1 :: zT), ∀ (a' : Array Value) (U : State), s.WarmedH U.vm → w.before a' U = true := pay_in hts (zGood c1)
  obtain ⟨ws, h0, hP, hD⟩ := id b1
  obtain ⟨f, f1, -⟩ := zHd.toF h0 hD
  obtain ⟨f2, -, f3⟩ := f1 j at0 hj
  obtain ⟨p0, fs, f4⟩ := hrv G _ f2
  have hPf : va_P G.1 zCl (f j) H := zP_iff.mpr (fun x hx => zP_iff.mp hP x (f3 x hx))
  have hrcv : ∃ cellB : Cell, H[a]? = some cellB ∧ cellB.vm.isStatics = false ∧ s.vm.findClass y.cls = some cellB.cls := va_recv hK hPf hci f4
  refine zAfter (G := G) (A := A) (B := B) (L2 := L2) (rest := rest) (va_runV (C := y.cls) (As := As) (rest := rest) ⟨hx, hb, hml, ho, hts⟩ (hc l G B H.size) ⟨callB_of (R := R) (rm := { frames := Mc.2.2.2.2.1, cells := mc', slots := ms', locals := Mc.2.2.2.2.2.1 }) As.length hts (zGood c1) rfl rfl rfl (hts _ c2) (hts _ hlink) c3 ⟨by show Mc.2.2.2.2.1 + 1 ≤ _; omega, by show 8 + (Mc.2.1 + 11) + Mc.2.2.2.2.2.1 ≤ _; omega⟩, hts _ hV1, hts _ hV2⟩ ⟨zBlind, hrcv, zPre hK hF hS hA b2 b1⟩ rfl rfl hl.1 rfl (lv_room hrs) hd ⟨by omega, by omega⟩) hA b2 b3 hS (fun H locs hH hS => ?_)
  exact h ok H locs ls hH hS hl
theorem zw_callI {y : MethodName} {b0 : ByteArray} {nl0 : Nat} {ow0 : String} {fr0 lo0 : Nat} {in0 : Bool} {mc' ms' idx a : Nat} {As rest stk stk' : List Value} {L1 L1' L2 L' : List zAt} {V : Option Value} (hc : zCT y (b0, nl0, ow0, none, fr0, lo0, in0) mc' ms' (.ref a :: As) L1 V L1') (isC isR : List Nat) (hC : isC.map (fun i => L[i]?) = L1.map some) (hR2 : isR.map (fun i => L[i]?) = L2.map some) (hnd : va_nd (isC ++ isR) = true) (hcal : zCal y (b0, nl0, ow0, none, fr0, lo0, in0) As.length) (hlink : Cond.methodLink M.2.2.1 idx y ∈ zT) (hV1 : Cond.instanceMethod y ∈ zT) (hin1 : y.name = "<init>") (hfr : fr0 + 1 ≤ M.2.2.2.2.1) (hlo : 8 + (nl0 + 11) + lo0 ≤ M.2.2.2.2.2.1) (hk : k + mc' ≤ mc) (hn : n + ms' ≤ ms) (hstk : stk = As.reverse ++ .ref a :: rest) (hrs : (rest.map fun v => v.category).sum ≤ 8) (hL : L1' ++ L2 = L') (hstk' : V.toList ++ rest = stk') (hd : decode M.1 pc = .ok (.invokespecial idx, 3)) (h : zZ X M mc ms (k + mc') (n + ms') L' (pc + 3) lv stk') : zZ X M mc ms k n L pc lv stk := by
  subst hstk; subst hL; subst hstk'
  obtain ⟨p, l, e, R, s, m, args, below, meth, c, G, A, Q⟩ := X
  intro ok H locs ls hH hS hl
  obtain ⟨⟨hx, hb, hml, ho, hts⟩, hr, hlk, hK, hF, hA, hrm, hin⟩ := id ok
  have hH2 : zHd G A H (L1 ++ L2) := hH.sub (isC ++ isR) hnd (by rw [List.map_append, List.map_append, hC, hR2])
  obtain ⟨B, b1, b2, b3⟩ := hH2.frame
  obtain ⟨c1, c2, c3⟩ := hcal
  have hw : ∀ w ∈ (Cond.code y b0 nl0 none :: zT), ∀ (a' : Array Value) (U : State), s.WarmedH U.vm → w.before a' U = true := pay_in hts (zGood c1)
  refine zAfter (G := G) (A := A) (B := B) (L2 := L2) (rest := rest) (va_runI (As := As) (rest := rest) ⟨hx, hb, hml, ho, hts⟩ (hc l G B H.size) ⟨callB_of (R := R) (rm := { frames := fr0, cells := mc', slots := ms', locals := lo0 }) As.length hts (zGood c1) rfl rfl rfl (hts _ c2) (hts _ hlink) c3 ⟨by show fr0 + 1 ≤ _; omega, by show 8 + (nl0 + 11) + lo0 ≤ _; omega⟩, hin1, hts _ hV1⟩ ⟨zBlind, zPre hK hF hS hA b2 b1⟩ rfl rfl hl.1 rfl (lv_room hrs) hd ⟨by omega, by omega⟩) hA b2 b3 hS (fun H locs hH hS => ?_)
  exact h ok H locs ls hH hS hl
theorem zw_callS {y : MethodName} {Mc : zM} {mc' ms' idx a : Nat} {As rest stk stk' : List Value} {L1 L1' L2 L' : List zAt} {V : Option Value} (hc : zCT y Mc mc' ms' (As) L1 V L1') (isC isR : List Nat) (hC : isC.map (fun i => L[i]?) = L1.map some) (hR2 : isR.map (fun i => L[i]?) = L2.map some) (hnd : va_nd (isC ++ isR) = true) (hcal : zCal y Mc As.length) (hlink : Cond.methodLink M.2.2.1 idx y ∈ zT) (hV1 : Cond.static y ∈ zT) (hfr : Mc.2.2.2.2.1 + 1 ≤ M.2.2.2.2.1) (hlo : 8 + (Mc.2.1 + 11) + Mc.2.2.2.2.2.1 ≤ M.2.2.2.2.2.1) (hk : k + mc' ≤ mc) (hn : n + ms' ≤ ms) (hstk : stk = As.reverse ++ rest) (hrs : (rest.map fun v => v.category).sum ≤ 8) (hL : L1' ++ L2 = L') (hstk' : V.toList ++ rest = stk') (hd : decode M.1 pc = .ok (.invokestatic idx, 3)) (h : zZ X M mc ms (k + mc') (n + ms') L' (pc + 3) lv stk') : zZ X M mc ms k n L pc lv stk := by
  subst hstk; subst hL; subst hstk'
  obtain ⟨p, l, e, R, s, m, args, below, meth, c, G, A, Q⟩ := X
  intro ok H locs ls hH hS hl
  obtain ⟨⟨hx, hb, hml, ho, hts⟩, hr, hlk, hK, hF, hA, hrm, hin⟩ := id ok
  have hH2 : zHd G A H (L1 ++ L2) := hH.sub (isC ++ isR) hnd (by rw [List.map_append, List.map_append, hC, hR2])
  obtain ⟨B, b1, b2, b3⟩ := hH2.frame
  obtain ⟨c1, c2, c3⟩ := hcal
  have hw : ∀ w ∈ (Cond.code y Mc.1 Mc.2.1 Mc.2.2.2.1 :: zT), ∀ (a' : Array Value) (U : State), s.WarmedH U.vm → w.before a' U = true := pay_in hts (zGood c1)
  refine zAfter (G := G) (A := A) (B := B) (L2 := L2) (rest := rest) (va_runS (As := As) (rest := rest) ⟨hx, hb, hml, ho, hts⟩ (hc l G B H.size) ⟨callB_of (R := R) (rm := { frames := Mc.2.2.2.2.1, cells := mc', slots := ms', locals := Mc.2.2.2.2.2.1 }) As.length hts (zGood c1) rfl rfl rfl (hts _ c2) (hts _ hlink) c3 ⟨by show Mc.2.2.2.2.1 + 1 ≤ _; omega, by show 8 + (Mc.2.1 + 11) + Mc.2.2.2.2.2.1 ≤ _; omega⟩, hts _ hV1⟩ ⟨zBlind, zPre hK hF hS hA b2 b1⟩ rfl rfl hl.1 rfl (lv_room hrs) hd ⟨by omega, by omega⟩) hA b2 b3 hS (fun H locs hH hS => ?_)
  exact h ok H locs ls hH hS hl
theorem zw_callSN {y : MethodName} {Mc : zM} {mc' ms' idx a : Nat} {As rest stk stk' : List Value} {L1 L1' L2 L' : List zAt} {V : Option Value} (hc : zCT y Mc mc' ms' (As) L1 V L1') (isC isR : List Nat) (hC : isC.map (fun i => L[i]?) = L1.map some) (hR2 : isR.map (fun i => L[i]?) = L2.map some) (hnd : va_nd (isC ++ isR) = true) (hcal : zCal y Mc As.length) {host : String} (hnest : ∀ A U H, zF A U H → va_Nw (.methodLinkNest M.2.2.1 idx y host) U) (hV1 : Cond.static y ∈ zT) (hfr : Mc.2.2.2.2.1 + 1 ≤ M.2.2.2.2.1) (hlo : 8 + (Mc.2.1 + 11) + Mc.2.2.2.2.2.1 ≤ M.2.2.2.2.2.1) (hk : k + mc' ≤ mc) (hn : n + ms' ≤ ms) (hstk : stk = As.reverse ++ rest) (hrs : (rest.map fun v => v.category).sum ≤ 8) (hL : L1' ++ L2 = L') (hstk' : V.toList ++ rest = stk') (hd : decode M.1 pc = .ok (.invokestatic idx, 3)) (h : zZ X M mc ms (k + mc') (n + ms') L' (pc + 3) lv stk') : zZ X M mc ms k n L pc lv stk := by
  subst hstk; subst hL; subst hstk'
  obtain ⟨p, l, e, R, s, m, args, below, meth, c, G, A, Q⟩ := X
  intro ok H locs ls hH hS hl
  obtain ⟨⟨hx, hb, hml, ho, hts⟩, hr, hlk, hK, hF, hA, hrm, hin⟩ := id ok
  have hH2 : zHd G A H (L1 ++ L2) := hH.sub (isC ++ isR) hnd (by rw [List.map_append, List.map_append, hC, hR2])
  obtain ⟨B, b1, b2, b3⟩ := hH2.frame
  obtain ⟨c1, c2, c3⟩ := hcal
  have hw : ∀ w ∈ (Cond.code y Mc.1 Mc.2.1 Mc.2.2.2.1 :: zT), ∀ (a' : Array Value) (U : State), s.WarmedH U.vm → w.before a' U = true := pay_in hts (zGood c1)
  refine zAfter (G := G) (A := A) (B := B) (L2 := L2) (rest := rest) (va_runSN (As := As) (rest := rest) ⟨hx, hb, hml, ho, hts⟩ (hc l G B H.size) ⟨⟨⟨rfl, rfl, by show Mc.2.2.2.2.1 + 1 ≤ _; omega, by show 8 + (Mc.2.1 + 11) + Mc.2.2.2.2.2.1 ≤ _; omega, hw, List.mem_cons_self⟩, hts _ c1, hts _ c2, ⟨c3.1, c3.2.1⟩, fun sig hsg => by have h2 := c3.2.2; rw [hsg] at h2; exact (Option.some.inj h2).symm, va_Nw.use rfl (hnest A s s.heap hF)⟩, hts _ hV1, trivial⟩ ⟨zBlind, zPre hK hF hS hA b2 b1⟩ rfl rfl hl.1 rfl (lv_room hrs) hd ⟨by omega, by omega⟩) hA b2 b3 hS (fun H locs hH hS => ?_)
  exact h ok H locs ls hH hS hl
theorem zw_minI {a b : Int} {idx : Nat} (ha : -2147483648 ≤ a ∧ a ≤ 2147483647) (hb0 : -2147483648 ≤ b ∧ b ≤ 2147483647) (hl1 : Cond.methodLink M.2.2.1 idx Lib.Math.min.name ∈ zT) (hl2 : Cond.static Lib.Math.min.name ∈ zT) (hl3 : Cond.initialized "java/lang/Math" ∈ zT) (hl4 : Cond.code Lib.Math.min.name Lib.Math.min.code 2 (some .int) ∈ zT) (hfr : 1 ≤ M.2.2.2.2.1) (hlo : (st.map fun v => v.category).sum + 13 ≤ M.2.2.2.2.2.1) (hk : k ≤ mc) (hn : n ≤ ms) (hd : decode M.1 pc = .ok (.invokestatic idx, 3)) (h : zZ X M mc ms k n L (pc + 3) lv (.int (zI (min a b)) :: st)) : zZ X M mc ms k n L pc lv (.int (zI b) :: .int (zI a) :: st) := by
  obtain ⟨p, l, e, R, s, m, args, below, meth, c, G, A, Q⟩ := X
  intro ok H locs ls hH hS hl
  obtain ⟨⟨hx, hb, hml, ho, hts⟩, hr, hlk, hK, hF, hA, hrm, hin⟩ := id ok
  refine va_mmin hx hb (by rw [hml]; exact hl.1.symm) ho (hts _ hl1) (hts _ hl2) (hts _ hl3) (hts _ hl4) (by omega) (by omega) (by omega) (by omega) hd ?_
  have e : (if zI b < zI a then zI b else zI a) = zI (min a b) := by
    by_cases hlt : b < a
    · rw [if_pos ((zI_lt hb0 ha).mpr hlt), Int.min_eq_right (by omega)]
    · rw [if_neg (fun z => hlt ((zI_lt hb0 ha).mp z)), Int.min_eq_left (by omega)]
  rw [e]
  exact h ok H locs ls hH hS hl
theorem zw_minJ {a b : Int} {idx : Nat} (ha : -9223372036854775808 ≤ a ∧ a ≤ 9223372036854775807) (hb0 : -9223372036854775808 ≤ b ∧ b ≤ 9223372036854775807) (hl1 : Cond.methodLink M.2.2.1 idx Lib.MathLoose.min_long.x ∈ zT) (hl2 : Cond.static Lib.MathLoose.min_long.x ∈ zT) (hl3 : Cond.initialized "java/lang/Math" ∈ zT) (hl4 : Cond.code Lib.MathLoose.min_long.x Lib.MathLoose.min_long.code 4 (some .long) ∈ zT) (hfr : 1 ≤ M.2.2.2.2.1) (hlo : (st.map fun v => v.category).sum + 15 ≤ M.2.2.2.2.2.1) (hk : k ≤ mc) (hn : n ≤ ms) (hd : decode M.1 pc = .ok (.invokestatic idx, 3)) (h : zZ X M mc ms k n L (pc + 3) lv (.long (zJ (min a b)) :: st)) : zZ X M mc ms k n L pc lv (.long (zJ b) :: .long (zJ a) :: st) := by
  obtain ⟨p, l, e, R, s, m, args, below, meth, c, G, A, Q⟩ := X
  intro ok H locs ls hH hS hl
  obtain ⟨⟨hx, hb, hml, ho, hts⟩, hr, hlk, hK, hF, hA, hrm, hin⟩ := id ok
  refine va_mmin_long hx hb (by rw [hml]; exact hl.1.symm) ho (hts _ hl1) (hts _ hl2) (hts _ hl3) (hts _ hl4) (by omega) (by omega) (by omega) (by omega) hd ?_
  have e : (if zJ b < zJ a then zJ b else zJ a) = zJ (min a b) := by
    by_cases hlt : b < a
    · rw [if_pos ((zJ_lt hb0 ha).mpr hlt), Int.min_eq_right (by omega)]
    · rw [if_neg (fun z => hlt ((zJ_lt hb0 ha).mp z)), Int.min_eq_left (by omega)]
  rw [e]
  exact h ok H locs ls hH hS hl
theorem zw_copyI {a0 a1 N0 N1 : Nat} {f g : Nat → Int32} {z : Int} {idx : Nat} {L' : List zAt} (j0 j1 : Nat) (hj0 : L[j0]? = some (zArI a0 N0 f)) (hj1 : L[j1]? = some (zArI a1 N1 g)) (hz : 0 ≤ z ∧ z ≤ N0 ∧ z ≤ N1 ∧ z ≤ 2147483647) (hl1 : Cond.methodLink M.2.2.1 idx arraycopyName ∈ zT) (hl2 : Cond.native arraycopyName ∈ zT) (hl3 : Cond.static arraycopyName ∈ zT) (hl4 : Cond.initialized "java/lang/System" ∈ zT) (hfr : 1 ≤ M.2.2.2.2.1) (hlo : (st.map fun v => v.category).sum + (nativeFrameWords "java/lang/System" "arraycopy" 5 + 11) ≤ M.2.2.2.2.2.1) (hL : L.set j1 (zArI a1 N1 (va_cpy f g 0 0 z.toNat)) = L') (hd : decode M.1 pc = .ok (.invokestatic idx, 3)) (h : zZ X M mc ms k n L' (pc + 3) lv st) : zZ X M mc ms k n L pc lv (.int (zI z) :: .int (zI 0) :: .ref a1 :: .int (zI 0) :: .ref a0 :: st) := by
  obtain ⟨p, l, e, R, s, m, args, below, meth, c, G, A, Q⟩ := X
  intro ok H locs ls hH hS hl
  obtain ⟨⟨hx, hb, hml, ho, hts⟩, hr, hlk, hK, hF, hA, hrm, hin⟩ := id ok
  obtain ⟨ws, h0, hP, hD⟩ := id hH
  obtain ⟨p0, q1, -⟩ := zSt.at (at0 := zArI a0 N0 f) (fun _ h => h) h0 hj0
  obtain ⟨p1, q3, q4⟩ := zSt.at (at0 := zArI a1 N1 g) (fun _ h => h) h0 hj1
  have ez : (zI z).toNatClampNeg = z.toNat := zI_cl (by omega)
  have e0 : (zI 0).toNatClampNeg = 0 := rfl
  refine va_copyi (ty := .int) hx hb (by rw [hml]; exact hl.1.symm) ho (hts _ hl1) (hts _ hl2) (hts _ hl3) (hts _ hl4) hK hP hD hS p0 p1 0 0 q1 q3 rfl rfl rfl (by decide) (by decide) (fun hneg => ?_) (by rw [ez, e0]; omega) (by rw [ez, e0]; omega) ?_ (by omega) (by omega) hd (fun H locs hP hD hS => ?_)
  · have := (zI_lt (a := z) (b := 0) (by omega) (by omega)).mp hneg
    omega
  · rw [ez, e0]
    exact fun i _ => rfl
  · rw [ez, e0] at hP hD
    exact h ok H locs ls ⟨_, hL ▸ q4 _ _ rfl, hP, hD⟩ hS hl
theorem zw_copyB {a0 a1 N0 N1 : Nat} {f g : Nat → Int32} {z : Int} {idx : Nat} {L' : List zAt} (j0 j1 : Nat) (hj0 : L[j0]? = some (zArB a0 N0 f)) (hj1 : L[j1]? = some (zArB a1 N1 g)) (hz : 0 ≤ z ∧ z ≤ N0 ∧ z ≤ N1 ∧ z ≤ 2147483647) (hfit : ∀ i, i < N0 → fits .byte (.int (f i)) = true) (hl1 : Cond.methodLink M.2.2.1 idx arraycopyName ∈ zT) (hl2 : Cond.native arraycopyName ∈ zT) (hl3 : Cond.static arraycopyName ∈ zT) (hl4 : Cond.initialized "java/lang/System" ∈ zT) (hfr : 1 ≤ M.2.2.2.2.1) (hlo : (st.map fun v => v.category).sum + (nativeFrameWords "java/lang/System" "arraycopy" 5 + 11) ≤ M.2.2.2.2.2.1) (hL : L.set j1 (zArB a1 N1 (va_cpy f g 0 0 z.toNat)) = L') (hd : decode M.1 pc = .ok (.invokestatic idx, 3)) (h : zZ X M mc ms k n L' (pc + 3) lv st) : zZ X M mc ms k n L pc lv (.int (zI z) :: .int (zI 0) :: .ref a1 :: .int (zI 0) :: .ref a0 :: st) := by
  obtain ⟨p, l, e, R, s, m, args, below, meth, c, G, A, Q⟩ := X
  intro ok H locs ls hH hS hl
  obtain ⟨⟨hx, hb, hml, ho, hts⟩, hr, hlk, hK, hF, hA, hrm, hin⟩ := id ok
  obtain ⟨ws, h0, hP, hD⟩ := id hH
  obtain ⟨p0, q1, -⟩ := zSt.at (at0 := zArB a0 N0 f) (fun _ h => h) h0 hj0
  obtain ⟨p1, q3, q4⟩ := zSt.at (at0 := zArB a1 N1 g) (fun _ h => h) h0 hj1
  have ez : (zI z).toNatClampNeg = z.toNat := zI_cl (by omega)
  have e0 : (zI 0).toNatClampNeg = 0 := rfl
  refine va_copyi (ty := .byte) hx hb (by rw [hml]; exact hl.1.symm) ho (hts _ hl1) (hts _ hl2) (hts _ hl3) (hts _ hl4) hK hP hD hS p0 p1 1 1 q1 q3 rfl rfl rfl (by decide) (by decide) (fun hneg => ?_) (by rw [ez, e0]; omega) (by rw [ez, e0]; omega) ?_ (by omega) (by omega) hd (fun H locs hP hD hS => ?_)
  · have := (zI_lt (a := z) (b := 0) (by omega) (by omega)).mp hneg
    omega
  · rw [ez, e0]
    exact fun i hi => hfit _ (by omega)
  · rw [ez, e0] at hP hD
    exact h ok H locs ls ⟨_, hL ▸ q4 _ _ rfl, hP, hD⟩ hS hl
end zCallRows
/-- a contract that answers a new cell -/
def zCTr (y : MethodName) (M : zM) (mc ms : Nat) (av : List Value) (L : List zAt) (L' : Nat → List zAt) : Prop :=
  ∀ (l : Launch) (G : zG) (B : Nat → Prop) (sz : Nat), Met l y (Cond.code y M.1 M.2.1 M.2.2.2.1 :: zT) { frames := M.2.2.2.2.1, cells := mc, slots := ms, locals := M.2.2.2.2.2.1 }
    (va_Pc av (fun U => U.heap.size = sz ∧ zK G U ∧ zF (zB B sz) U U.heap ∧ zHd G B U.heap L))
    (fun _ st oc t => ∃ q : Nat, oc = .returned (some (.ref q)) ∧ zHd G (zB B sz) t.heap (L' q) ∧ va_F (zB B sz) st t) mc ms (zB B sz)
def zRTr (X : zX) (M : zM) (mc ms : Nat) (L' : Nat → List zAt) : Prop := match X with
  | (_, _, _, _, s, _, args, below, _, _, G, A, Q) => Q = MQ below (fun _ st oc t => ∃ q : Nat, oc = .returned (some (.ref q)) ∧ zHd G A t.heap (L' q) ∧ va_F A st t) args s mc ms A
theorem zCTr.of {y : MethodName} {M : zM} {mc ms : Nat} {av : List Value} {L : List zAt} {L' : Nat → List zAt} (lv : List (Nat × Value)) (hlv : lv_args 0 av = lv) (hy : plainName y.cls = true) (hcls : y.cls = M.2.2.1) (hnm : M.2.2.2.2.2.2 = true → y.name = "<init>") (hal : (lg_sl av).length ≤ M.2.1)
    (body : ∀ X : zX, zRTr X M mc ms L' → zZ X M mc ms 0 0 L 0 lv []) : zCTr y M mc ms av L L' := by
  intro l G B sz
  refine Met.ofW (cc := M.1) (maxL := M.2.1) (ret := M.2.2.2.1) hy rfl ?_
  intro p e s m args below meth c s₁ Bd hml hv
  obtain ⟨rfl, hsz, hK, hF, hH⟩ := hv
  subst hsz
  have hts := atoms_spec (ws := Cond.code y M.1 M.2.1 M.2.2.2.1 :: zT) Bd.pre
  have hown : s.vm.findClass y.cls = some m.cls := findClass_of_methodNamed Bd.named
  rw [hcls] at hown
  have hl := lv_entry av (n := M.2.1) hal
  rw [lg_entry_eq]
  rw [hlv] at hl
  refine body (p, l, e, _, s, m, av.toArray, below, meth, c, G, zB B s.heap.size, _) rfl ⟨⟨Bd.exec, Bd.bytes, hml, hown, fun w hw => hts w (List.mem_cons_of_mem _ hw)⟩, Bd.returns, Bd.notSynchronized, hK, hF, fun q hq => Or.inr hq, ⟨Nat.le_refl _, Nat.le_refl _, Nat.le_refl _, Nat.le_refl _⟩, fun hi => ?_⟩ s.heap [] _ (hH.weaken fun q hq => Or.inl hq) va_S.rf hl
  rw [(name_of_methodNamed Bd.named Bd.method).1]
  exact hnm hi
theorem zw_aret {X : zX} {M : zM} {mc ms k n pc : Nat} {L : List zAt} {lv : List (Nat × Value)} {v : Nat} {ty : FieldType} {L' : Nat → List zAt} (hR : zRTr X M mc ms L') (hL : L' v = L) (hrt : M.2.2.2.1 = some ty) (hk : k ≤ mc) (hn : n ≤ ms) (hnar : (∃ n, ty = .object n) ∨ ∃ t, ty = .array t) (hd : decode M.1 pc = .ok (.areturn, 1)) : zZ X M mc ms k n L pc lv [.ref v] := by
  subst hL
  obtain ⟨p, l, e, R, s, m, args, below, meth, c, G, A, Q⟩ := X
  intro ok H locs ls hH hS hl
  obtain ⟨⟨hx, hb, hml, ho, hts⟩, hr, hlk, hK, hF, hA, hrm, hin⟩ := id ok
  have hR : Q = _ := hR
  rw [hR]
  refine W.widen hk hn ?_
  refine W.aret hx hb (hr.trans hrt) hnar (Or.inr ⟨v, rfl⟩) (fun t ht hW => ⟨v, rfl, ?_, hS.F ht⟩) hS.2.2 hd
  rw [ht]
  exact hH
theorem zw_callSr {X : zX} {M : zM} {mc ms k n pc : Nat} {L : List zAt} {lv : List (Nat × Value)} {y : MethodName} {Mc : zM} {mc' ms' idx : Nat} {As rest stk : List Value} {L1 L2 : List zAt} {L1' : Nat → List zAt} (hc : zCTr y Mc mc' ms' As L1 L1') (isC isR : List Nat) (hC : isC.map (fun i => L[i]?) = L1.map some) (hR2 : isR.map (fun i => L[i]?) = L2.map some) (hnd : va_nd (isC ++ isR) = true) (hcal : zCal y Mc As.length) (hlink : Cond.methodLink M.2.2.1 idx y ∈ zT) (hV1 : Cond.static y ∈ zT) (hfr : Mc.2.2.2.2.1 + 1 ≤ M.2.2.2.2.1) (hlo : 8 + (Mc.2.1 + 11) + Mc.2.2.2.2.2.1 ≤ M.2.2.2.2.2.1) (hk : k + mc' ≤ mc) (hn : n + ms' ≤ ms) (hstk : stk = As.reverse ++ rest) (hrs : (rest.map fun v => v.category).sum ≤ 8) (hd : decode M.1 pc = .ok (.invokestatic idx, 3)) (h : ∀ q : Nat, zZ X M mc ms (k + mc') (n + ms') (L1' q ++ L2) (pc + 3) lv (.ref q :: rest)) : zZ X M mc ms k n L pc lv stk := by
  subst hstk
  obtain ⟨p, l, e, R, s, m, args, below, meth, c, G, A, Q⟩ := X
  intro ok H locs ls hH hS hl
  obtain ⟨⟨hx, hb, hml, ho, hts⟩, hr, hlk, hK, hF, hA, hrm, hin⟩ := id ok
  have hH2 : zHd G A H (L1 ++ L2) := hH.sub (isC ++ isR) hnd (by rw [List.map_append, List.map_append, hC, hR2])
  obtain ⟨B, b1, b2, b3⟩ := hH2.frame
  obtain ⟨c1, c2, c3⟩ := hcal
  have hr := va_runS (As := As) (rest := rest) (locs := locs) (cells := k) (slots := n) (e := e) (meth := meth) (below := below) (g := F0 m pc ls (As.reverse ++ rest)) ⟨hx, hb, hml, ho, hts⟩ (hc l G B H.size) ⟨callB_of (R := R) (rm := { frames := Mc.2.2.2.2.1, cells := mc', slots := ms', locals := Mc.2.2.2.2.2.1 }) As.length hts (zGood c1) rfl rfl rfl (hts _ c2) (hts _ hlink) c3 ⟨by show Mc.2.2.2.2.1 + 1 ≤ _; omega, by show 8 + (Mc.2.1 + 11) + Mc.2.2.2.2.2.1 ≤ _; omega⟩, hts _ hV1⟩ ⟨zBlind, zPre hK hF hS hA b2 b1⟩ rfl rfl hl.1 rfl (lv_room hrs) hd ⟨by omega, by omega⟩
  intro T hT X
  obtain ⟨v, st₀, t, T', L, h0, X', hL, e1, e2, ⟨q, hv, hB, hF2⟩, st⟩ := hr T hT X
  cases hv
  obtain ⟨hz, hk2⟩ := hF2
  rw [h0] at hz hk2
  have hA2 : ∀ q, H.size ≤ q → A q := fun q hq => hA q (Nat.le_trans hS.1 hq)
  have hBA2 : ∀ q, zB B H.size q → A q := fun q hq => hq.elim (b2 q) (hA2 q)
  have hk' : ∀ q : Nat, q < H.size → ¬ zB B H.size q → T'.heap[q]? = H[q]? := fun q h1 h2 => by rw [e1]; exact hk2 q h1 h2
  obtain ⟨t2, a1, b1⟩ := h q ok T'.heap (locs ++ L) ls (b3 _ _ hk' (by rw [e1]; exact hB) hA2)
    ⟨Nat.le_trans hS.1 (by rw [e1]; exact hz), fun q h1 h2 => by rw [hk' q (Nat.lt_of_lt_of_le h1 hS.1) (fun z => h2 (hBA2 q z))]; exact hS.2.1 q h1 h2, fun q hq => by
      rcases List.mem_append.mp hq with h | h
      · exact hS.2.2 q h
      · exact hBA2 _ (hL q h)⟩ hl T' rfl X'
  exact ⟨t2, st t2 a1, b1⟩
