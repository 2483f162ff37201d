/-! THE STORE: what its rows hold at a place -/
theorem tsStarts_len (ts : List (List Int)) : (tsStarts ts).length = ts.length := by simp [tsStarts]
theorem tsSizes_len (ts : List (List Int)) : (tsSizes ts).length = ts.length := by simp [tsSizes]
theorem tsHashes_len (ts : List (List Int)) : (tsHashes ts).length = ts.length := by simp [tsHashes]
theorem tsOlder_len (ts : List (List Int)) : (tsOlder ts).length = ts.length := by simp [tsOlder]
theorem zgD_map {α β : Type} (f : α → β) (l : List α) (d : α) (e : β) {k : Nat} (h : k < l.length) : (l.map f).getD k e = f (l.getD k d) := by
  rw [List.getD_eq_getElem?_getD, List.getD_eq_getElem?_getD, List.getElem?_map, List.getElem?_eq_getElem h]
  rfl
theorem zgD_range {β : Type} (f : Nat → β) (m : Nat) (e : β) {k : Nat} (h : k < m) : ((List.range m).map f).getD k e = f k := by
  rw [List.getD_eq_getElem?_getD, List.getElem?_map, List.getElem?_range h]
  rfl
theorem ig_sizes {ts : List (List Int)} {z : Int} (h : 0 ≤ z ∧ z < ts.length) : iget (tsSizes ts) z = zI ((ts.getD z.toNat []).length : Nat) := by
  rw [iget, tsSizes_len, if_pos h, tsSizes, zgD_map _ _ [] _ (by omega)]
theorem ig_hashes {ts : List (List Int)} {z : Int} (h : 0 ≤ z ∧ z < ts.length) : iget (tsHashes ts) z = hashL (ts.getD z.toNat []) := by
  rw [iget, tsHashes_len, if_pos h, tsHashes, zgD_map _ _ [] _ (by omega)]
theorem ig_starts {ts : List (List Int)} {z : Int} (h : 0 ≤ z ∧ z < ts.length) : iget (tsStarts ts) z = zI ((ts.take z.toNat).flatten.length : Nat) := by
  rw [iget, tsStarts_len, if_pos h, tsStarts, zgD_range _ _ _ (by omega)]
theorem ig_older {ts : List (List Int)} {z : Int} (h : 0 ≤ z ∧ z < ts.length) : iget (tsOlder ts) z = zI (lastB ts (bkt (ts.getD z.toNat [])) z.toNat) := by
  rw [iget, tsOlder_len, if_pos h, tsOlder, zgD_range _ _ _ (by omega)]
theorem ts_split {ts : List (List Int)} {i : Nat} (h : i < ts.length) : ts = ts.take i ++ ts.getD i [] :: ts.drop (i + 1) := by
  rw [List.getD_eq_getElem?_getD, List.getElem?_eq_getElem h]
  show ts = ts.take i ++ ts[i] :: ts.drop (i + 1)
  rw [← List.drop_eq_getElem_cons h, List.take_append_drop]
theorem ts_flat {ts : List (List Int)} {i : Nat} (h : i < ts.length) : ts.flatten = (ts.take i).flatten ++ (ts.getD i [] ++ (ts.drop (i + 1)).flatten) := by
  have e := congrArg List.flatten (ts_split h)
  rw [List.flatten_append, List.flatten_cons] at e
  exact e
theorem ts_bound {ts : List (List Int)} {i : Nat} (h : i < ts.length) : (ts.take i).flatten.length + (ts.getD i []).length ≤ ts.flatten.length := by
  have e := congrArg List.length (ts_flat h)
  rw [List.length_append, List.length_append] at e
  omega
theorem ts_at {ts : List (List Int)} {p : List Int} {i w : Nat} (h : i < ts.length) (hw : w < (ts.getD i []).length) : (ts.flatten ++ p).getD ((ts.take i).flatten.length + w) 0 = (ts.getD i []).getD w 0 := by
  rw [ts_flat h, List.append_assoc, zgD_r _ _ _ (by omega), show (ts.take i).flatten.length + w - (ts.take i).flatten.length = w by omega, List.append_assoc, zgD_l _ _ _ hw]
def tsAt (ts : List (List Int)) (z w : Int) : Int := if (0 ≤ z ∧ z < ts.length) ∧ 0 ≤ w ∧ w < (ts.getD z.toNat []).length then (ts.getD z.toNat []).getD w.toNat 0 else -1
theorem tsStarts_add (ts : List (List Int)) (p : List Int) : tsStarts (ts ++ [p]) = tsStarts ts ++ [zI (ts.flatten.length : Nat)] := by
  unfold tsStarts
  rw [List.length_append, List.length_singleton, List.range_succ, List.map_append]
  congr 1
  · apply List.map_congr_left
    intro i hi
    have hi := List.mem_range.mp hi
    rw [List.take_append_of_le_length (by omega)]
  · simp
theorem tsSizes_add (ts : List (List Int)) (p : List Int) : tsSizes (ts ++ [p]) = tsSizes ts ++ [zI (p.length : Nat)] := by simp [tsSizes]
theorem tsHashes_add (ts : List (List Int)) (p : List Int) : tsHashes (ts ++ [p]) = tsHashes ts ++ [hashL p] := by simp [tsHashes]
theorem tsOlder_add (ts : List (List Int)) (p : List Int) : tsOlder (ts ++ [p]) = tsOlder ts ++ [zI (lastB ts (bkt p) ts.length)] := by
  unfold tsOlder
  rw [List.length_append, List.length_singleton, List.range_succ, List.map_append]
  congr 1
  · apply List.map_congr_left
    intro i hi
    have hi := List.mem_range.mp hi
    rw [zgD_l _ _ _ hi, lastB_app _ _ _ _ (by omega)]
  · simp only [List.map_cons, List.map_nil]
    rw [zgD_r _ _ _ (Nat.le_refl _), lastB_app _ _ _ _ (Nat.le_refl _)]
    simp
theorem lastB_add (ts : List (List Int)) (p : List Int) (b : Nat) : lastB (ts ++ [p]) b (ts ++ [p]).length = if bkt p = b then (ts.length : Int) else lastB ts b ts.length := by
  rw [List.length_append, List.length_singleton]
  show (if bkt ((ts ++ [p]).getD ts.length []) = b then (ts.length : Int) else lastB (ts ++ [p]) b ts.length) = _
  rw [zgD_r _ _ _ (Nat.le_refl _), lastB_app _ _ _ _ (Nat.le_refl _)]
  simp
theorem lastB_none {ts : List (List Int)} {b : Nat} (h : ∀ j, j < ts.length → bkt (ts.getD j []) ≠ b) : lastB ts b ts.length = -1 := by
  have h1 := lastB_rg ts b ts.length
  rcases Int.lt_or_le (lastB ts b ts.length) 0 with h2 | h2
  · omega
  · exact absurd (lastB_in ts b _ h2) (h _ (by omega))
theorem hash_step {pend : List Int} {i : Nat} (h : i < pend.length) : hashL (pend.take (i + 1)) = zI 31 * hashL (pend.take i) + zI (pend.getD i 0) + zI 1 := by
  rw [← hashL_snoc]
  congr 1
  rw [List.take_succ_eq_append_getElem h, List.getD_eq_getElem?_getD, List.getElem?_eq_getElem h]
  rfl
theorem take_step {a b : List Int} {k : Int} (h : a.take k.toNat = b.take k.toNat) (h0 : 0 ≤ k) (ha : k < a.length) (hb : k < b.length) (e : a.getD k.toNat 0 = b.getD k.toNat 0) : a.take (k + 1).toNat = b.take (k + 1).toNat := by
  have e1 : (k + 1).toNat = k.toNat + 1 := by omega
  have l1 : k.toNat < a.length := by omega
  have l2 : k.toNat < b.length := by omega
  rw [List.getD_eq_getElem?_getD, List.getD_eq_getElem?_getD, List.getElem?_eq_getElem l1, List.getElem?_eq_getElem l2] at e
  have e' : a[k.toNat] = b[k.toNat] := by simpa using e
  rw [e1, List.take_succ_eq_append_getElem l1, List.take_succ_eq_append_getElem l2, h, e']
/-- the length of the store's rows behind a keep -/
def knew (ts : List (List Int)) (n : Nat) (p : List Int) : Nat := if ixOf ts p < ts.length then n else gcap ts.length n
theorem rshort_app (a b : List Int) : rshort (a ++ b) ((a.length : Nat) : Int) = a := by
  unfold rshort
  split
  · rw [show ((a.length : Nat) : Int).toNat = a.length by omega]
    simp
  · rename_i h
    have : b = [] := by
      rw [List.length_append] at h
      exact List.length_eq_zero_iff.mp (by omega)
    rw [this, List.append_nil]
