/-! WHAT THE STORE OF TEXTS IS: pure values -/
theorem zgD_l {α : Type} (l m : List α) (d : α) {k : Nat} (h : k < l.length) : (l ++ m).getD k d = l.getD k d := by rw [List.getD_eq_getElem?_getD, List.getD_eq_getElem?_getD, List.getElem?_append_left h]
theorem zgD_r {α : Type} (l m : List α) (d : α) {k : Nat} (h : l.length ≤ k) : (l ++ m).getD k d = m.getD (k - l.length) d := by rw [List.getD_eq_getElem?_getD, List.getD_eq_getElem?_getD, List.getElem?_append_right h]
def hashL (l : List Int) : Int32 := l.foldl (fun h b => zI 31 * h + zI b + zI 1) (zI 0)
theorem hashL_snoc (l : List Int) (b : Int) : hashL (l ++ [b]) = zI 31 * hashL l + zI b + zI 1 := by simp [hashL, List.foldl_append]
def bucketX (x : Int32) : Int32 := (x ^^^ (x.toUInt32 >>> ((zI 15).toUInt32 &&& Int32.toUInt32 31)).toInt32) &&& zI 1023
theorem bucketX_in (x : Int32) : ∃ j : Nat, j < 1024 ∧ bucketX x = zI (j : Int) := by
  obtain ⟨j, h1, h2⟩ := pk_andE (x ^^^ (x.toUInt32 >>> ((zI 15).toUInt32 &&& Int32.toUInt32 31)).toInt32) (m := zI 1023) 10 (by decide)
  exact ⟨j, h1, by rw [zI_nat]; exact h2⟩
def bkt (t : List Int) : Nat := (bucketX (hashL t)).toNatClampNeg
theorem bkt_spec (t : List Int) : bkt t < 1024 ∧ bucketX (hashL t) = zI (bkt t : Int) := by
  obtain ⟨j, h1, h2⟩ := bucketX_in (hashL t)
  have e : bkt t = j := by
    unfold bkt
    rw [h2, zI_cl (by omega)]
    omega
  rw [e]
  exact ⟨h1, h2⟩
/-- the last text ahead of m in bucket b, or -1 -/
def lastB (ts : List (List Int)) (b : Nat) : Nat → Int
  | 0 => -1
  | m + 1 => if bkt (ts.getD m []) = b then (m : Int) else lastB ts b m
theorem lastB_rg (ts : List (List Int)) (b : Nat) : ∀ m : Nat, -1 ≤ lastB ts b m ∧ lastB ts b m < m
  | 0 => by simp [lastB]
  | m + 1 => by
    have := lastB_rg ts b m
    unfold lastB
    split <;> omega
theorem lastB_in (ts : List (List Int)) (b : Nat) : ∀ m : Nat, 0 ≤ lastB ts b m → bkt (ts.getD (lastB ts b m).toNat []) = b
  | 0, h => by simp [lastB] at h
  | m + 1, h => by
    unfold lastB at h ⊢
    split
    · simpa using ‹bkt (ts.getD m []) = b›
    · rename_i hc
      rw [if_neg hc] at h
      exact lastB_in ts b m h
theorem lastB_out (ts : List (List Int)) (b : Nat) : ∀ (m j : Nat), lastB ts b m < j → j < m → bkt (ts.getD j []) ≠ b
  | 0, j, _, h => by omega
  | m + 1, j, h1, h2 => by
    unfold lastB at h1
    split at h1
    · omega
    · rename_i hc
      by_cases e : j = m
      · subst e
        exact hc
      · exact lastB_out ts b m j h1 (by omega)
theorem lastB_app (ts : List (List Int)) (t : List Int) (b : Nat) : ∀ m : Nat, m ≤ ts.length → lastB (ts ++ [t]) b m = lastB ts b m
  | 0, _ => rfl
  | m + 1, h => by
    unfold lastB
    rw [lastB_app ts t b m (by omega), zgD_l _ _ _ (by omega)]
/-- the place of a text, or how many there are -/
def ixOf : List (List Int) → List Int → Nat
  | [], _ => 0
  | t :: l, p => if t = p then 0 else ixOf l p + 1
theorem ixOf_le : ∀ (ts : List (List Int)) (p : List Int), ixOf ts p ≤ ts.length
  | [], _ => Nat.le_refl _
  | t :: l, p => by
    have := ixOf_le l p
    unfold ixOf
    split
    · simp
    · simp only [List.length_cons]; omega
theorem ixOf_get : ∀ (ts : List (List Int)) (p : List Int), ixOf ts p < ts.length → ts.getD (ixOf ts p) [] = p
  | [], _, h => by simp [ixOf] at h
  | t :: l, p, h => by
    unfold ixOf at h ⊢
    split
    · rename_i e
      simpa using e
    · rename_i e
      rw [if_neg e] at h
      simp only [List.length_cons] at h
      rw [List.getD_cons_succ]
      exact ixOf_get l p (by omega)
theorem ixOf_first : ∀ (ts : List (List Int)) (p : List Int) (j : Nat), j < ixOf ts p → ts.getD j [] ≠ p
  | [], _, j, h => by simp [ixOf] at h
  | t :: l, p, j, h => by
    unfold ixOf at h
    split at h
    · omega
    · rename_i e
      cases j with
      | zero => simpa using e
      | succ j =>
        rw [List.getD_cons_succ]
        exact ixOf_first l p j (by omega)
/-- all texts are different -/
def difT (ts : List (List Int)) : Prop := ∀ i j : Nat, i < ts.length → j < ts.length → ts.getD i [] = ts.getD j [] → i = j
theorem ixOf_uniq {ts : List (List Int)} {p : List Int} {j : Nat} (hd : difT ts) (hj : j < ts.length) (e : ts.getD j [] = p) : ixOf ts p = j := by
  rcases Nat.lt_trichotomy (ixOf ts p) j with h | h | h
  · exact hd _ _ (by omega) hj ((ixOf_get ts p (by omega)).trans e.symm)
  · exact h
  · exact absurd e (ixOf_first ts p j h)
theorem ixOf_none {ts : List (List Int)} {p : List Int} (h : ∀ j, j < ts.length → ts.getD j [] ≠ p) : ixOf ts p = ts.length := by
  have h1 := ixOf_le ts p
  rcases Nat.lt_or_ge (ixOf ts p) ts.length with h2 | h2
  · exact absurd (ixOf_get ts p h2) (h _ h2)
  · omega
/-- the texts behind one more -/
def addT (ts : List (List Int)) (p : List Int) : List (List Int) := if ixOf ts p < ts.length then ts else ts ++ [p]
theorem difT_add {ts : List (List Int)} {p : List Int} (hd : difT ts) (h : ixOf ts p = ts.length) : difT (ts ++ [p]) := by
  intro i j hi hj e
  simp only [List.length_append, List.length_cons, List.length_nil] at hi hj
  have hf : ∀ k, k < ts.length → (ts ++ [p]).getD k [] = ts.getD k [] := fun k hk => zgD_l _ _ _ hk
  have hl : (ts ++ [p]).getD ts.length [] = p := by rw [zgD_r _ _ _ (Nat.le_refl _)]; simp
  by_cases h1 : i < ts.length
  · by_cases h2 : j < ts.length
    · rw [hf i h1, hf j h2] at e
      exact hd i j h1 h2 e
    · have : j = ts.length := by omega
      subst this
      rw [hf i h1, hl] at e
      exact absurd e (ixOf_first ts p i (by omega))
  · have e1 : i = ts.length := by omega
    subst e1
    by_cases h2 : j < ts.length
    · rw [hf j h2, hl] at e
      exact absurd e.symm (ixOf_first ts p j (by omega))
    · omega
