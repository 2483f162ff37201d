/-! SPEC 1: scanning, slices, the lengths of growing rows; facts of atoms -/
def scanN (f : Int → Bool) (t : List Int) : Nat → Int → Int
  | 0, p => p
  | k + 1, p => if p < t.length ∧ f (bget t p) = true then scanN f t k (p + 1) else p
def scanE (f : Int → Bool) (t : List Int) (p : Int) : Int := scanN f t t.length p
theorem scanN_ge (f : Int → Bool) (t : List Int) : ∀ (k : Nat) (p : Int), p ≤ scanN f t k p
  | 0, p => Int.le_refl p
  | k + 1, p => by
    unfold scanN
    split
    · have := scanN_ge f t k (p + 1)
      omega
    · omega
theorem scanN_le (f : Int → Bool) (t : List Int) : ∀ (k : Nat) (p : Int), p ≤ t.length → scanN f t k p ≤ t.length
  | 0, p, h => h
  | k + 1, p, h => by
    unfold scanN
    split
    · exact scanN_le f t k (p + 1) (by omega)
    · exact h
theorem scanN_uniq (f : Int → Bool) (t : List Int) : ∀ (k : Nat) (p q : Int), (t.length : Int) - p ≤ k → p ≤ q → (∀ j, p ≤ j → j < q → j < t.length ∧ f (bget t j) = true) → ¬ (q < t.length ∧ f (bget t q) = true) → scanN f t k p = q
  | 0, p, q, hk, hpq, h1, h2 => by
    rcases Int.lt_or_le p q with h | h
    · have := (h1 p (Int.le_refl p) h).1
      omega
    · show p = q
      omega
  | k + 1, p, q, hk, hpq, h1, h2 => by
    unfold scanN
    rcases Int.lt_or_le p q with h | h
    · rw [if_pos (h1 p (Int.le_refl p) h)]
      exact scanN_uniq f t k (p + 1) q (by omega) (by omega) (fun j a b => h1 j (by omega) b) h2
    · have e : p = q := by omega
      subst e
      rw [if_neg h2]
theorem scanE_uniq {f : Int → Bool} {t : List Int} {p q : Int} (h0 : 0 ≤ p) (hpq : p ≤ q) (h1 : ∀ j, p ≤ j → j < q → j < t.length ∧ f (bget t j) = true) (h2 : ¬ (q < t.length ∧ f (bget t q) = true)) : scanE f t p = q := scanN_uniq f t t.length p q (by omega) hpq h1 h2
theorem scanN_all (f : Int → Bool) (t : List Int) : ∀ (k : Nat) (p j : Int), p ≤ j → j < scanN f t k p → j < t.length ∧ f (bget t j) = true
  | 0, p, j, h1, h2 => by
    have h2 : j < p := h2
    omega
  | k + 1, p, j, h1, h2 => by
    unfold scanN at h2
    split at h2
    · rename_i hc
      rcases Int.lt_or_le p j with h | h
      · exact scanN_all f t k (p + 1) j (by omega) h2
      · have e : j = p := by omega
        rw [e]
        exact hc
    · omega
theorem scanN_end (f : Int → Bool) (t : List Int) : ∀ (k : Nat) (p : Int), (t.length : Int) - p ≤ k → ¬ (scanN f t k p < t.length ∧ f (bget t (scanN f t k p)) = true)
  | 0, p, h => by
    rintro ⟨q, -⟩
    have q : p < t.length := q
    omega
  | k + 1, p, h => by
    unfold scanN
    split
    · exact scanN_end f t k (p + 1) (by omega)
    · assumption
theorem scanE_spec {f : Int → Bool} {t : List Int} {p : Int} (h0 : 0 ≤ p) : p ≤ scanE f t p ∧ (p ≤ t.length → scanE f t p ≤ t.length) ∧ (∀ j, p ≤ j → j < scanE f t p → j < t.length ∧ f (bget t j) = true) ∧ ¬ (scanE f t p < t.length ∧ f (bget t (scanE f t p)) = true) :=
  ⟨scanN_ge f t _ p, scanN_le f t _ p, scanN_all f t _ p, scanN_end f t _ p (by omega)⟩
theorem bget_in {l : List Int} {z : Int} (h : bget l z ≠ -1) : 0 ≤ z ∧ z < l.length := by
  unfold bget at h
  split at h
  · assumption
  · exact absurd rfl h
theorem bget_out {l : List Int} {z : Int} (h : ¬ (0 ≤ z ∧ z < l.length)) : bget l z = -1 := by rw [bget, if_neg h]
/-- the bytes from a to before b -/
def slc (t : List Int) (a b : Int) : List Int := (t.drop a.toNat).take (b - a).toNat
theorem slc_nil (t : List Int) (a : Int) : slc t a a = [] := by simp [slc]
theorem slc_len {t : List Int} {a b : Int} (h0 : 0 ≤ a) (h1 : a ≤ b) (h2 : b ≤ t.length) : ((slc t a b).length : Int) = b - a := by
  unfold slc
  rw [List.length_take, List.length_drop]
  omega
theorem slc_snoc {t : List Int} {a b : Int} (h0 : 0 ≤ a) (h1 : a ≤ b) (h2 : b < t.length) : slc t a (b + 1) = slc t a b ++ [bget t b] := by
  unfold slc
  have e1 : (b + 1 - a).toNat = (b - a).toNat + 1 := by omega
  have hl : (b - a).toNat < (t.drop a.toNat).length := by rw [List.length_drop]; omega
  rw [e1, List.take_succ_eq_append_getElem hl]
  congr 2
  rw [bget, if_pos (by omega), List.getElem_drop, List.getD_eq_getElem?_getD, List.getElem?_eq_getElem (show b.toNat < t.length by omega)]
  show t[a.toNat + (b - a).toNat] = t[b.toNat]
  congr 1
  omega
theorem slc_bytes {t : List Int} {a b : Int} (h : ∀ x ∈ t, 0 ≤ x ∧ x ≤ 255) : ∀ x ∈ slc t a b, 0 ≤ x ∧ x ≤ 255 := fun x hx => h x (List.mem_of_mem_drop (List.mem_of_mem_take hx))
/-- the length of a row's array that has had m entries at once -/
def capN (n : Nat) : Nat → Nat
  | 0 => n
  | m + 1 => gcap m (capN n m)
theorem capN_ge (n : Nat) : ∀ m, n ≤ capN n m
  | 0 => Nat.le_refl n
  | m + 1 => Nat.le_trans (capN_ge n m) (gcap_ge m _)
theorem capN_id {n : Nat} : ∀ {m : Nat}, m ≤ n → capN n m = n
  | 0, _ => rfl
  | m + 1, h => by
    show gcap m (capN n m) = n
    rw [capN_id (by omega), gcap, if_pos (by omega)]
theorem capN_mono (n : Nat) {a b : Nat} (h : a ≤ b) : capN n a ≤ capN n b := by
  induction b with
  | zero => rw [show a = 0 by omega]; exact Nat.le_refl _
  | succ b ih =>
    rcases Nat.lt_or_ge a (b + 1) with q | q
    · exact Nat.le_trans (ih (by omega)) (gcap_ge b _)
    · rw [show a = b + 1 by omega]; exact Nat.le_refl _
theorem capN_cov {n : Nat} (h0 : 0 < n) : ∀ m, m ≤ capN n m
  | 0 => Nat.zero_le _
  | m + 1 => gcap_gt (capN_cov h0 m) (Nat.lt_of_lt_of_le h0 (capN_ge n m))
theorem capN_le (n : Nat) : ∀ m, capN n m ≤ max n (2 * m)
  | 0 => by show n ≤ _; omega
  | m + 1 => by
    have := capN_le n m
    show gcap m (capN n m) ≤ _
    unfold gcap
    split <;> omega
theorem capN_step {c n : Nat} (h : c ≤ n) : gcap c n = capN n (c + 1) := by
  show gcap c n = gcap c (capN n c)
  rw [capN_id h]
theorem capN_capN {n : Nat} (h0 : 0 < n) (a : Nat) : ∀ b, capN (capN n a) b = capN n (max a b)
  | 0 => by rw [Nat.max_eq_left (Nat.zero_le a)]; rfl
  | b + 1 => by
    show gcap b (capN (capN n a) b) = _
    rw [capN_capN h0 a b]
    rcases Nat.lt_or_ge b a with q | q
    · rw [show max a b = a by omega, show max a (b + 1) = a by omega, gcap, if_pos (Nat.lt_of_lt_of_le q (capN_cov h0 a))]
    · rw [show max a b = b by omega, show max a (b + 1) = b + 1 by omega]
      rfl
theorem knew_cap {ts : List (List Int)} {n : Nat} {p : List Int} (h : ts.length ≤ n) : knew ts n p = capN n (addT ts p).length := by
  unfold knew addT
  split
  · rw [capN_id h]
  · rw [List.length_append, List.length_singleton, capN_step h]
theorem zSt_in {G : zG} : ∀ {L : List zAt} {ws : va_W} {j : Nat} {a : zAt}, zSt L G ws → L[j]? = some a → ∃ w, a G w
  | [], _, _, _, _, h => by simp at h
  | b :: l, ws, 0, a, ⟨u, v, _, h1, _⟩, h => by
    simp only [List.getElem?_cons_zero, Option.some.injEq] at h
    subst h
    exact ⟨u, h1⟩
  | b :: l, ws, j + 1, a, ⟨u, v, _, _, h2⟩, h => by
    rw [List.getElem?_cons_succ] at h
    exact zSt_in h2 h
theorem zWL_fact {h n : Nat} {ws : List (Int32 × Int32 × Int32)} {G : zG} {w : va_W} (q : zWL h ws n G w) : ws.length ≤ n ∧ 0 < n ∧ n ≤ 131072 ∧ ws.length ≤ 16384 := by
  obtain ⟨x, h1, h2⟩ := q
  obtain ⟨w', y, ⟨k1, k2, k3, -⟩, -⟩ := zSt_in (j := 1) h2 rfl
  rw [List.length_map] at k1
  exact ⟨k1, k2, k3, h1⟩
theorem zTS_fact {h nb n : Nat} {ts : List (List Int)} {pend : List Int} {G : zG} {w : va_W} (q : zTS h ts pend nb n G w) : (ts.length ≤ n ∧ 0 < n ∧ n ≤ 131072 ∧ ts.length ≤ 16384) ∧ ((ts.flatten ++ pend).length ≤ nb ∧ 0 < nb ∧ nb ≤ 131072) ∧ difT ts ∧ ∀ b ∈ ts.flatten ++ pend, 0 ≤ b ∧ b ≤ 255 := by
  obtain ⟨x, ⟨g1, g2, g3⟩, h2⟩ := q
  obtain ⟨w1, y, ⟨k1, k2, k3, k4, -⟩, -⟩ := zSt_in (j := 1) h2 rfl
  obtain ⟨w2, z, ⟨m1, m2, m3, -⟩, -⟩ := zSt_in (j := 2) h2 rfl
  rw [tsStarts_len] at m1
  exact ⟨⟨m1, m2, m3, g1⟩, ⟨k1, k2, k3⟩, g2, k4⟩
theorem zBR_fact {h n : Nat} {t : List Int} {G : zG} {w : va_W} (q : zBRow h t n G w) : (t.length ≤ n ∧ 0 < n ∧ n ≤ 131072) ∧ ∀ b ∈ t, 0 ≤ b ∧ b ≤ 255 := by
  obtain ⟨x, ⟨k1, k2, k3, k4, -⟩, -⟩ := q
  exact ⟨⟨k1, k2, k3⟩, k4⟩
