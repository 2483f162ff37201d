/-! SPEC 2: texts in brackets and by pairs of digits -/
def lnPos (t : List Int) (p : Int) : Int := if bget t p = 13 ∧ bget t (p + 1) = 10 then p + 2 else p + 1
def octS (t : List Int) : Nat → Int → Int → Int × Int
  | 0, p, s => (s, p)
  | k + 1, p, s => if sOct (bget t p) = true then octS t k (p + 1) (8 * s + bget t p - 48) else (s, p)
/-- behind a backslash, at q: the bytes that come of it, and where it goes on -/
def escS (t : List Int) (q : Int) : List Int × Int :=
  if sLine (bget t q) = true then ([], lnPos t q)
  else if sOct (bget t q) = true then ([(octS t 3 q 0).1 % 256], (octS t 3 q 0).2)
  else if bget t q = -1 then ([], q)
  else ([meantV (bget t q) % 256], q + 1)
/-- from q on, d brackets open, acc taken: the bytes, and the place of the closing bracket or -1 -/
def brS (t : List Int) : Nat → Int → Int → List Int → List Int × Int
  | 0, _, _, acc => (acc, -1)
  | k + 1, q, d, acc =>
    if ¬ q < t.length then (acc, -1)
    else if bget t q = 92 then brS t k (escS t (q + 1)).2 d (acc ++ (escS t (q + 1)).1)
    else if d + (if bget t q = 40 then 1 else if bget t q = 41 then -1 else 0) = 0 then (acc, q)
    else brS t k (if bget t q = 13 ∧ bget t (q + 1) = 10 then q + 2 else q + 1) (d + (if bget t q = 40 then 1 else if bget t q = 41 then -1 else 0)) (acc ++ [if bget t q = 13 then 10 else bget t q])
/-- from q on, hf a digit that waits or -1, acc taken: the bytes, the digit that waits, why (0: > is at the place), the place -/
def prS (t : List Int) : Nat → Int → Int → List Int → List Int × Int × Int × Int
  | 0, q, hf, acc => (acc, hf, 2, q)
  | k + 1, q, hf, acc =>
    if ¬ q < t.length then (acc, hf, 2, q)
    else if bget t q = 62 then (acc, hf, 0, q)
    else if sBlank (bget t q) = true then prS t k (q + 1) hf acc
    else if digV (bget t q) < 0 ∨ 15 < digV (bget t q) then (acc, hf, 3, q)
    else if hf = -1 then prS t k (q + 1) (digV (bget t q)) acc
    else prS t k (q + 1) (-1) (acc ++ [16 * hf + digV (bget t q)])
theorem octS_rg {t : List Int} : ∀ (k : Nat) (p s : Int), 0 ≤ s → 0 ≤ p → p ≤ t.length → p ≤ (octS t k p s).2 ∧ (octS t k p s).2 ≤ t.length ∧ 0 ≤ (octS t k p s).1 ∧ (sOct (bget t p) = true → 0 < k → p < (octS t k p s).2)
  | 0, p, s, h, h1, h2 => by simp [octS]; omega
  | k + 1, p, s, h, h1, h2 => by
    unfold octS
    split
    · rename_i hc
      have hb : 48 ≤ bget t p ∧ bget t p ≤ 55 := of_decide_eq_true hc
      have hin := bget_in (l := t) (z := p) (by omega)
      have := octS_rg (t := t) k (p + 1) (8 * s + bget t p - 48) (by omega) (by omega) (by omega)
      refine ⟨by omega, by omega, by omega, fun _ _ => by omega⟩
    · rename_i hc
      exact ⟨by omega, by omega, by omega, fun q => absurd q hc⟩
theorem lnPos_rg {t : List Int} {p : Int} (h : 0 ≤ p ∧ p < t.length) : p < lnPos t p ∧ lnPos t p ≤ t.length := by
  unfold lnPos
  split
  · rename_i hc
    have := bget_in (l := t) (z := p + 1) (by omega)
    omega
  · omega
theorem escS_rg {t : List Int} {q : Int} (h : 0 ≤ q ∧ q ≤ t.length) : q ≤ (escS t q).2 ∧ (escS t q).2 ≤ t.length ∧ (escS t q).1.length ≤ 1 ∧ ((escS t q).1.length : Int) ≤ (escS t q).2 - q := by
  unfold escS
  split
  · rename_i hc
    have hb : bget t q = 10 ∨ bget t q = 13 := of_decide_eq_true hc
    have hin := bget_in (l := t) (z := q) (by omega)
    have := lnPos_rg hin
    simp
    omega
  · split
    · rename_i hc
      have := octS_rg (t := t) 3 q 0 (by omega) h.1 h.2
      have h4 := this.2.2.2 hc (by omega)
      simp
      omega
    · split
      · simp; omega
      · rename_i hc
        have hin := bget_in hc
        simp
        omega
theorem digV_rg (z : Int) : -1 ≤ digV z ∧ digV z ≤ 35 := by
  unfold digV
  repeat' split
  all_goals omega
