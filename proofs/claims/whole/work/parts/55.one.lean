/-! SPEC 3: one word, and the whole cut -/
theorem brS_rg {t : List Int} : ∀ (k : Nat) (q d : Int) (acc : List Int) {xs : List Int} {E : Int}, 0 ≤ q → q ≤ t.length → brS t k q d acc = (xs, E) → (E = -1 ∧ (xs.length : Int) ≤ acc.length + (t.length - q)) ∨ (q ≤ E ∧ E < t.length ∧ (xs.length : Int) ≤ acc.length + (E - q))
  | 0, q, d, acc, xs, E, h0, h1, h => by
    unfold brS at h
    cases h
    exact Or.inl ⟨rfl, by omega⟩
  | k + 1, q, d, acc, xs, E, h0, h1, h => by
    unfold brS at h
    split at h
    · cases h
      exact Or.inl ⟨rfl, by omega⟩
    · split at h
      · have hr := escS_rg (t := t) (q := q + 1) (by omega)
        have := brS_rg k _ _ _ (by omega) (by omega) h
        rw [List.length_append] at this
        omega
      · generalize d + (if bget t q = 40 then 1 else if bget t q = 41 then -1 else 0) = d2 at h
        split at h
        · cases h
          exact Or.inr ⟨by omega, by omega, by omega⟩
        · have hr : q + 1 ≤ (if bget t q = 13 ∧ bget t (q + 1) = 10 then q + 2 else q + 1) ∧ (if bget t q = 13 ∧ bget t (q + 1) = 10 then q + 2 else q + 1) ≤ t.length := by
            split
            · rename_i hc
              have := bget_in (l := t) (z := q + 1) (by omega)
              omega
            · omega
          have := brS_rg k _ _ _ (by omega) (by omega) h
          rw [List.length_append, List.length_singleton] at this
          omega
theorem prS_rg {t : List Int} : ∀ (k : Nat) (q hf : Int) (acc : List Int) {xs : List Int} {h1 wy E : Int}, 0 ≤ q → q ≤ t.length → prS t k q hf acc = (xs, h1, wy, E) → q ≤ E ∧ E ≤ t.length ∧ (wy = 0 → E < t.length) ∧ (wy = 0 ∨ wy = 2 ∨ wy = 3) ∧ 2 * (xs.length : Int) + (if h1 = -1 then 0 else 1) ≤ 2 * acc.length + (if hf = -1 then 0 else 1) + (E - q)
  | 0, q, hf, acc, xs, h1, wy, E, h0, h2, h => by
    unfold prS at h
    cases h
    exact ⟨by omega, by omega, fun e => absurd e (by decide), by omega, by omega⟩
  | k + 1, q, hf, acc, xs, h1, wy, E, h0, h2, h => by
    unfold prS at h
    split at h
    · cases h
      exact ⟨by omega, by omega, fun e => absurd e (by decide), by omega, by omega⟩
    · split at h
      · cases h
        exact ⟨by omega, by omega, fun _ => by omega, by omega, by omega⟩
      · split at h
        · have := prS_rg k _ _ _ (by omega) (by omega) h
          exact ⟨by omega, by omega, this.2.2.1, this.2.2.2.1, by omega⟩
        · split at h
          · cases h
            exact ⟨by omega, by omega, fun e => absurd e (by decide), by omega, by omega⟩
          · split at h
            · rename_i hd hh
              have := prS_rg k _ _ _ (by omega) (by omega) h
              refine ⟨by omega, by omega, this.2.2.1, this.2.2.2.1, ?_⟩
              have h5 := this.2.2.2.2
              rw [if_neg (show ¬ digV (bget t q) = -1 by omega)] at h5
              rw [if_pos hh]
              omega
            · rename_i hd hh
              have := prS_rg k _ _ _ (by omega) (by omega) h
              refine ⟨by omega, by omega, this.2.2.1, this.2.2.2.1, ?_⟩
              have h5 := this.2.2.2.2
              rw [List.length_append, List.length_singleton, if_pos rfl] at h5
              rw [if_neg hh]
              omega
theorem prX_rg {t : List Int} {k : Nat} {q : Int} {xs : List Int} {h1 wy E : Int} (h0 : 0 ≤ q) (h2 : q ≤ t.length) (h : prS t k q (-1) [] = (xs, h1, wy, E)) : ((prX xs h1).length : Int) ≤ E - q ∧ (xs.length : Int) ≤ E - q := by
  have := (prS_rg k q (-1) [] h0 h2 h).2.2.2.2
  rw [if_pos rfl] at this
  simp only [List.length_nil] at this
  unfold prX
  split
  · rename_i e
    rw [if_pos e] at this
    omega
  · rename_i e
    rw [if_neg e] at this
    rw [List.length_append, List.length_singleton]
    omega
/-- where a cut is: place, words, texts, open braces, why, where, bytes put and not kept, the most bytes at once -/
abbrev zU : Type := Int × List (Int32 × Int32 × Int32) × List (List Int) × List Int × Int × Int × List Int × Nat
abbrev zU.p (u : zU) : Int := u.1
abbrev zU.ws (u : zU) : List (Int32 × Int32 × Int32) := u.2.1
abbrev zU.ts (u : zU) : List (List Int) := u.2.2.1
abbrev zU.op (u : zU) : List Int := u.2.2.2.1
abbrev zU.y (u : zU) : Int := u.2.2.2.2.1
abbrev zU.r (u : zU) : Int := u.2.2.2.2.2.1
abbrev zU.pend (u : zU) : List Int := u.2.2.2.2.2.2.1
abbrev zU.mb (u : zU) : Nat := u.2.2.2.2.2.2.2
def txS (u : zU) (kd : Int) (xs : List Int) (en : Int) : zU := ⟨en, u.ws ++ [(zI kd, zI ((ixOf u.ts xs : Nat) : Int), zI u.p)], addT u.ts xs, u.op, u.y, u.r, [], max u.mb (u.ts.flatten.length + xs.length)⟩
def flS (u : zU) (why plc : Int) : zU := ⟨u.p, u.ws, u.ts, u.op, why, plc, [], u.mb⟩
noncomputable def rdK (t : List Int) (p q : Int) : Int × Int32 × Int := rdS t p q 0 0
theorem rdS_K (t : List Int) (p q : Int) (v : Int32) (ft : Int) : (rdS t p q v ft).1 = (rdK t p q).1 ∧ ((rdK t p q).1 ≠ 3 → rdS t p q v ft = rdK t p q) := by
  unfold rdK rdS
  repeat' split
  all_goals first | exact ⟨rfl, fun _ => rfl⟩ | exact ⟨rfl, fun h => absurd rfl h⟩
theorem rdK_rg (t : List Int) (p q : Int) : (1 ≤ (rdK t p q).1 ∧ (rdK t p q).1 ≤ 3) ∧ 0 ≤ (rdK t p q).2.2 ∧ (rdK t p q).2.2 ≤ 1 := by
  refine ⟨?_, rdS_ft0 ⟨by omega, by omega⟩⟩
  unfold rdK rdS
  repeat' split
  all_goals first | exact ⟨by show (1 : Int) ≤ 1; omega, by show (1 : Int) ≤ 3; omega⟩ | exact ⟨by show (1 : Int) ≤ 2; omega, by show (2 : Int) ≤ 3; omega⟩ | exact ⟨by show (1 : Int) ≤ 3; omega, by show (3 : Int) ≤ 3; omega⟩
noncomputable def rowS (t : List Int) (u : zU) : zU :=
  if 127 < rowE t u.p - u.p then flS u 6 u.p
  else if (rdK t u.p (rowE t u.p)).1 = 3 then txS u 3 (slc t u.p (rowE t u.p)) (rowE t u.p)
  else if (rdK t u.p (rowE t u.p)).2.2 = 0 then flS u 5 u.p
  else ⟨rowE t u.p, u.ws ++ [(zI (rdK t u.p (rowE t u.p)).1, (rdK t u.p (rowE t u.p)).2.1, zI u.p)], u.ts, u.op, u.y, u.r, [], u.mb⟩
def brkS (t : List Int) (u : zU) (z : List Int × Int) : zU :=
  if 0 ≤ z.2 then txS u 5 z.1 (z.2 + 1) else ⟨t.length, u.ws, u.ts, u.op, 2, t.length, z.1, max u.mb (u.ts.flatten.length + z.1.length)⟩
def prsS (t : List Int) (u : zU) (z : List Int × Int × Int × Int) : zU :=
  if z.2.2.1 = 0 then txS u 5 (prX z.1 z.2.1) (z.2.2.2 + 1)
  else if z.2.2.1 = 2 then ⟨t.length, u.ws, u.ts, u.op, 2, t.length, prX z.1 z.2.1, max u.mb (u.ts.flatten.length + (prX z.1 z.2.1).length)⟩
  else ⟨z.2.2.2, u.ws, u.ts, u.op, 3, z.2.2.2, z.1, max u.mb (u.ts.flatten.length + z.1.length)⟩
def opnS (u : zU) : zU := if u.op.length < 64 then ⟨u.p + 1, u.ws ++ [(zI 6, zI (-1), zI u.p)], u.ts, u.op ++ [((u.ws.length : Nat) : Int)], u.y, u.r, [], u.mb⟩ else flS u 7 u.p
def clsS (u : zU) : zU := if u.op.length = 0 then flS u 4 u.p else ⟨u.p + 1, wsetN u.ws (u.op.getD (u.op.length - 1) 0) (zI ((u.ws.length : Nat) : Int)) ++ [(zI 7, zI (u.op.getD (u.op.length - 1) 0), zI u.p)], u.ts, u.op.take (u.op.length - 1), u.y, u.r, [], u.mb⟩
noncomputable def oneS (t : List Int) (u : zU) : zU :=
  if bget t u.p = 40 then brkS t u (brS t t.length (u.p + 1) 1 [])
  else if bget t u.p = 41 then flS u 1 u.p
  else if bget t u.p = 47 then (if 127 < rowE t (u.p + 1) - u.p - 1 then flS u 6 u.p else txS u 4 (slc t (u.p + 1) (rowE t (u.p + 1))) (rowE t (u.p + 1)))
  else if bget t u.p = 60 ∨ bget t u.p = 62 then
    (if bget t (u.p + 1) = bget t u.p then txS u 3 (slc t u.p (u.p + 2)) (u.p + 2)
     else if bget t u.p = 60 then prsS t u (prS t t.length (u.p + 1) (-1) []) else flS u 1 u.p)
  else if bget t u.p = 91 ∨ bget t u.p = 93 then txS u 3 (slc t u.p (u.p + 1)) (u.p + 1)
  else if bget t u.p = 123 then opnS u
  else if bget t u.p = 125 then clsS u
  else rowS t u
/-- what holds of a cut all along -/
abbrev zUok (t : List Int) (u : zU) : Prop := 0 ≤ u.p ∧ u.p ≤ t.length ∧ (u.ws.length : Int) ≤ u.p ∧ u.ts.length ≤ u.ws.length ∧ (u.ts.flatten.length : Int) ≤ u.p ∧ u.op.length ≤ 64 ∧ (∀ x ∈ u.op, 0 ≤ x ∧ x < u.ws.length) ∧ u.mb ≤ t.length ∧ (u.y = 0 → u.pend = []) ∧ u.ts.flatten.length + u.pend.length ≤ u.mb
theorem zUok.p0 {t : List Int} {u : zU} (h : zUok t u) : 0 ≤ u.p := h.1
theorem zUok.p1 {t : List Int} {u : zU} (h : zUok t u) : u.p ≤ t.length := h.2.1
theorem zUok.w {t : List Int} {u : zU} (h : zUok t u) : (u.ws.length : Int) ≤ u.p := h.2.2.1
theorem zUok.s {t : List Int} {u : zU} (h : zUok t u) : u.ts.length ≤ u.ws.length := h.2.2.2.1
theorem zUok.f {t : List Int} {u : zU} (h : zUok t u) : (u.ts.flatten.length : Int) ≤ u.p := h.2.2.2.2.1
theorem zUok.o {t : List Int} {u : zU} (h : zUok t u) : u.op.length ≤ 64 := h.2.2.2.2.2.1
theorem zUok.ox {t : List Int} {u : zU} (h : zUok t u) : ∀ x ∈ u.op, 0 ≤ x ∧ x < u.ws.length := h.2.2.2.2.2.2.1
theorem zUok.m {t : List Int} {u : zU} (h : zUok t u) : u.mb ≤ t.length := h.2.2.2.2.2.2.2.1
theorem zUok.d {t : List Int} {u : zU} (h : zUok t u) : u.y = 0 → u.pend = [] := h.2.2.2.2.2.2.2.2.1
theorem zUok.g {t : List Int} {u : zU} (h : zUok t u) : u.ts.flatten.length + u.pend.length ≤ u.mb := h.2.2.2.2.2.2.2.2.2
theorem addT_fl (ts : List (List Int)) (xs : List Int) : (addT ts xs).length ≤ ts.length + 1 ∧ (addT ts xs).flatten.length ≤ ts.flatten.length + xs.length := by
  unfold addT
  split
  · omega
  · rw [List.length_append, List.length_singleton, List.flatten_append, List.length_append]
    simp
theorem txS_ok {t : List Int} {u : zU} (h : zUok t u) {kd : Int} {xs : List Int} {en : Int} (h1 : u.p < en) (h2 : en ≤ t.length) (h3 : (xs.length : Int) ≤ en - u.p) : zUok t (txS u kd xs en) := by
  have ha := addT_fl u.ts xs
  have := h.w; have := h.s; have := h.f; have := h.p0; have := h.m
  refine ⟨?_, h2, ?_, ?_, ?_, h.o, ?_, ?_, fun _ => rfl, ?_⟩
  · show 0 ≤ en; omega
  · show ((u.ws ++ [_]).length : Int) ≤ en; rw [List.length_append, List.length_singleton]; omega
  · show (addT u.ts xs).length ≤ (u.ws ++ [_]).length; rw [List.length_append, List.length_singleton]; omega
  · show ((addT u.ts xs).flatten.length : Int) ≤ en; omega
  · intro x hx
    have := h.ox x hx
    show 0 ≤ x ∧ x < ((u.ws ++ [_]).length : Nat)
    rw [List.length_append, List.length_singleton]; omega
  · show max u.mb (u.ts.flatten.length + xs.length) ≤ t.length; omega
  · show (addT u.ts xs).flatten.length + 0 ≤ max u.mb (u.ts.flatten.length + xs.length); omega
theorem flS_ok {t : List Int} {u : zU} (h : zUok t u) (y r : Int) (hy : y ≠ 0) : zUok t (flS u y r) := by
  have := h.g
  exact ⟨h.p0, h.p1, h.w, h.s, h.f, h.o, h.ox, h.m, fun e => absurd e hy, by show u.ts.flatten.length + 0 ≤ u.mb; omega⟩
theorem pd_ok {t : List Int} {u : zU} (h : zUok t u) {q : Int} {xs : List Int} {y r : Int} (hy : y ≠ 0) (h1 : u.p ≤ q) (h2 : q ≤ t.length) (h3 : (xs.length : Int) ≤ t.length - u.p) : zUok t ⟨q, u.ws, u.ts, u.op, y, r, xs, max u.mb (u.ts.flatten.length + xs.length)⟩ := by
  have := h.w; have := h.s; have := h.f; have := h.p0; have := h.m
  refine ⟨?_, h2, ?_, h.s, ?_, h.o, h.ox, ?_, fun e => absurd e hy, ?_⟩
  · show 0 ≤ q; omega
  · show ((u.ws.length : Nat) : Int) ≤ q; omega
  · show (u.ts.flatten.length : Int) ≤ q; omega
  · show max u.mb (u.ts.flatten.length + xs.length) ≤ t.length; omega
  · show u.ts.flatten.length + xs.length ≤ max u.mb (u.ts.flatten.length + xs.length); omega
theorem rowE_gt {t : List Int} {p : Int} (h0 : 0 ≤ p) (h1 : p < t.length) (h2 : sPlain (bget t p) = true) : p < rowE t p := by
  obtain ⟨s1, s2, s3, s4⟩ := scanE_spec (f := sPlain) (t := t) (p := p) h0
  have : scanE sPlain t p ≠ p := by
    intro e
    rw [e] at s4
    exact s4 ⟨h1, h2⟩
  unfold rowE
  omega
theorem oneS_ok {t : List Int} {u : zU} (h : zUok t u) (hp : u.p < t.length) (hl : lvOut t u.p = 0) : zUok t (oneS t u) ∧ (u.p < (oneS t u).p ∨ (oneS t u).y ≠ 0) ∧ ((oneS t u).y = u.y ∨ (oneS t u).y ≠ 0) := by
  have := h.p0
  have := h.w; have := h.s; have := h.f; have := h.m; have := h.g
  unfold oneS
  split
  · generalize hb : brS t t.length (u.p + 1) 1 [] = z
    obtain ⟨xs, E⟩ := z
    have hr := brS_rg _ _ _ _ (by omega) (by omega) hb
    simp only [List.length_nil] at hr
    unfold brkS
    dsimp only
    split
    · exact ⟨txS_ok h (by omega) (by omega) (by omega), Or.inl (by show u.p < E + 1; omega), Or.inl rfl⟩
    · exact ⟨pd_ok h (by decide) (by omega) (by omega) (by omega), Or.inr (by show (2 : Int) ≠ 0; decide), Or.inr (by show (2 : Int) ≠ 0; decide)⟩
  split
  · exact ⟨flS_ok h _ _ (by decide), Or.inr (by show (1 : Int) ≠ 0; decide), Or.inr (by show (1 : Int) ≠ 0; decide)⟩
  split
  · have hr := rowE_rg (t := t) (z := u.p + 1) (by omega)
    split
    · exact ⟨flS_ok h _ _ (by decide), Or.inr (by show (6 : Int) ≠ 0; decide), Or.inr (by show (6 : Int) ≠ 0; decide)⟩
    · have hs := slc_len (t := t) (a := u.p + 1) (b := rowE t (u.p + 1)) (by omega) (by omega) (by omega)
      exact ⟨txS_ok h (by omega) (by omega) (by omega), Or.inl (by show u.p < rowE t (u.p + 1); omega), Or.inl rfl⟩
  split
  · split
    · have hi := bget_in (l := t) (z := u.p + 1) (by omega)
      have hs := slc_len (t := t) (a := u.p) (b := u.p + 2) (by omega) (by omega) (by omega)
      exact ⟨txS_ok h (by omega) (by omega) (by omega), Or.inl (by show u.p < u.p + 2; omega), Or.inl rfl⟩
    split
    · generalize hb : prS t t.length (u.p + 1) (-1) [] = z
      obtain ⟨xs, h1, wy, E⟩ := z
      have hr := prS_rg _ _ _ _ (by omega) (by omega) hb
      have hx := prX_rg (by omega) (by omega) hb
      unfold prsS
      dsimp only
      split
      · rename_i e
        have := hr.2.2.1 e
        exact ⟨txS_ok h (by omega) (by omega) (by omega), Or.inl (by show u.p < E + 1; omega), Or.inl rfl⟩
      split
      · exact ⟨pd_ok h (by decide) (by omega) (by omega) (by omega), Or.inr (by show (2 : Int) ≠ 0; decide), Or.inr (by show (2 : Int) ≠ 0; decide)⟩
      · exact ⟨pd_ok h (by decide) (by omega) (by omega) (by omega), Or.inr (by show (3 : Int) ≠ 0; decide), Or.inr (by show (3 : Int) ≠ 0; decide)⟩
    · exact ⟨flS_ok h _ _ (by decide), Or.inr (by show (1 : Int) ≠ 0; decide), Or.inr (by show (1 : Int) ≠ 0; decide)⟩
  split
  · have hs := slc_len (t := t) (a := u.p) (b := u.p + 1) (by omega) (by omega) (by omega)
    exact ⟨txS_ok h (by omega) (by omega) (by omega), Or.inl (by show u.p < u.p + 1; omega), Or.inl rfl⟩
  split
  · unfold opnS
    split
    · refine ⟨⟨by show 0 ≤ u.p + 1; omega, by show u.p + 1 ≤ t.length; omega, ?_, ?_, by show (u.ts.flatten.length : Int) ≤ u.p + 1; omega, ?_, ?_, h.m, fun _ => rfl, by show u.ts.flatten.length + 0 ≤ u.mb; omega⟩, Or.inl (by show u.p < u.p + 1; omega), Or.inl rfl⟩
      · show ((u.ws ++ [_]).length : Int) ≤ u.p + 1; rw [List.length_append, List.length_singleton]; omega
      · show u.ts.length ≤ (u.ws ++ [_]).length; rw [List.length_append, List.length_singleton]; omega
      · show (u.op ++ [_]).length ≤ 64; rw [List.length_append, List.length_singleton]; omega
      · intro x hx
        show 0 ≤ x ∧ x < ((u.ws ++ [_]).length : Nat)
        rw [List.length_append, List.length_singleton]
        rcases List.mem_append.mp hx with hx | hx
        · have := h.ox x hx; omega
        · rw [List.mem_singleton.mp hx]; omega
    · exact ⟨flS_ok h _ _ (by decide), Or.inr (by show (7 : Int) ≠ 0; decide), Or.inr (by show (7 : Int) ≠ 0; decide)⟩
  split
  · unfold clsS
    split
    · exact ⟨flS_ok h _ _ (by decide), Or.inr (by show (4 : Int) ≠ 0; decide), Or.inr (by show (4 : Int) ≠ 0; decide)⟩
    · have hw := wsetN_len u.ws (u.op.getD (u.op.length - 1) 0) (zI ((u.ws.length : Nat) : Int))
      refine ⟨⟨by show 0 ≤ u.p + 1; omega, by show u.p + 1 ≤ t.length; omega, ?_, ?_, by show (u.ts.flatten.length : Int) ≤ u.p + 1; omega, ?_, ?_, h.m, fun _ => rfl, by show u.ts.flatten.length + 0 ≤ u.mb; omega⟩, Or.inl (by show u.p < u.p + 1; omega), Or.inl rfl⟩
      · show ((wsetN u.ws (u.op.getD (u.op.length - 1) 0) (zI ((u.ws.length : Nat) : Int)) ++ [_]).length : Int) ≤ u.p + 1; rw [List.length_append, List.length_singleton]; omega
      · show u.ts.length ≤ (wsetN u.ws (u.op.getD (u.op.length - 1) 0) (zI ((u.ws.length : Nat) : Int)) ++ [_]).length; rw [List.length_append, List.length_singleton]; omega
      · show (u.op.take _).length ≤ 64; rw [List.length_take]; have := h.o; omega
      · intro x hx
        have := h.ox x (List.mem_of_mem_take hx)
        show 0 ≤ x ∧ x < ((wsetN u.ws (u.op.getD (u.op.length - 1) 0) (zI ((u.ws.length : Nat) : Int)) ++ [_]).length : Nat)
        rw [List.length_append, List.length_singleton]; omega
  · have hpl : sPlain (bget t u.p) = true := by
      have h1 : ¬ sBlank (bget t u.p) = true ∧ ¬ bget t u.p = 37 := by
        unfold lvOut at hl
        split at hl
        · omega
        split at hl
        · omega
        exact ⟨by assumption, by assumption⟩
      unfold sPlain
      rw [Bool.eq_false_iff.mpr h1.1, show sMark (bget t u.p) = false from decide_eq_false (by omega)]
      rfl
    have hg := rowE_gt h.p0 hp hpl
    have hr := rowE_rg (t := t) (z := u.p) (by omega)
    unfold rowS
    split
    · exact ⟨flS_ok h _ _ (by decide), Or.inr (by show (6 : Int) ≠ 0; decide), Or.inr (by show (6 : Int) ≠ 0; decide)⟩
    split
    · have hs := slc_len (t := t) (a := u.p) (b := rowE t u.p) (by omega) (by omega) (by omega)
      exact ⟨txS_ok h (by omega) (by omega) (by omega), Or.inl (by show u.p < rowE t u.p; omega), Or.inl rfl⟩
    split
    · exact ⟨flS_ok h _ _ (by decide), Or.inr (by show (5 : Int) ≠ 0; decide), Or.inr (by show (5 : Int) ≠ 0; decide)⟩
    · refine ⟨⟨by show 0 ≤ rowE t u.p; omega, by show rowE t u.p ≤ t.length; omega, ?_, ?_, by show (u.ts.flatten.length : Int) ≤ rowE t u.p; omega, h.o, ?_, h.m, fun _ => rfl, by show u.ts.flatten.length + 0 ≤ u.mb; omega⟩, Or.inl (by show u.p < rowE t u.p; omega), Or.inl rfl⟩
      · show ((u.ws ++ [_]).length : Int) ≤ rowE t u.p; rw [List.length_append, List.length_singleton]; omega
      · show u.ts.length ≤ (u.ws ++ [_]).length; rw [List.length_append, List.length_singleton]; omega
      · intro x hx
        have := h.ox x hx
        show 0 ≤ x ∧ x < ((u.ws ++ [_]).length : Nat)
        rw [List.length_append, List.length_singleton]; omega
def skpS (t : List Int) (u : zU) : zU := ⟨lvPos t u.p, u.ws, u.ts, u.op, u.y, u.r, u.pend, u.mb⟩
noncomputable def runS (t : List Int) : Nat → zU → zU
  | 0, u => u
  | k + 1, u => if ¬ (u.p < t.length ∧ u.y = 0) then u else if lvOut t u.p = 1 then runS t k (skpS t u) else runS t k (oneS t u)
theorem lvPos_rg {t : List Int} {p : Int} (h : 0 ≤ p ∧ p < t.length) (h1 : lvOut t p = 1) : p < lvPos t p ∧ lvPos t p ≤ t.length := by
  unfold lvOut at h1
  unfold lvPos
  split
  · omega
  · rename_i hb
    rw [if_neg hb] at h1
    split
    · rename_i hc
      obtain ⟨s1, s2, s3, s4⟩ := scanE_spec (f := fun b => !sLine b) (t := t) (p := p) h.1
      have s2 := s2 (by omega)
      have : scanE (fun b => !sLine b) t p ≠ p := by
        intro e
        rw [e] at s4
        exact s4 ⟨h.2, by rw [hc]; decide⟩
      omega
    · rename_i hc
      rw [if_neg hc] at h1
      exact absurd h1 (by decide)
theorem skpS_ok {t : List Int} {u : zU} (h : zUok t u) (hp : u.p < t.length) (hl : lvOut t u.p = 1) : zUok t (skpS t u) ∧ u.p < (skpS t u).p := by
  have hr := lvPos_rg ⟨h.p0, hp⟩ hl
  have := h.p0; have := h.w; have := h.f
  exact ⟨⟨by show 0 ≤ lvPos t u.p; omega, by show lvPos t u.p ≤ t.length; omega, by show (u.ws.length : Int) ≤ lvPos t u.p; omega, h.s, by show (u.ts.flatten.length : Int) ≤ lvPos t u.p; omega, h.o, h.ox, h.m, h.d, h.g⟩, hr.1⟩
theorem lvOut_01 (t : List Int) (p : Int) : lvOut t p = 0 ∨ lvOut t p = 1 := by
  unfold lvOut
  repeat' split
  all_goals simp
theorem runS_ok {t : List Int} : ∀ (k : Nat) (u : zU), zUok t u → zUok t (runS t k u)
  | 0, u, h => h
  | k + 1, u, h => by
    unfold runS
    split
    · exact h
    · rename_i hc
      have hc : u.p < t.length ∧ u.y = 0 := by
        by_cases e : u.p < t.length ∧ u.y = 0
        · exact e
        · exact absurd e hc
      split
      · rename_i hl
        exact runS_ok k _ (skpS_ok h hc.1 hl).1
      · rename_i hl
        have := lvOut_01 t u.p
        exact runS_ok k _ (oneS_ok h hc.1 (by omega)).1
/-- what a cut leaves: the run, and braces that stay open -/
noncomputable def cutS (t : List Int) : zU :=
  if (runS t t.length ⟨0, [], [], [], 0, t.length, [], 0⟩).y = 0 ∧ 0 < (runS t t.length ⟨0, [], [], [], 0, t.length, [], 0⟩).op.length then
    ⟨(runS t t.length ⟨0, [], [], [], 0, t.length, [], 0⟩).p, (runS t t.length ⟨0, [], [], [], 0, t.length, [], 0⟩).ws, (runS t t.length ⟨0, [], [], [], 0, t.length, [], 0⟩).ts, (runS t t.length ⟨0, [], [], [], 0, t.length, [], 0⟩).op, 4, t.length, (runS t t.length ⟨0, [], [], [], 0, t.length, [], 0⟩).pend, (runS t t.length ⟨0, [], [], [], 0, t.length, [], 0⟩).mb⟩
  else runS t t.length ⟨0, [], [], [], 0, t.length, [], 0⟩
theorem zU0_ok (t : List Int) : zUok t ⟨0, [], [], [], 0, t.length, [], 0⟩ := ⟨by show (0 : Int) ≤ 0; omega, by show (0 : Int) ≤ t.length; omega, by show ((0 : Nat) : Int) ≤ 0; omega, Nat.le_refl _, by show ((0 : Nat) : Int) ≤ 0; omega, by show 0 ≤ 64; omega, fun x hx => (by cases hx), Nat.zero_le _, fun _ => rfl, Nat.le_refl _⟩
theorem cap_max {nb a b : Nat} (h0 : 0 < nb) (h : a ≤ nb) : capN nb (max a b) = capN nb b := by
  rw [← capN_capN h0, capN_id h]
