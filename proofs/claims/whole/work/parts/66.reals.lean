/-! REALS: both sums are one rounding -/
def p10 : Nat → Int
  | 0 => 1
  | n + 1 => 10 * p10 n
theorem p10_pos : ∀ n, 0 < p10 n
  | 0 => by decide
  | n + 1 => by have := p10_pos n; show 0 < 10 * p10 n; omega
theorem p10_add (a : Nat) : ∀ b, p10 (a + b) = p10 a * p10 b
  | 0 => by simp [p10]
  | b + 1 => by show 10 * p10 (a + b) = p10 a * (10 * p10 b); rw [p10_add a b]; grind
theorem p10_mono {a b : Nat} (h : a ≤ b) : p10 a ≤ p10 b := by
  obtain ⟨c, rfl⟩ := Nat.le.dest h
  rw [p10_add]
  have h1 := p10_pos a
  have h2 := p10_pos c
  have := Int.mul_le_mul_of_nonneg_left (show (1 : Int) ≤ p10 c by omega) (Int.le_of_lt h1)
  omega
/-- digits as a number -/
def fv (d : Nat → Int) : Nat → Int
  | 0 => 0
  | n + 1 => 10 * fv d n + d n
theorem fv_rg {d : Nat → Int} : ∀ {n : Nat}, (∀ j, j < n → 0 ≤ d j ∧ d j ≤ 9) → 0 ≤ fv d n ∧ fv d n < p10 n
  | 0, _ => ⟨Int.le_refl 0, (show (0 : Int) < 1 by decide)⟩
  | n + 1, h => by
    have h1 := fv_rg (d := d) (n := n) (fun j hj => h j (by omega))
    have h2 := h n (by omega)
    show 0 ≤ 10 * fv d n + d n ∧ 10 * fv d n + d n < 10 * p10 n
    omega
theorem fv_cong {d e : Nat → Int} : ∀ {n : Nat}, (∀ j, j < n → d j = e j) → fv d n = fv e n
  | 0, _ => rfl
  | n + 1, h => by
    show 10 * fv d n + d n = 10 * fv e n + e n
    rw [fv_cong (d := d) (e := e) (n := n) (fun j hj => h j (by omega)), h n (by omega)]
theorem fv_zero {d : Nat → Int} : ∀ {n : Nat}, (∀ j, j < n → d j = 0) → fv d n = 0
  | 0, _ => rfl
  | n + 1, h => by
    show 10 * fv d n + d n = 0
    rw [fv_zero (d := d) (n := n) (fun j hj => h j (by omega)), h n (by omega)]; rfl
theorem fv_add (d : Nat → Int) (m : Nat) : ∀ k, fv d (m + k) = fv d m * p10 k + fv (fun j => d (m + j)) k
  | 0 => by show fv d m = fv d m * 1 + 0; omega
  | k + 1 => by
    show 10 * fv d (m + k) + d (m + k) = fv d m * (10 * p10 k) + (10 * fv (fun j => d (m + j)) k + d (m + k))
    rw [fv_add d m k]; grind
theorem fv_set {f : Nat → Int} {x : Int} {k : Nat} : ∀ {n : Nat}, k < n → fv (fun j => if j = k then x else f j) n = fv f n + (x - f k) * p10 (n - 1 - k)
  | 0, h => absurd h (Nat.not_lt_zero _)
  | n + 1, h => by
    show 10 * fv (fun j => if j = k then x else f j) n + (if n = k then x else f n) = 10 * fv f n + f n + (x - f k) * p10 (n + 1 - 1 - k)
    by_cases e : n = k
    · subst e
      rw [if_pos rfl, fv_cong (e := f) (fun j hj => if_neg (show j ≠ n by omega)), show n + 1 - 1 - n = 0 by omega]
      show _ = _ + (x - f n) * 1
      omega
    · rw [if_neg e, fv_set (n := n) (by omega), show n + 1 - 1 - k = (n - 1 - k) + 1 by omega]
      show _ = _ + (x - f k) * (10 * p10 (n - 1 - k))
      grind
theorem fv_ge {d : Nat → Int} {f n : Nat} (hd : ∀ j, j < n → 0 ≤ d j) (hf : f < n) (h : d f ≠ 0) : p10 (n - 1 - f) ≤ fv d n := by
  induction n with
  | zero => omega
  | succ n ih =>
    show _ ≤ 10 * fv d n + d n
    have h0 := hd n (by omega)
    by_cases e : f = n
    · subst e
      have h1 : 0 ≤ fv d f := by
        clear ih hf h h0
        induction f with
        | zero => exact Int.le_refl 0
        | succ f ih => have := ih (fun j hj => hd j (by omega)); have := hd f (by omega); show 0 ≤ 10 * fv d f + d f; omega
      rw [show f + 1 - 1 - f = 0 by omega]
      show (1 : Int) ≤ _
      omega
    · have h1 := ih (fun j hj => hd j (by omega)) (by omega)
      rw [show n + 1 - 1 - f = (n - 1 - f) + 1 by omega]
      show 10 * p10 (n - 1 - f) ≤ _
      omega
/-- below the first digit that isn't 0 -/
theorem fv_lt {d : Nat → Int} {f n : Nat} (hd : ∀ j, j < n → 0 ≤ d j ∧ d j ≤ 9) (h : ∀ j, j < f → j < n → d j = 0) : fv d n < p10 (n - f) := by
  rcases Nat.lt_or_ge f n with q | q
  · obtain ⟨k, rfl⟩ := Nat.le.dest (Nat.le_of_lt q)
    rw [fv_add, fv_zero (fun j hj => h j hj (by omega)), show f + k - f = k by omega]
    have := (fv_rg (d := fun j => d (f + j)) (n := k) (fun j hj => hd _ (by omega))).2
    omega
  · rw [fv_zero (fun j hj => h j (by omega) hj), show n - f = 0 by omega]
    decide
/-- x = A/B in 65536ths: the nearest; at a half, up where the sign is plus -/
def rnd (ng A B : Int) : Int := 65536 * A / B + (if B < 2 * (65536 * A % B) ∨ (2 * (65536 * A % B) = B ∧ ng = 0) then 1 else 0)
theorem rnd_eq {ng A B q r : Int} (hr : 0 ≤ r ∧ r < B) (h : 65536 * A = q * B + r) : rnd ng A B = q + (if B < 2 * r ∨ (2 * r = B ∧ ng = 0) then 1 else 0) := by
  have h1 : 65536 * A / B = q := by
    rw [h, Int.add_comm, Int.add_mul_ediv_right _ _ (by omega), Int.ediv_eq_zero_of_lt hr.1 hr.2]; omega
  have h2 : 65536 * A % B = r := by
    rw [h, Int.add_comm, Int.add_mul_emod_self_right, Int.emod_eq_of_lt hr.1 hr.2]
  unfold rnd
  rw [h1, h2]
theorem rnd_mul {ng A B k : Int} (hB : 0 < B) (hk : 0 < k) : rnd ng (A * k) (B * k) = rnd ng A B := by
  have h0 := Int.emod_nonneg (65536 * A) (show B ≠ 0 by omega)
  have h1 := Int.emod_lt_of_pos (65536 * A) hB
  have h2 := Int.mul_ediv_add_emod (65536 * A) B
  rw [rnd_eq (q := 65536 * A / B) (r := (65536 * A % B) * k) ⟨Int.mul_nonneg h0 (Int.le_of_lt hk), Int.mul_lt_mul_of_pos_right h1 hk⟩ (by grind)]
  unfold rnd
  generalize 65536 * A % B = r at h0 h1 h2 ⊢
  have e1 : B * k < 2 * (r * k) ↔ B < 2 * r := by
    rw [show 2 * (r * k) = (2 * r) * k by grind]
    exact ⟨fun h => Int.lt_of_mul_lt_mul_right h (Int.le_of_lt hk), fun h => Int.mul_lt_mul_of_pos_right h hk⟩
  have e2 : 2 * (r * k) = B * k ↔ 2 * r = B := by
    rw [show 2 * (r * k) = (2 * r) * k by grind]
    exact ⟨fun h => Int.eq_of_mul_eq_mul_right (by omega) h, fun h => by rw [h]⟩
  simp only [e1, e2]
theorem rnd_same {ng A B A2 B2 : Int} (hB : 0 < B) (hB2 : 0 < B2) (h : A * B2 = A2 * B) : rnd ng A B = rnd ng A2 B2 := by
  rw [← rnd_mul hB hB2, ← rnd_mul (A := A2) hB2 hB, h, Int.mul_comm B B2]
theorem mulS_val {d : Nat → Int} : ∀ i, i ≤ 160 → (mulS d i).1 * p10 i + fv (fun j => (mulS d i).2 (160 - i + j)) i = 65536 * fv (fun j => d (160 - i + j)) i ∧ ∀ j, j < 160 - i → (mulS d i).2 j = d j
  | 0, _ => ⟨rfl, fun _ _ => rfl⟩
  | i + 1, h => by
    obtain ⟨h1, h2⟩ := mulS_val (d := d) i (by omega)
    have e1 : ∀ g : Nat → Int, fv (fun j => g (160 - (i + 1) + j)) (i + 1) = g (159 - i) * p10 i + fv (fun j => g (160 - i + j)) i := by
      intro g
      have := fv_add (fun j => g (160 - (i + 1) + j)) 1 i
      rw [Nat.add_comm 1 i] at this
      rw [this, fv_cong (d := fun j => g (160 - (i + 1) + (1 + j))) (e := fun j => g (160 - i + j)) (fun j _ => by show g _ = g _; congr 1; omega)]
      show (10 * 0 + g (160 - (i + 1) + 0)) * p10 i + _ = _
      rw [show 160 - (i + 1) + 0 = 159 - i by omega, show 10 * 0 + g (159 - i) = g (159 - i) by omega]
    rw [e1 d, e1 (mulS d (i + 1)).2]
    have e2 : fv (fun j => (mulS d (i + 1)).2 (160 - i + j)) i = fv (fun j => (mulS d i).2 (160 - i + j)) i := fv_cong (fun j _ => by
      show (if 160 - i + j = 159 - i then _ else (mulS d i).2 (160 - i + j)) = _
      rw [if_neg (by omega)])
    have e3 : (mulS d (i + 1)).2 (159 - i) = ((mulS d i).2 (159 - i) * 65536 + (mulS d i).1) % 10 := by
      show (if 159 - i = 159 - i then _ else _) = _
      rw [if_pos rfl]
    have e4 : (mulS d (i + 1)).1 = ((mulS d i).2 (159 - i) * 65536 + (mulS d i).1) / 10 := rfl
    rw [e2, e3, e4, h2 (159 - i) (by omega)]
    refine ⟨?_, fun j hj => ?_⟩
    · show _ / 10 * (10 * p10 i) + _ = _
      generalize hx : d (159 - i) * 65536 + (mulS d i).1 = x
      have hx2 : x = 10 * (x / 10) + x % 10 := by omega
      generalize x / 10 = a at hx2 ⊢
      generalize x % 10 = b at hx2 ⊢
      grind
    · show (if j = 159 - i then _ else (mulS d i).2 j) = _
      rw [if_neg (by omega)]
      exact h2 j (by omega)
theorem mulS_all {d : Nat → Int} (hd : ∀ j, j < 160 → 0 ≤ d j ∧ d j ≤ 9) : 65536 * fv d 160 = (mulS d 160).1 * p10 160 + fv (mulS d 160).2 160 ∧ 0 ≤ fv (mulS d 160).2 160 ∧ fv (mulS d 160).2 160 < p10 160 := by
  have h1 := (mulS_val (d := d) 160 (Nat.le_refl _)).1
  have h2 := fv_rg (mulS_rg hd 160 (Nat.le_refl _)).2
  have e : ∀ g : Nat → Int, fv (fun j => g (160 - 160 + j)) 160 = fv g 160 := fun g => fv_cong (fun j _ => by show g _ = g _; congr 1; omega)
  rw [e, e] at h1
  exact ⟨h1.symm, h2⟩
theorem fv_pos_iff {d : Nat → Int} {n : Nat} (hd : ∀ j, j < n → 0 ≤ d j ∧ d j ≤ 9) : (∃ j, j < n ∧ d j ≠ 0) ↔ fv d n ≠ 0 := by
  constructor
  · rintro ⟨j, h1, h2⟩
    have := fv_ge (f := j) (n := n) (fun j hj => (hd j hj).1) h1 h2
    have := p10_pos (n - 1 - j)
    omega
  · intro h
    refine Classical.byContradiction (fun c => h (fv_zero (fun j hj => Classical.byContradiction (fun c2 => c ⟨j, hj, c2⟩))))
theorem cmpH_val {g : Nat → Int} (hg : ∀ j, j < 160 → 0 ≤ g j ∧ g j ≤ 9) : (0 < cmpH g ↔ p10 160 < 2 * fv g 160) ∧ (cmpH g = 0 ↔ 2 * fv g 160 = p10 160) := by
  have e1 : fv g 160 = g 0 * p10 159 + fv (fun j => g (1 + j)) 159 := by
    have := fv_add g 1 159
    rw [show (1 + 159 : Nat) = 160 from rfl] at this
    rw [this]
    show (10 * 0 + g 0) * _ + _ = _
    rw [show 10 * 0 + g 0 = g 0 by omega]
  have e2 : p10 160 = 10 * p10 159 := rfl
  have h1 := fv_rg (d := fun j => g (1 + j)) (n := 159) (fun j hj => hg _ (by omega))
  have h2 := fv_pos_iff (d := fun j => g (1 + j)) (n := 159) (fun j hj => hg _ (by omega))
  have h3 := hg 0 (by omega)
  have h4 := p10_pos 159
  generalize hF : fv (fun j => g (1 + j)) 159 = F at e1 h1 h2
  generalize hT : p10 159 = T at e1 e2 h1 h4
  rw [e1, e2]
  have h5 : (∃ j : Nat, 1 ≤ j ∧ j < 160 ∧ g j ≠ 0) ↔ F ≠ 0 := by
    rw [← h2]
    exact ⟨fun ⟨j, a, b, c⟩ => ⟨j - 1, by omega, by show g (1 + (j - 1)) ≠ 0; rw [show 1 + (j - 1) = j by omega]; exact c⟩, fun ⟨j, a, b⟩ => ⟨1 + j, by omega, by omega, b⟩⟩
  have h6 : (g 0 < 5 → g 0 * T ≤ 4 * T) ∧ (5 < g 0 → 6 * T ≤ g 0 * T) := ⟨fun h => Int.mul_le_mul_of_nonneg_right (by omega) (by omega), fun h => Int.mul_le_mul_of_nonneg_right (by omega) (by omega)⟩
  unfold cmpH
  by_cases c : g 0 = 5
  · rw [if_neg (by omega), c]
    by_cases c2 : ∃ j : Nat, 1 ≤ j ∧ j < 160 ∧ g j ≠ 0
    · rw [if_pos c2]
      have := h5.mp c2
      omega
    · rw [if_neg c2]
      have : F = 0 := Classical.byContradiction (fun h => c2 (h5.mpr h))
      omega
  · rw [if_pos c]
    generalize g 0 * T = GT at h6 ⊢
    rcases (show g 0 < 5 ∨ 5 < g 0 by omega) with c2 | c2
    · rw [if_pos c2]
      have := h6.1 c2
      omega
    · rw [if_neg (by omega), if_neg c]
      have := h6.2 c2
      omega
theorem realSum_rnd {ng : Int} {P : Int × Int × (Nat → Int) × Int} (hd : ∀ j, j < 160 → 0 ≤ P.2.2.1 j ∧ P.2.2.1 j ≤ 9) : realSum ng P = rnd ng (P.2.1 * p10 160 + fv P.2.2.1 160) (p10 160) := by
  obtain ⟨h1, h2⟩ := mulS_all hd
  obtain ⟨c1, c2⟩ := cmpH_val (mulS_rg hd 160 (Nat.le_refl _)).2
  rw [rnd_eq (q := P.2.1 * 65536 + (mulS P.2.2.1 160).1) (r := fv (mulS P.2.2.1 160).2 160) h2 (by generalize p10 160 = T at h1 ⊢; grind)]
  unfold realSum
  simp only [c1, c2]
/-- 17 doublings: bits, and what is left -/
theorem rnd_bits {ng W F B b R : Int} (hB : 0 < B) (h : 131072 * F = b * B + R) (hR : 0 ≤ R ∧ R < B) : rnd ng (W * B + F) B = 65536 * W + b / 2 + (if b % 2 = 1 ∧ (ng = 0 ∨ R ≠ 0) then 1 else 0) := by
  have hb : b = 2 * (b / 2) + b % 2 := by omega
  have hb2 : b % 2 = 0 ∨ b % 2 = 1 := by omega
  generalize b / 2 = q at hb ⊢
  generalize b % 2 = m at hb hb2 ⊢
  have h3 : 2 * (65536 * F - q * B) = m * B + R := by
    rw [hb] at h
    grind
  have h4 : 65536 * (W * B + F) = (65536 * W + q) * B + (65536 * F - q * B) := by grind
  rcases hb2 with rfl | rfl
  · rw [rnd_eq (r := 65536 * F - q * B) (by omega) h4, if_neg (by omega), if_neg (by omega)]
  · rw [rnd_eq (r := 65536 * F - q * B) (by omega) h4]
    congr 1
    by_cases c : ng = 0 ∨ R ≠ 0
    · rw [if_pos (by omega), if_pos ⟨rfl, c⟩]
    · rw [if_neg (by omega), if_neg (by omega)]
def plD (s : Int × Int × (Nat → Int) × Int) (d : Int) : Int × Int × (Nat → Int) × Int := plF s (d + 48)
def dsL (l : List Int) : List Int := (l.filter (fun c => decide (c ≠ 46))).map (fun c => c - 48)
theorem dsL_fold (l : List Int) : ∀ s, l.foldl plF s = (dsL l).foldl plD s := by
  induction l with
  | nil => intro s; rfl
  | cons c l ih =>
    intro s
    by_cases e : c = 46
    · have e1 : dsL (c :: l) = dsL l := by unfold dsL; rw [List.filter_cons_of_neg (by simpa using e)]
      rw [e1, List.foldl_cons, ih]
      have : plF s c = s := by unfold plF; rw [if_pos e]
      rw [this]
    · have e1 : dsL (c :: l) = (c - 48) :: dsL l := by unfold dsL; rw [List.filter_cons_of_pos (by simpa using e), List.map_cons]
      rw [e1, List.foldl_cons, List.foldl_cons, ih]
      have : plF s c = plD s (c - 48) := by unfold plD; rw [show c - 48 + 48 = c by omega]
      rw [this]
theorem dsL_snoc (l : List Int) (c : Int) : dsL (l ++ [c]) = if c = 46 then dsL l else dsL l ++ [c - 48] := by
  unfold dsL
  rw [List.filter_append, List.map_append]
  by_cases e : c = 46
  · rw [if_pos e, List.filter_cons_of_neg (by simpa using e)]; simp
  · rw [if_neg e, List.filter_cons_of_pos (by simpa using e)]; simp
def zdg (ds : List Int) (i : Nat) : Int := ds.getD i 0
def plN (ds : List Int) (P0 : Int) (i : Nat) : Int × Int × (Nat → Int) × Int := (ds.take i).foldl plD (P0, 0, (fun _ => 0), 1)
theorem plN_0 (ds : List Int) (P0 : Int) : plN ds P0 0 = (P0, 0, (fun _ => 0), 1) := rfl
theorem plN_succ {ds : List Int} {P0 : Int} {i : Nat} (h : i < ds.length) : plN ds P0 (i + 1) = plF (plN ds P0 i) (zdg ds i + 48) := by
  unfold plN
  rw [List.take_succ_eq_append_getElem h, List.foldl_append]
  show plF _ (ds[i] + 48) = plF _ (ds.getD i 0 + 48)
  rw [List.getD_eq_getElem?_getD, List.getElem?_eq_getElem h]
  rfl
theorem plN_all (ds : List Int) (P0 : Int) : plN ds P0 ds.length = ds.foldl plD (P0, 0, (fun _ => 0), 1) := by unfold plN; rw [List.take_length]
theorem zdg_rg {ds : List Int} (h : ∀ x ∈ ds, 0 ≤ x ∧ x ≤ 9) (i : Nat) : 0 ≤ zdg ds i ∧ zdg ds i ≤ 9 := by
  unfold zdg
  rw [List.getD_eq_getElem?_getD]
  by_cases e : i < ds.length
  · rw [List.getElem?_eq_getElem e]; exact h _ (List.getElem_mem e)
  · rw [List.getElem?_eq_none (by omega)]; exact ⟨by show (0 : Int) ≤ 0; omega, by show (0 : Int) ≤ 9; omega⟩
theorem zdg_out {ds : List Int} {i : Nat} (h : ds.length ≤ i) : zdg ds i = 0 := by
  unfold zdg
  rw [List.getD_eq_getElem?_getD, List.getElem?_eq_none h]
  rfl
theorem plN_low {ds : List Int} {P0 : Int} (hd : ∀ x ∈ ds, 0 ≤ x ∧ x ≤ 9) (h1 : ∀ i : Nat, i < ds.length → zdg ds i ≠ 0 → P0 - i < -7) : ∀ i : Nat, i ≤ ds.length → (plN ds P0 i).1 = P0 - i ∧ (plN ds P0 i).2.1 = 0 ∧ (∀ j, 0 ≤ (plN ds P0 i).2.2.1 j ∧ (plN ds P0 i).2.2.1 j ≤ 9) ∧ (∀ j, j < 7 → (plN ds P0 i).2.2.1 j = 0) ∧ (plN ds P0 i).2.2.2 = 1
  | 0, _ => ⟨by show P0 = P0 - ((0 : Nat) : Int); omega, rfl, fun _ => ⟨by show (0 : Int) ≤ 0; omega, by show (0 : Int) ≤ 9; omega⟩, fun _ _ => rfl, rfl⟩
  | i + 1, h => by
    obtain ⟨e1, e2, e3, e4, e5⟩ := plN_low hd h1 i (by omega)
    rw [plN_succ (by omega)]
    have hr := zdg_rg hd i
    have hz := h1 i (by omega)
    generalize plN ds P0 i = S at e1 e2 e3 e4 e5 ⊢
    generalize zdg ds i = d at hr hz ⊢
    unfold plF
    rw [if_neg (by omega), show d + 48 - 48 = d by omega]
    split
    · refine ⟨by show S.1 + -1 = _; omega, e2, fun j => ?_, fun j hj => ?_, e5⟩
      · show 0 ≤ (if j = (-1 - S.1).toNat then d else S.2.2.1 j) ∧ (if j = (-1 - S.1).toNat then d else S.2.2.1 j) ≤ 9
        split
        · exact hr
        · exact e3 j
      · show (if j = (-1 - S.1).toNat then d else S.2.2.1 j) = 0
        split
        · by_cases c : d = 0
          · exact c
          · have := hz c; omega
        · exact e4 j hj
    split
    · refine ⟨by show S.1 + -1 = _; omega, ?_, e3, e4, e5⟩
      show S.2.1 + d * tenP S.1 = 0
      have : d = 0 := by
        by_cases c : d = 0
        · exact c
        · have := hz c; omega
      rw [this, e2]; omega
    split
    · rename_i c
      have := hz c.2; omega
    · exact ⟨by show S.1 + -1 = _; omega, e2, e3, e4, e5⟩
theorem plN_high {ds : List Int} {P0 : Int} (hd : ∀ x ∈ ds, 0 ≤ x ∧ x ≤ 9) : ∀ i : Nat, i ≤ ds.length → (plN ds P0 i).1 = P0 - i ∧ ((∃ j : Nat, j < i ∧ zdg ds j ≠ 0 ∧ 5 ≤ P0 - j) → (plN ds P0 i).2.2.2 = 0)
  | 0, _ => ⟨by show P0 = P0 - ((0 : Nat) : Int); omega, fun ⟨j, h, _⟩ => absurd h (Nat.not_lt_zero _)⟩
  | i + 1, h => by
    obtain ⟨e1, e2⟩ := plN_high hd i (by omega)
    rw [plN_succ (by omega)]
    have hr := zdg_rg hd i
    have e3 : (∃ j : Nat, j < i + 1 ∧ zdg ds j ≠ 0 ∧ 5 ≤ P0 - j) → (plN ds P0 i).2.2.2 = 0 ∨ (zdg ds i ≠ 0 ∧ 5 ≤ P0 - i) := by
      rintro ⟨j, a, b, c⟩
      by_cases q : j = i
      · subst q; exact Or.inr ⟨b, c⟩
      · exact Or.inl (e2 ⟨j, by omega, b, c⟩)
    generalize plN ds P0 i = S at e1 e2 e3 ⊢
    generalize zdg ds i = d at hr e3 ⊢
    unfold plF
    rw [if_neg (by omega), show d + 48 - 48 = d by omega]
    refine ⟨?_, fun hx => ?_⟩
    · repeat' split
      all_goals (show S.1 + -1 = _; omega)
    · rcases e3 hx with q | ⟨q1, q2⟩
      · repeat' split
        all_goals first | exact q | rfl
      · rw [if_neg (by omega), if_neg (by omega), if_pos (by omega)]
theorem tenP_p10 {p : Int} (h : 0 ≤ p ∧ p < 5) : tenP p = p10 p.toNat := by
  rcases (show p = 0 ∨ p = 1 ∨ p = 2 ∨ p = 3 ∨ p = 4 by omega) with rfl | rfl | rfl | rfl | rfl <;> rfl
theorem plN_mid {ds : List Int} {wh : Int} (hd : ∀ x ∈ ds, 0 ≤ x ∧ x ≤ 9) (h1 : ∀ i : Nat, i < ds.length → zdg ds i ≠ 0 → wh - 1 - i < 5) (h2 : 0 ≤ 160 + wh - ds.length) : ∀ i : Nat, i ≤ ds.length → (plN ds (wh - 1) i).1 = wh - 1 - i ∧ (∀ j, 0 ≤ (plN ds (wh - 1) i).2.2.1 j ∧ (plN ds (wh - 1) i).2.2.1 j ≤ 9) ∧ (∀ j : Nat, i - wh ≤ j → (plN ds (wh - 1) i).2.2.1 j = 0) ∧ (plN ds (wh - 1) i).2.2.2 = 1 ∧ (plN ds (wh - 1) i).2.1 * p10 160 + fv (plN ds (wh - 1) i).2.2.1 160 = fv (zdg ds) i * p10 (160 + wh - i).toNat
  | 0, _ => ⟨by show wh - 1 = wh - 1 - ((0 : Nat) : Int); omega, fun _ => ⟨by show (0 : Int) ≤ 0; omega, by show (0 : Int) ≤ 9; omega⟩, fun _ _ => rfl, rfl, by show 0 * p10 160 + fv (fun _ => 0) 160 = 0 * _; rw [fv_zero (fun _ _ => rfl)]; omega⟩
  | i + 1, h => by
    obtain ⟨e1, e3, e4, e5, e6⟩ := plN_mid hd h1 h2 i (by omega)
    rw [plN_succ (by omega)]
    have hr := zdg_rg hd i
    have hz := h1 i (by omega)
    have er : fv (zdg ds) (i + 1) * p10 (160 + wh - ((i + 1 : Nat) : Int)).toNat = fv (zdg ds) i * p10 (160 + wh - i).toNat + zdg ds i * p10 (159 + wh - i).toNat := by
      rw [show (160 + wh - ((i + 1 : Nat) : Int)).toNat = (159 + wh - i).toNat by omega, show (160 + wh - (i : Int)).toNat = (159 + wh - i).toNat + 1 by omega]
      show (10 * fv (zdg ds) i + zdg ds i) * _ = _ * (10 * p10 _) + _
      grind
    rw [er, ← e6]
    generalize plN ds (wh - 1) i = S at e1 e3 e4 e5 ⊢
    generalize zdg ds i = d at hr hz ⊢
    clear e6 er
    unfold plF
    rw [if_neg (by omega), show d + 48 - 48 = d by omega]
    split
    · refine ⟨by show S.1 + -1 = _; omega, fun j => ?_, fun j hj => ?_, e5, ?_⟩
      · show 0 ≤ (if j = (-1 - S.1).toNat then d else S.2.2.1 j) ∧ (if j = (-1 - S.1).toNat then d else S.2.2.1 j) ≤ 9
        split
        · exact hr
        · exact e3 j
      · show (if j = (-1 - S.1).toNat then d else S.2.2.1 j) = 0
        rw [if_neg (by omega)]
        exact e4 j (by omega)
      · show S.2.1 * p10 160 + fv (fun j => if j = (-1 - S.1).toNat then d else S.2.2.1 j) 160 = _
        rw [fv_set (by omega), e4 _ (by omega), show 160 - 1 - (-1 - S.1).toNat = (159 + wh - i).toNat by omega, show d - 0 = d by omega]
        omega
    split
    · rename_i c
      refine ⟨by show S.1 + -1 = _; omega, e3, fun j hj => e4 j (by omega), e5, ?_⟩
      show (S.2.1 + d * tenP S.1) * p10 160 + _ = _
      rw [tenP_p10 c, show (159 + wh - (i : Int)).toNat = S.1.toNat + 160 by omega, p10_add]
      generalize p10 160 = T
      generalize p10 S.1.toNat = Q
      grind
    have hd0 : d = 0 := by
      by_cases c : d = 0
      · exact c
      · have := hz c; omega
    rw [hd0]
    split
    · omega
    · exact ⟨by show S.1 + -1 = _; omega, e3, fun j hj => e4 j (by omega), e5, by show S.2.1 * p10 160 + fv S.2.2.1 160 = _; omega⟩
theorem real_low {ng : Int} {ds : List Int} {P0 : Int} (hd : ∀ x ∈ ds, 0 ≤ x ∧ x ≤ 9) (h1 : ∀ i : Nat, i < ds.length → zdg ds i ≠ 0 → P0 - i < -7) : realF ng (plN ds P0 ds.length) = 1 ∧ realSum ng (plN ds P0 ds.length) = 0 := by
  obtain ⟨e1, e2, e3, e4, e5⟩ := plN_low hd h1 ds.length (Nat.le_refl _)
  generalize plN ds P0 ds.length = S at e1 e2 e3 e4 e5 ⊢
  have hS : realSum ng S = 0 := by
    rw [realSum_rnd (fun j _ => e3 j), e2]
    have f1 := fv_rg (d := S.2.2.1) (n := 160) (fun j _ => e3 j)
    have f2 := fv_lt (d := S.2.2.1) (f := 7) (n := 160) (fun j _ => e3 j) (fun j hj _ => e4 j hj)
    have f3 : p10 160 = 10000000 * p10 153 := by rw [show (160 : Nat) = 7 + 153 from rfl, p10_add]; rfl
    rw [show 160 - 7 = 153 from rfl] at f2
    have f4 := p10_pos 153
    generalize fv S.2.2.1 160 = F at f1 f2 ⊢
    generalize p10 153 = T at f2 f3 f4
    generalize p10 160 = T2 at f1 f3 ⊢
    rw [rnd_eq (q := 0) (r := 65536 * F) (by omega) (by omega), if_neg (by omega)]
    rfl
  refine ⟨?_, hS⟩
  unfold realF
  rw [hS, e5, if_pos ⟨by decide, by decide⟩]
theorem real_high {ng : Int} {ds : List Int} {P0 : Int} (hd : ∀ x ∈ ds, 0 ≤ x ∧ x ≤ 9) {j : Nat} (h0 : j < ds.length) (h1 : zdg ds j ≠ 0) (h2 : 5 ≤ P0 - j) : realF ng (plN ds P0 ds.length) = 0 := by
  have := (plN_high (P0 := P0) hd ds.length (Nat.le_refl _)).2 ⟨j, h0, h1, h2⟩
  unfold realF
  rw [this, if_neg (by omega)]
/-- the model's fraction: zeros, then the digits from a on -/
def mFr (ds : List Int) (wh : Int) (j : Nat) : Int := if j < (-wh).toNat then 0 else zdg ds (wh.toNat + j - (-wh).toNat)
def mFn (ds : List Int) (wh : Int) : Nat := (-wh).toNat + (ds.length - wh.toNat)
theorem mid_val {ds : List Int} {wh : Int} (h2 : 0 ≤ 160 + wh - ds.length) : (fv (zdg ds) wh.toNat * p10 (mFn ds wh) + fv (mFr ds wh) (mFn ds wh)) * p10 160 = fv (zdg ds) ds.length * p10 (160 + wh - ds.length).toNat * p10 (mFn ds wh) := by
  rcases Int.lt_or_le wh 0 with c | c
  · have e1 : mFn ds wh = (-wh).toNat + ds.length := by unfold mFn; rw [show wh.toNat = 0 by omega]; omega
    have e2 : fv (mFr ds wh) (mFn ds wh) = fv (zdg ds) ds.length := by
      rw [e1, fv_add, fv_zero (fun j hj => by unfold mFr; rw [if_pos hj])]
      rw [fv_cong (e := zdg ds) (fun j hj => by show mFr ds wh _ = _; unfold mFr; rw [if_neg (by omega), show wh.toNat + ((-wh).toNat + j) - (-wh).toNat = j by omega])]
      omega
    rw [e2, show wh.toNat = 0 by omega, show p10 160 = p10 (160 + wh - ds.length).toNat * p10 (mFn ds wh) by rw [← p10_add, e1]; congr 1; omega]
    show (0 * _ + _) * _ = _
    generalize p10 (mFn ds wh) = T
    generalize p10 (160 + wh - ds.length).toNat = Q
    grind
  · rcases Nat.lt_or_ge wh.toNat ds.length with c2 | c2
    · have e1 : mFn ds wh = ds.length - wh.toNat := by unfold mFn; omega
      have e2 : fv (zdg ds) wh.toNat * p10 (mFn ds wh) + fv (mFr ds wh) (mFn ds wh) = fv (zdg ds) ds.length := by
        rw [fv_cong (d := mFr ds wh) (e := fun j => zdg ds (wh.toNat + j)) (fun j hj => by unfold mFr; rw [if_neg (by omega)]; congr 1; omega), ← fv_add, e1]
        congr 1; omega
      rw [e2, show p10 160 = p10 (160 + wh - ds.length).toNat * p10 (mFn ds wh) by rw [← p10_add, e1]; congr 1; omega]
      grind
    · have e1 : mFn ds wh = 0 := by unfold mFn; omega
      have e2 : fv (zdg ds) wh.toNat = fv (zdg ds) ds.length * p10 (wh.toNat - ds.length) := by
        have := fv_add (zdg ds) ds.length (wh.toNat - ds.length)
        rw [fv_zero (d := fun j => zdg ds (ds.length + j)) (fun j _ => zdg_out (by omega)), show ds.length + (wh.toNat - ds.length) = wh.toNat by omega] at this
        omega
      rw [e1, e2, show (160 + wh - (ds.length : Int)).toNat = (wh.toNat - ds.length) + 160 by omega, p10_add]
      show (_ * 1 + 0) * _ = _ * 1
      grind
theorem real_mid {ng : Int} {ds : List Int} {wh : Int} (hd : ∀ x ∈ ds, 0 ≤ x ∧ x ≤ 9) {f : Nat} (hf : f < ds.length) (hz : ∀ j, j < f → zdg ds j = 0) (hn : zdg ds f ≠ 0) (hN : ds.length ≤ 127) (hw : -6 ≤ wh - f ∧ wh - f ≤ 6) {U : Int} (hU : U = rnd ng (fv (zdg ds) wh.toNat * p10 (mFn ds wh) + fv (mFr ds wh) (mFn ds wh)) (p10 (mFn ds wh))) (hU2 : 65536 * fv (zdg ds) wh.toNat ≤ U) : (2147483647 < U → realF ng (plN ds (wh - 1) ds.length) = 0) ∧ (U ≤ 2147483647 → realF ng (plN ds (wh - 1) ds.length) = 1 ∧ realSum ng (plN ds (wh - 1) ds.length) = U) := by
  by_cases c : wh - f = 6
  · have h1 := real_high (ng := ng) (P0 := wh - 1) hd hf hn (by omega)
    refine ⟨fun _ => h1, fun hu => ?_⟩
    have h2 := fv_ge (d := zdg ds) (f := f) (n := wh.toNat) (fun j _ => (zdg_rg hd j).1) (by omega) hn
    rw [show wh.toNat - 1 - f = 5 by omega] at h2
    have h3 : p10 5 = 100000 := by decide
    omega
  · obtain ⟨e1, e3, e4, e5, e6⟩ := plN_mid (wh := wh) hd (fun i hi hne => by
      rcases Nat.lt_or_ge i f with q | q
      · exact absurd (hz i q) hne
      · omega) (by omega) ds.length (Nat.le_refl _)
    have hS : realSum ng (plN ds (wh - 1) ds.length) = U := by
      rw [realSum_rnd (fun j _ => e3 j), hU, e6]
      exact rnd_same (p10_pos _) (p10_pos _) (mid_val (by omega)).symm
    refine ⟨fun hu => ?_, fun hu => ⟨?_, hS⟩⟩
    · unfold realF
      rw [hS, if_neg (by omega)]
    · unfold realF
      rw [hS, e5, if_pos ⟨by decide, by omega⟩]
