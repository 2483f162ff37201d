/-! BASE 1: assertions (atoms) over the worlds; what a heap holds as a list of atoms -/
abbrev zG : Type := va_G × (Nat → ClassId)
abbrev zAt : Type := zG → va_W → Prop
def zI (z : Int) : Int32 := Int32.ofInt z
def zJ (z : Int) : Int64 := Int64.ofInt z
abbrev zTy (G : zG) : List (ClassId × FieldType) := [(G.2 0, .int), (G.2 1, .byte)]
def zK (G : zG) (U : State) : Prop := va_K G.1 zCl (zTy G) U
def zObj (a ci : Nat) (fs : List Value) : zAt := fun _ ws => ws = [(a, .inr (ci, fs))]
def zArI (a n : Nat) (f : Nat → Int32) : zAt := fun G ws => ws = [(a, .inl (G.2 0, n, .inl f))]
def zArB (a n : Nat) (f : Nat → Int32) : zAt := fun G ws => ws = [(a, .inl (G.2 1, n, .inl f))]
def zSt : List zAt → zAt
  | [] => fun _ ws => ws = []
  | a :: l => fun G ws => ∃ u v : va_W, ws = u ++ v ∧ a G u ∧ zSt l G v
def zHd (G : zG) (A : Nat → Prop) (H : Heap) (L : List zAt) : Prop := ∃ ws : va_W, zSt L G ws ∧ va_P G.1 zCl ws H ∧ va_D A ws
def zB (B : Nat → Prop) (sz : Nat) : Nat → Prop := fun q => B q ∨ sz ≤ q
theorem zP_iff {D : va_G} {cl : List vw_C} {ws : va_W} {H : Heap} : va_P D cl ws H ↔ ∀ x ∈ ws, va_at D cl x H := by
  constructor
  · intro h x hx
    obtain ⟨i, hi⟩ := List.getElem?_of_mem hx
    exact h i x hi
  · intro h k q hk
    exact h q (List.mem_of_getElem? hk)
theorem zD_iff {A : Nat → Prop} {ws : va_W} (h : va_D A ws) : ∀ x ∈ ws, A x.1 := by
  intro x hx
  obtain ⟨i, hi⟩ := List.getElem?_of_mem hx
  exact h.2 i x hi
theorem zD_left {A : Nat → Prop} {u v : va_W} (h : va_D A (u ++ v)) : va_D A u := by
  refine ⟨fun i j p q hi hj e => ?_, fun k q hk => ?_⟩
  · have l1 := (List.getElem?_eq_some_iff.mp hi).1
    have l2 := (List.getElem?_eq_some_iff.mp hj).1
    exact h.1 i j p q (by rw [List.getElem?_append_left l1]; exact hi) (by rw [List.getElem?_append_left l2]; exact hj) e
  · have l1 := (List.getElem?_eq_some_iff.mp hk).1
    exact h.2 k q (by rw [List.getElem?_append_left l1]; exact hk)
theorem zD_rightAt {u v : va_W} {i : Nat} {p : Nat × va_E} (hi : v[i]? = some p) : (u ++ v)[u.length + i]? = some p := by
  rw [List.getElem?_append_right (by omega), show u.length + i - u.length = i by omega]
  exact hi
theorem zD_right {A : Nat → Prop} {u v : va_W} (h : va_D A (u ++ v)) : va_D A v := by
  refine ⟨fun i j p q hi hj e => ?_, fun k q hk => h.2 _ q (zD_rightAt hk)⟩
  have := h.1 _ _ p q (zD_rightAt (u := u) hi) (zD_rightAt (u := u) hj) e
  omega
theorem zD_cross {A : Nat → Prop} {u v : va_W} (h : va_D A (u ++ v)) : ∀ x ∈ u, ∀ y ∈ v, x.1 ≠ y.1 := by
  intro x hx y hy e
  obtain ⟨i, hi⟩ := List.getElem?_of_mem hx
  obtain ⟨j, hj⟩ := List.getElem?_of_mem hy
  have l1 := (List.getElem?_eq_some_iff.mp hi).1
  have := h.1 i (u.length + j) x y (by rw [List.getElem?_append_left l1]; exact hi) (zD_rightAt hj) e
  omega
theorem zD_app {A : Nat → Prop} {u v : va_W} (h1 : va_D A u) (h2 : va_D A v) (hx : ∀ x ∈ u, ∀ y ∈ v, x.1 ≠ y.1) : va_D A (u ++ v) :=
  h1.app h2 (fun _ _ p q hp hq => hx p (List.mem_of_getElem? hp) q (List.mem_of_getElem? hq))
theorem zSt_app {L1 L2 : List zAt} {G : zG} : ∀ {ws : va_W}, zSt (L1 ++ L2) G ws ↔ ∃ u v, ws = u ++ v ∧ zSt L1 G u ∧ zSt L2 G v := by
  induction L1 with
  | nil =>
    intro ws
    constructor
    · intro h
      exact ⟨[], ws, rfl, rfl, h⟩
    · rintro ⟨u, v, rfl, h1, h2⟩
      have h1 : u = [] := h1
      subst h1
      exact h2
  | cons a l ih =>
    intro ws
    constructor
    · rintro ⟨u, v, rfl, h1, h2⟩
      obtain ⟨u', v', rfl, h3, h4⟩ := ih.mp h2
      exact ⟨u ++ u', v', by rw [List.append_assoc], ⟨u, u', rfl, h1, h3⟩, h4⟩
    · rintro ⟨w, v', rfl, ⟨u, u', rfl, h1, h3⟩, h4⟩
      exact ⟨u, u' ++ v', by rw [List.append_assoc], h1, ih.mpr ⟨u', v', rfl, h3, h4⟩⟩
/-- the blocks of the atoms, one by one -/
theorem zHd.toF {G : zG} {A : Nat → Prop} : ∀ {L : List zAt} {ws : va_W}, zSt L G ws → va_D A ws → ∃ f : Nat → va_W, (∀ (i : Nat) (a : zAt), L[i]? = some a → a G (f i) ∧ va_D A (f i) ∧ ∀ x ∈ f i, x ∈ ws) ∧ ∀ (i j : Nat), i < L.length → j < L.length → i ≠ j → ∀ x ∈ f i, ∀ y ∈ f j, x.1 ≠ y.1
  | [], ws, _, _ => ⟨fun _ => [], fun i a h => by simp at h, fun i j h => by simp at h⟩
  | a :: l, ws, h, hD => by
    obtain ⟨u, v, rfl, h1, h2⟩ := h
    obtain ⟨f, f1, f2⟩ := zHd.toF h2 (zD_right hD)
    have hc := zD_cross hD
    refine ⟨fun i => match i with | 0 => u | k + 1 => f k, fun i b hi => ?_, fun i j hi hj hne => ?_⟩
    · cases i with
      | zero =>
        simp only [List.getElem?_cons_zero, Option.some.injEq] at hi
        subst hi
        exact ⟨h1, zD_left hD, fun x hx => List.mem_append_left _ hx⟩
      | succ k =>
        rw [List.getElem?_cons_succ] at hi
        obtain ⟨b1, b2, b3⟩ := f1 k b hi
        exact ⟨b1, b2, fun x hx => List.mem_append_right _ (b3 x hx)⟩
    · have inn : ∀ k, k < l.length → ∀ x ∈ f k, x ∈ v := fun k hk x hx => (f1 k _ (List.getElem?_eq_getElem hk)).2.2 x hx
      simp only [List.length_cons] at hi hj
      cases i with
      | zero =>
        cases j with
        | zero => exact absurd rfl hne
        | succ j => exact fun x hx y hy => hc x hx y (inn j (by omega) y hy)
      | succ i =>
        cases j with
        | zero => exact fun x hx y hy e => hc y hy x (inn i (by omega) x hx) e.symm
        | succ j => exact f2 i j (by omega) (by omega) (by omega)
theorem zHd.ofF {G : zG} {A : Nat → Prop} : ∀ {L : List zAt} (f : Nat → va_W), (∀ (i : Nat) (a : zAt), L[i]? = some a → a G (f i) ∧ va_D A (f i)) → (∀ (i j : Nat), i < L.length → j < L.length → i ≠ j → ∀ x ∈ f i, ∀ y ∈ f j, x.1 ≠ y.1) → ∃ ws, zSt L G ws ∧ va_D A ws ∧ ∀ x ∈ ws, ∃ i, i < L.length ∧ x ∈ f i
  | [], _, _, _ => ⟨[], rfl, ⟨fun i j p q h => by simp at h, fun k q h => by simp at h⟩, fun x h => by simp at h⟩
  | a :: l, f, h1, h2 => by
    obtain ⟨ws, g1, g2, g3⟩ := zHd.ofF (L := l) (fun i => f (i + 1)) (fun i b hi => h1 (i + 1) b (by rw [List.getElem?_cons_succ]; exact hi)) (fun i j hi hj hne => h2 (i + 1) (j + 1) (by simp only [List.length_cons]; omega) (by simp only [List.length_cons]; omega) (by omega))
    obtain ⟨b1, b2⟩ := h1 0 a rfl
    refine ⟨f 0 ++ ws, ⟨f 0, ws, rfl, b1, g1⟩, zD_app b2 g2 (fun x hx y hy => ?_), fun x hx => ?_⟩
    · obtain ⟨i, hi, hy'⟩ := g3 y hy
      exact h2 0 (i + 1) (by simp) (by simp only [List.length_cons]; omega) (by omega) x hx y hy'
    · rcases List.mem_append.mp hx with hx | hx
      · exact ⟨0, by simp, hx⟩
      · obtain ⟨i, hi, hy'⟩ := g3 x hx
        exact ⟨i + 1, by simp only [List.length_cons]; omega, hy'⟩
theorem zHd.sub {G : zG} {A : Nat → Prop} {H : Heap} {L L' : List zAt} (h : zHd G A H L) (is : List Nat) (hn : va_nd is = true) (hs : is.map (fun i => L[i]?) = L'.map some) : zHd G A H L' := by
  obtain ⟨ws, h0, hP, hD⟩ := h
  obtain ⟨f, h1, h2⟩ := zHd.toF h0 hD
  have key : ∀ (k : Nat) (a : zAt), L'[k]? = some a → ∃ i, is[k]? = some i ∧ L[i]? = some a := by
    intro k a hk
    have e1 : (is.map (fun i => L[i]?))[k]? = some (some a) := by rw [hs, List.getElem?_map, hk]; rfl
    rw [List.getElem?_map] at e1
    cases hi : is[k]? with
    | none => rw [hi] at e1; cases e1
    | some i => rw [hi] at e1; exact ⟨i, rfl, Option.some.inj e1⟩
  obtain ⟨ws', g1, g2, g3⟩ := zHd.ofF (G := G) (A := A) (L := L') (fun k => f (is.getD k 0)) (fun k a hk => by
    obtain ⟨i, e1, e2⟩ := key k a hk
    have e3 : is.getD k 0 = i := by rw [List.getD_eq_getElem?_getD, e1]; rfl
    show a G (f (is.getD k 0)) ∧ va_D A (f (is.getD k 0))
    rw [e3]
    exact ⟨(h1 i a e2).1, (h1 i a e2).2.1⟩) (fun k k' hk hk' hne => by
    obtain ⟨i, e1, e2⟩ := key k _ (List.getElem?_eq_getElem hk)
    obtain ⟨j, e3, e4⟩ := key k' _ (List.getElem?_eq_getElem hk')
    have e5 : is.getD k 0 = i := by rw [List.getD_eq_getElem?_getD, e1]; rfl
    have e6 : is.getD k' 0 = j := by rw [List.getD_eq_getElem?_getD, e3]; rfl
    show ∀ x ∈ f (is.getD k 0), ∀ y ∈ f (is.getD k' 0), x.1 ≠ y.1
    rw [e5, e6]
    have hl1 : i < L.length := (List.getElem?_eq_some_iff.mp e2).1
    have hl2 : j < L.length := (List.getElem?_eq_some_iff.mp e4).1
    refine h2 i j hl1 hl2 (fun e => ?_)
    subst e
    exact hne (va_nd_inj is hn k k' i e1 e3))
  refine ⟨ws', g1, zP_iff.mpr (fun x hx => ?_), g2⟩
  obtain ⟨k, hk, hx'⟩ := g3 x hx
  obtain ⟨i, e1, e2⟩ := key k _ (List.getElem?_eq_getElem hk)
  have e5 : is.getD k 0 = i := by rw [List.getD_eq_getElem?_getD, e1]; rfl
  have hx' : x ∈ f (is.getD k 0) := hx'
  rw [e5] at hx'
  exact zP_iff.mp hP x ((h1 i _ e2).2.2 x hx')
/-- the callee's atoms ahead, the rest behind: what comes back stands beside the rest -/
theorem zHd.frame {G : zG} {A : Nat → Prop} {H : Heap} {L1 L2 : List zAt} (h : zHd G A H (L1 ++ L2)) :
    ∃ B : Nat → Prop, zHd G B H L1 ∧ (∀ q, B q → A q) ∧ ∀ (H1 : Heap) (L1' : List zAt), (∀ q : Nat, q < H.size → ¬ zB B H.size q → H1[q]? = H[q]?) → zHd G (zB B H.size) H1 L1' → (∀ q, H.size ≤ q → A q) → zHd G A H1 (L1' ++ L2) := by
  obtain ⟨ws, h0, hP, hD⟩ := h
  obtain ⟨u, v, rfl, h1, h2⟩ := zSt_app.mp h0
  have hc := zD_cross hD
  have hPm := zP_iff.mp hP
  refine ⟨fun q => ∃ x ∈ u, x.1 = q, ⟨u, h1, zP_iff.mpr (fun x hx => hPm x (List.mem_append_left _ hx)), (zD_left hD).1, fun k q hq => ⟨q, List.mem_of_getElem? hq, rfl⟩⟩, fun q hq => ?_, fun H1 L1' hk hL hA => ?_⟩
  · obtain ⟨x, hx, rfl⟩ := hq
    exact zD_iff (zD_left hD) x hx
  · obtain ⟨w, w1, w2, w3⟩ := hL
    have out : ∀ y ∈ v, y.1 < H.size ∧ ¬ zB (fun q => ∃ x ∈ u, x.1 = q) H.size y.1 := by
      intro y hy
      have hlt := (hPm y (List.mem_append_right _ hy)).lt
      refine ⟨hlt, fun hz => ?_⟩
      rcases hz with ⟨x, hx, e⟩ | hz
      · exact hc x hx y hy e
      · exact absurd hlt (Nat.not_lt.mpr hz)
    refine ⟨w ++ v, zSt_app.mpr ⟨w, v, rfl, w1, h2⟩, zP_iff.mpr (fun x hx => ?_), zD_app (w3.weaken (fun k q _ hq => ?_)) (zD_right hD) (fun x hx y hy e => ?_)⟩
    · rcases List.mem_append.mp hx with hx | hx
      · exact zP_iff.mp w2 x hx
      · obtain ⟨b1, b2⟩ := out x hx
        exact (hPm x (List.mem_append_right _ hx)).kept (hk x.1 b1 b2)
    · rcases hq with ⟨x, hx, e⟩ | hq
      · rw [← e]
        exact zD_iff (zD_left hD) x hx
      · exact hA _ hq
    · obtain ⟨b1, b2⟩ := out y hy
      exact b2 (by rw [← e]; exact zD_iff w3 x hx)
theorem zHd.weaken {G : zG} {A B : Nat → Prop} {H : Heap} {L : List zAt} (h : zHd G A H L) (hAB : ∀ q, A q → B q) : zHd G B H L := by
  obtain ⟨ws, h0, hP, hD⟩ := h
  exact ⟨ws, h0, hP, hD.weaken (fun _ _ _ h => hAB _ h)⟩
/-- where the one cell of an atom stands; and what stands there when it is changed -/
theorem zSt.at {G : zG} {at0 : zAt} {a : Nat} {e0 : va_E} (h0 : ∀ ws, at0 G ws → ws = [(a, e0)]) : ∀ {L : List zAt} {ws : va_W} {j : Nat}, zSt L G ws → L[j]? = some at0 → ∃ p : Nat, ws[p]? = some (a, e0) ∧ ∀ (at1 : zAt) (e1 : va_E), at1 G [(a, e1)] → zSt (L.set j at1) G (ws.set p (a, e1))
  | [], ws, j, _, hj => by simp at hj
  | b :: l, ws, 0, h, hj => by
    obtain ⟨u, v, rfl, h1, h2⟩ := h
    simp only [List.getElem?_cons_zero, Option.some.injEq] at hj
    subst hj
    have hu := h0 u h1
    subst hu
    exact ⟨0, rfl, fun at1 e1 h3 => ⟨[(a, e1)], v, rfl, h3, h2⟩⟩
  | b :: l, ws, j + 1, h, hj => by
    obtain ⟨u, v, rfl, h1, h2⟩ := h
    rw [List.getElem?_cons_succ] at hj
    obtain ⟨p, p1, p2⟩ := zSt.at h0 h2 hj
    refine ⟨u.length + p, zD_rightAt p1, fun at1 e1 h3 => ⟨u, v.set p (a, e1), ?_, h1, p2 at1 e1 h3⟩⟩
    rw [List.set_append_right _ _ (by omega), show u.length + p - u.length = p by omega]
theorem zSt.push {G : zG} {L : List zAt} {ws : va_W} {at1 : zAt} {x : Nat × va_E} (h : zSt L G ws) (h1 : at1 G [x]) : zSt (L ++ [at1]) G (ws ++ [x]) := zSt_app.mpr ⟨ws, [x], rfl, h, [x], [], by simp, h1, rfl⟩
/-- an atom that is made of others -/
theorem zHd.unp {α : Type} {G : zG} {A : Nat → Prop} {H : Heap} {at0 : zAt} {L : List zAt} {P : α → List zAt} {pr : α → Prop} (hp : ∀ (G : zG) (ws : va_W), at0 G ws → ∃ x, pr x ∧ zSt (P x) G ws) (h : zHd G A H (at0 :: L)) : ∃ x, pr x ∧ zHd G A H (P x ++ L) := by
  obtain ⟨ws, ⟨u, v, rfl, h1, h2⟩, hP, hD⟩ := h
  obtain ⟨x, hx, h3⟩ := hp G u h1
  exact ⟨x, hx, u ++ v, zSt_app.mpr ⟨u, v, rfl, h3, h2⟩, hP, hD⟩
theorem zHd.pack {G : zG} {A : Nat → Prop} {H : Heap} {at0 : zAt} {Ls L : List zAt} (hp : ∀ (G : zG) (ws : va_W), zSt Ls G ws → at0 G ws) (h : zHd G A H (Ls ++ L)) : zHd G A H (at0 :: L) := by
  obtain ⟨ws, h0, hP, hD⟩ := h
  obtain ⟨u, v, rfl, h1, h2⟩ := zSt_app.mp h0
  exact ⟨u ++ v, ⟨u, v, rfl, hp G u h1, h2⟩, hP, hD⟩
