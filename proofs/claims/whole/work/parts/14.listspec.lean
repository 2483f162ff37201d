/-! WORD LIST AND STORE: their atoms -/
def rshort {α : Type} (l : List α) (z : Int) : List α := if 0 ≤ z ∧ z < l.length then l.take z.toNat else l
theorem zgD_take {α : Type} {l : List α} {d : α} {k m : Nat} (h : k < m) : (l.take m).getD k d = l.getD k d := by rw [List.getD_eq_getElem?_getD, List.getD_eq_getElem?_getD, List.getElem?_take_of_lt h]
theorem zmem_getD {α : Type} {l : List α} {d : α} {k : Nat} (h : k < l.length) : l.getD k d ∈ l := by
  rw [List.getD_eq_getElem?_getD, List.getElem?_eq_getElem h]
  exact List.getElem_mem h
theorem zbytes_snoc {l : List Int} {z : Int} (h : ∀ b ∈ l, 0 ≤ b ∧ b ≤ 255) (hz : 0 ≤ z ∧ z ≤ 255) : ∀ b ∈ l ++ [z], 0 ≤ b ∧ b ≤ 255 := by
  intro b hb
  rcases List.mem_append.mp hb with hb | hb
  · exact h b hb
  · rw [List.mem_singleton.mp hb]
    exact hz
theorem zrow_snc {l : List Int32} {f : Nat → Int32} {x : Int32} (h : ∀ j, j < l.length → f j = l.getD j 0) : ∀ j, j < (l ++ [x]).length → upd f ((l.length : Nat) : Int).toNat x j = (l ++ [x]).getD j 0 := by
  intro j hj
  rw [show ((l.length : Nat) : Int).toNat = l.length by omega]
  simp only [List.length_append, List.length_cons, List.length_nil] at hj
  by_cases e : j = l.length
  · subst e
    rw [pk_us, zgD_r _ _ _ (Nat.le_refl _)]
    simp
  · rw [pk_un e, zgD_l _ _ _ (by omega)]
    exact h j (by omega)
theorem zrow_sncB {l : List Int} {f : Nat → Int32} {z : Int} (h : ∀ j, j < l.length → f j = (zI (l.getD j 0)).toInt8.toInt32) : ∀ j, j < (l ++ [z % 256]).length → upd f ((l.length : Nat) : Int).toNat (vp_nar .byte ((zI z).toInt8.toInt32)) j = (zI ((l ++ [z % 256]).getD j 0)).toInt8.toInt32 := by
  intro j hj
  rw [show ((l.length : Nat) : Int).toNat = l.length by omega, pk_vb]
  simp only [List.length_append, List.length_cons, List.length_nil] at hj
  by_cases e : j = l.length
  · subst e
    rw [pk_us, zgD_r _ _ _ (Nat.le_refl _)]
    simp only [Nat.sub_self, List.getD_cons_zero]
    rw [zI_mod256]
  · rw [pk_un e, zgD_l _ _ _ (by omega)]
    exact h j (by omega)
theorem zfit_upd {f : Nat → Int32} {k : Nat} {x : Int32} (h : ∀ j, fits .byte (.int (f j)) = true) : ∀ j, fits .byte (.int (upd f k (vp_nar .byte (x.toInt8.toInt32)) j)) = true := by
  intro j
  by_cases e : j = k
  · subst e
    rw [pk_us, pk_vb]
    exact pk_fb x
  · rw [pk_un e]
    exact h j
theorem zfit_cpy {f : Nat → Int32} {m : Nat} (h : ∀ j, fits .byte (.int (f j)) = true) : ∀ j, fits .byte (.int (va_cpy f (fun _ => 0) 0 0 m j)) = true := by
  intro j
  unfold va_cpy
  split
  · exact h _
  · rfl
def zWL (h : Nat) (ws : List (Int32 × Int32 × Int32)) (n : Nat) : zAt := fun G w => ∃ x : Nat × Nat × Nat, ws.length ≤ 16384 ∧ zSt [zObj h 3 [.ref x.1, .ref x.2.1, .ref x.2.2], zIRow x.1 (ws.map (fun q => q.1)) n 16384, zIRow x.2.1 (ws.map (fun q => q.2.1)) n 16384, zIRow x.2.2 (ws.map (fun q => q.2.2)) n 16384] G w
def tsStarts (ts : List (List Int)) : List Int32 := (List.range ts.length).map (fun i => zI ((ts.take i).flatten.length : Nat))
def tsSizes (ts : List (List Int)) : List Int32 := ts.map (fun t => zI (t.length : Nat))
def tsHashes (ts : List (List Int)) : List Int32 := ts.map hashL
def tsOlder (ts : List (List Int)) : List Int32 := (List.range ts.length).map (fun i => zI (lastB ts (bkt (ts.getD i [])) i))
def zTS (h : Nat) (ts : List (List Int)) (pend : List Int) (nb n : Nat) : zAt := fun G w => ∃ x : (Nat × Nat × Nat × Nat × Nat × Nat) × (Nat → Int32), (ts.length ≤ 16384 ∧ difT ts ∧ ∀ b, b < 1024 → x.2 b = zI (lastB ts b ts.length)) ∧
  zSt [zObj h 4 [.ref x.1.1, .ref x.1.2.1, .ref x.1.2.2.1, .ref x.1.2.2.2.1, .ref x.1.2.2.2.2.1, .ref x.1.2.2.2.2.2, .int (zI (ts.flatten.length : Nat))], zBRow x.1.1 (ts.flatten ++ pend) nb, zIRow x.1.2.1 (tsStarts ts) n 16384, zIRow x.1.2.2.1 (tsSizes ts) n 16384, zIRow x.1.2.2.2.1 (tsHashes ts) n 16384, zIRow x.1.2.2.2.2.1 (tsOlder ts) n 16384, zArI x.1.2.2.2.2.2 1024 x.2] G w
theorem zRv_IRow {h n most : Nat} {l : List Int32} : zRv (zIRow h l n most) h 2 := fun _ _ ⟨_, _, hs⟩ => zRv_st hs
theorem zRv_BRow {h n : Nat} {l : List Int} : zRv (zBRow h l n) h 1 := fun _ _ ⟨_, _, hs⟩ => zRv_st hs
theorem zRv_WL {h n : Nat} {ws : List (Int32 × Int32 × Int32)} : zRv (zWL h ws n) h 3 := fun _ _ ⟨_, _, hs⟩ => zRv_st hs
theorem zRv_TS {h nb n : Nat} {ts : List (List Int)} {pend : List Int} : zRv (zTS h ts pend nb n) h 4 := fun _ _ ⟨_, _, hs⟩ => zRv_st hs
theorem rshort0 {α : Type} (l : List α) : rshort l 0 = [] := by
  unfold rshort
  split
  · rfl
  · have : l.length = 0 := by omega
    exact List.length_eq_zero_iff.mp this
def wsetN (ws : List (Int32 × Int32 × Int32)) (z : Int) (x : Int32) : List (Int32 × Int32 × Int32) := if 0 ≤ z ∧ z < ws.length then ws.set z.toNat ((ws.getD z.toNat (0, 0, 0)).1, x, (ws.getD z.toNat (0, 0, 0)).2.2) else ws
theorem wsetN_len (ws : List (Int32 × Int32 × Int32)) (z : Int) (x : Int32) : (wsetN ws z x).length = ws.length := by
  unfold wsetN
  split
  · exact List.length_set ..
  · rfl
theorem zset_map {α β : Type} (f : α → β) (l : List α) (i : Nat) (a d : α) (h : f a = f (l.getD i d)) : (l.set i a).map f = l.map f := by
  apply List.ext_getElem?
  intro j
  rw [List.getElem?_map, List.getElem?_map, List.getElem?_set]
  split
  · rename_i e
    subst e
    split
    · rename_i hl
      rw [List.getD_eq_getElem?_getD, List.getElem?_eq_getElem hl] at h
      rw [List.getElem?_eq_getElem hl]
      simpa using h
    · rename_i hl
      rw [List.getElem?_eq_none (by omega)]
  · rfl
theorem wsetN_1 (ws : List (Int32 × Int32 × Int32)) (z : Int) (x : Int32) : (wsetN ws z x).map (fun q => q.1) = ws.map (fun q => q.1) := by
  unfold wsetN
  split
  · exact zset_map _ _ _ _ (0, 0, 0) rfl
  · rfl
theorem wsetN_3 (ws : List (Int32 × Int32 × Int32)) (z : Int) (x : Int32) : (wsetN ws z x).map (fun q => q.2.2) = ws.map (fun q => q.2.2) := by
  unfold wsetN
  split
  · exact zset_map _ _ _ _ (0, 0, 0) rfl
  · rfl
theorem wsetN_2 (ws : List (Int32 × Int32 × Int32)) (z : Int) (x : Int32) : (wsetN ws z x).map (fun q => q.2.1) = iset (ws.map (fun q => q.2.1)) z x := by
  unfold wsetN iset
  rw [List.length_map]
  split
  · rw [List.map_set]
  · rfl
theorem zrow_set {l : List Int32} {f : Nat → Int32} {x : Int32} {z : Int} (h : ∀ j, j < l.length → f j = l.getD j 0) : ∀ j, j < (l.set z.toNat x).length → upd f z.toNat x j = (l.set z.toNat x).getD j 0 := by
  intro j hj
  rw [List.length_set] at hj
  by_cases e : j = z.toNat
  · subst e
    rw [pk_us, List.getD_eq_getElem?_getD, List.getElem?_set_self hj]
    rfl
  · rw [pk_un e, List.getD_eq_getElem?_getD, List.getElem?_set_ne (Ne.symm e), ← List.getD_eq_getElem?_getD]
    exact h j hj
theorem zfill_step {f : Nat → Int32} {x : Int32} {i : Int} (h : 0 ≤ i) : upd (fun j => if j < i.toNat then x else f j) i.toNat x = (fun j => if j < (i + 1).toNat then x else f j) := by
  funext j
  by_cases e : j = i.toNat
  · subst e
    rw [pk_us, if_pos (by omega)]
  · rw [pk_un e]
    by_cases h1 : j < i.toNat
    · rw [if_pos h1, if_pos (by omega)]
    · rw [if_neg h1, if_neg (by omega)]
