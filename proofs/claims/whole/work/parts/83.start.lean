theorem whole_start {p : Program} {e : Env} {s : State} {m : MethodId} {below : List Frame} {meth : Method} {c : Code} (l : Launch) {b L : Nat} {xs : Nat → Int32} (hL : L ≤ 2048) (C0 : lw_At p s m meth c b L xs) : W p l e room_1 s m #[Value.ref b] below meth c s.heap [] 0 0 (lw_Z below #[Value.ref b] s) (entryFrame m ([Value.ref b] : List Value).toArray 4) := by
  obtain ⟨hx, hb, hr, hml, hown, hts, hX, hbl, hlocks, hgv⟩ := id C0
  have htz : ∀ w ∈ zT, w.before #[Value.ref b] s = true := fun w hw => hts w (List.mem_filter.mp hw).1
  have hAo : ∀ a : Nat, a < s.heap.size → ¬ (fun q : Nat => s.heap.size ≤ q) a := fun a h => Nat.not_le.mpr h
  obtain ⟨c0, i0, h0⟩ := u_known (C := zR_PW) (T := zF_PW) (N := 8) (n := 8) htz zcin_PW (htz _ zins_PW)
  obtain ⟨c1, i1, h1⟩ := u_known (C := zR_BR) (T := zF_BR) (N := 2) (n := 2) htz zcin_BR (htz _ zins_BR)
  obtain ⟨c2, i2, h2⟩ := u_known (C := zR_IR) (T := zF_IR) (N := 3) (n := 3) htz zcin_IR (htz _ zins_IR)
  obtain ⟨c3, i3, h3⟩ := u_known (C := zR_WL) (T := zF_WL) (N := 3) (n := 3) htz zcin_WL (htz _ zins_WL)
  obtain ⟨c4, i4, h4⟩ := u_known (C := zR_TS) (T := zF_TS) (N := 7) (n := 7) htz zcin_TS (htz _ zins_TS)
  obtain ⟨c5, i5, h5⟩ := u_known (C := zR_NU) (T := zF_NU) (N := 8) (n := 8) htz zcin_NU (htz _ zins_NU)
  obtain ⟨c6, i6, h6⟩ := u_known (C := zR_MO) (T := zF_MO) (N := 18) (n := 18) htz zcin_MO (htz _ zins_MO)
  obtain ⟨dC, dI, hKc⟩ : ∃ (dC : Nat → ClassId) (dI : Nat → Nat → Nat), ∀ (k : Nat) (q : vw_C), zCl[k]? = some q → u_Kn s q.1 q.2.1 q.2.2 (dC k) (dI k) := by
    refine ⟨fun k => match k with | 0 => c0 | 1 => c1 | 2 => c2 | 3 => c3 | 4 => c4 | 5 => c5 | _ => c6, fun k => match k with | 0 => i0 | 1 => i1 | 2 => i2 | 3 => i3 | 4 => i4 | 5 => i5 | _ => i6, ?_⟩
    intro k q hq
    match k, hq with
    | 0, hq => cases hq; exact h0
    | 1, hq => cases hq; exact h1
    | 2, hq => cases hq; exact h2
    | 3, hq => cases hq; exact h3
    | 4, hq => cases hq; exact h4
    | 5, hq => cases hq; exact h5
    | 6, hq => cases hq; exact h6
    | k + 7, hq => simp at hq
  obtain ⟨aI, kI, compI, eI1, eI2, eI3⟩ := Cond.arrayClass_spec (htz _ zac_I)
  obtain ⟨aB, kB, compB, eB1, eB2, eB3⟩ := Cond.arrayClass_spec (htz _ zac_B)
  have AI : ArrOfT s aI .int := fun n z => ⟨(fun k h => by cases h), kI, eI2, compI, eI3⟩
  have AB : ArrOfT s aB .byte := fun n z => ⟨(fun k h => by cases h), kB, eB2, compB, eB3⟩
  obtain ⟨dA, e0, e1⟩ : ∃ dA : Nat → ClassId, dA 0 = aI ∧ dA 1 = aB := ⟨fun k => if k = 0 then aI else aB, rfl, rfl⟩
  have hK : zK ((dC, dI), dA) s := by
    refine ⟨hKc, fun k q hk => ?_⟩
    match k, hk with
    | 0, hk => cases hk; exact ⟨show ArrOfT s (dA 0) .int from e0 ▸ AI, show s.vm.findClass ("[" ++ FieldType.int.toString) = some (dA 0) from e0 ▸ eI1⟩
    | 1, hk => cases hk; exact ⟨show ArrOfT s (dA 1) .byte from e1 ▸ AB, show s.vm.findClass ("[" ++ FieldType.byte.toString) = some (dA 1) from e1 ▸ eB1⟩
    | k + 2, hk => simp at hk
  have hg := flat_of_before _ hgv
  have hlen := va_eqt (hg (Cond.eq (.length (Term.static "PageWords$Numeral" "TENS" "[I")) (.int 5)) (by decide +kernel))
  obtain ⟨t0, ht0, hT⟩ := va_Tof (tm := (Term.static "PageWords$Numeral" "TENS" "[I")) (ty := .int) (N := 5) (f := zTens) (A := fun q : Nat => s.heap.size ≤ q) (by decide) (hg (Cond.arrayOf (Term.static "PageWords$Numeral" "TENS" "[I") .int) (by decide +kernel)) hlen (fun j hj => by
    match j, hj with
    | 0, _ => exact va_eqt (hg (Cond.eq (.elem (Term.static "PageWords$Numeral" "TENS" "[I") (.int 0)) (.int 1)) (by decide +kernel))
    | 1, _ => exact va_eqt (hg (Cond.eq (.elem (Term.static "PageWords$Numeral" "TENS" "[I") (.int 1)) (.int 10)) (by decide +kernel))
    | 2, _ => exact va_eqt (hg (Cond.eq (.elem (Term.static "PageWords$Numeral" "TENS" "[I") (.int 2)) (.int 100)) (by decide +kernel))
    | 3, _ => exact va_eqt (hg (Cond.eq (.elem (Term.static "PageWords$Numeral" "TENS" "[I") (.int 3)) (.int 1000)) (by decide +kernel))
    | 4, _ => exact va_eqt (hg (Cond.eq (.elem (Term.static "PageWords$Numeral" "TENS" "[I") (.int 4)) (.int 10000)) (by decide +kernel))
    | j + 5, hj => omega) hAo
  have hZ := va_Zof (A := fun q : Nat => s.heap.size ≤ q) (hts (Cond.laysStatic "PageWords$Numeral" "TENS" "[I") (List.mem_append_right _ (List.mem_of_getElem? (i := 426) (by decide +kernel)))) (htz _ zini_NU) ht0 hAo
  have hNw : va_Nw (.methodLinkNest "PageWords$Numeral" 76 zy_PW_digitValue "PageWords") s := va_Nw.of rfl (hts _ (List.mem_append_right _ (List.mem_of_getElem? (i := 398) (by decide +kernel))))
  have hEnd : zEnd (p, l, e, room_1, s, m, #[Value.ref b], below, meth, c, ((dC, dI), dA), (fun q : Nat => s.heap.size ≤ q), lw_Z below #[Value.ref b] s) := by
    intro k n pc L lv hk hn hd ok H locs ls hH hS hl
    refine va_forget (fun q hq => hS.2.2 q hq) ?_
    refine W.widen hk hn ?_
    exact lw_ret hx hb hr hlocks hd
  have key := law_walk hL (show zSc (p, l, e, room_1, s, m, #[Value.ref b], below, meth, c, ((dC, dI), dA), (fun q : Nat => s.heap.size ≤ q), lw_Z below #[Value.ref b] s) b L xs from ⟨hX, hbl, hAo b hbl⟩) hEnd
  have hl := lv_entry ([.ref b]) (n := 4) (Nat.le_of_ble_eq_true rfl)
  rw [lg_entry_eq]
  generalize (lg_sl ([.ref b]) ++ List.replicate (4 - (lg_sl ([.ref b])).length) Slot.unset).toArray = ls at hl ⊢
  exact key ⟨⟨hx, hb, hml, hown, htz⟩, hr, hlocks, hK, ⟨⟨t0, hZ, hT⟩, hNw⟩, fun _ h => h, ⟨Nat.le_refl _, Nat.le_refl _, Nat.le_refl _, Nat.le_refl _⟩, fun h => by cases h⟩ s.heap [] ls ⟨[], rfl, (fun k q h => by simp at h), ⟨fun i j p q h => by simp at h, fun k q h => by simp at h⟩⟩ va_S.rf hl
