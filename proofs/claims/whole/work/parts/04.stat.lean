/-! what the Statement gives of the statics, and the link of a nest mate: carried along by every contract -/
def zTens : Nat → Value := fun j => .int (match j with | 0 => 1 | 1 => 10 | 2 => 100 | 3 => 1000 | _ => 10000)
def zF (A : Nat → Prop) (U : State) (H : Heap) : Prop := (∃ t : Nat, va_Z "PageWords$Numeral" "TENS" "[I" (.ref t) A U H ∧ va_T .int t 5 zTens A U H) ∧ va_Nw (.methodLinkNest "PageWords$Numeral" 76 zy_PW_digitValue "PageWords") U
theorem zF.kept {A : Nat → Prop} {U : State} {H H1 : Heap} (h : zF A U H) (hq : ∀ a : Nat, a < H.size → ¬ A a → H1[a]? = H[a]?) : zF A U H1 := by
  obtain ⟨⟨t, h1, h2⟩, h3⟩ := h
  exact ⟨⟨t, h1.kept hq, h2.kept hq⟩, h3⟩
theorem zF.narrow {A B : Nat → Prop} {U : State} {H : Heap} (h : zF A U H) (hAB : ∀ q, B q → A q) : zF B U H := by
  obtain ⟨⟨t, h1, h2⟩, h3⟩ := h
  exact ⟨⟨t, h1.narrow hAB, h2.narrow hAB⟩, h3⟩
theorem zF.same {A : Nat → Prop} {u U : State} {H : Heap} (e : u.vm = U.vm) (h : zF A u H) : zF A U H := by
  obtain ⟨⟨t, h1, h2⟩, h3⟩ := h
  have hal : u.vm.Alike U.vm := e ▸ Vm.Alike.refl u.vm
  exact ⟨⟨t, h1.moved hal, h2.moved hal⟩, va_Nw.same rfl e h3⟩
theorem zF.warm {A : Nat → Prop} {s U : State} {H : Heap} (hW : s.WarmedH U.vm) (h : zF A s H) : zF A U H := by
  obtain ⟨⟨t, h1, h2⟩, h3⟩ := h
  exact ⟨⟨t, h1.moved hW.alike, h2.moved hW.alike⟩, va_Nw.warmM hW h3⟩
