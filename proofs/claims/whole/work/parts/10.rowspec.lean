/-! WHAT THE ROWS OF THE CLASS ARE: pure values -/
def bI (b : Bool) : Int := if b then 1 else 0
theorem bI_rg (b : Bool) : 0 ≤ bI b ∧ bI b ≤ 1 := by cases b <;> simp [bI]
def bget (l : List Int) (z : Int) : Int := if 0 ≤ z ∧ z < l.length then l.getD z.toNat 0 else -1
def iget (l : List Int32) (z : Int) : Int32 := if 0 ≤ z ∧ z < l.length then l.getD z.toNat 0 else zI (-1)
def iset (l : List Int32) (z : Int) (x : Int32) : List Int32 := if 0 ≤ z ∧ z < l.length then l.set z.toNat x else l
/-- the length of a row's array behind one more -/
def gcap (c n : Nat) : Nat := if c < n then n else 2 * n
theorem gcap_ge (c n : Nat) : n ≤ gcap c n := by unfold gcap; split <;> omega
theorem gcap_gt {c n : Nat} (h : c ≤ n) (h0 : 0 < n) : c < gcap c n := by unfold gcap; split <;> omega
theorem gcap_le {c n m : Nat} (h : c < m) (hn : n ≤ 2 * m) : gcap c n ≤ 2 * m := by unfold gcap; split <;> omega
def sBlank (z : Int) : Bool := decide (z = 0 ∨ z = 9 ∨ z = 10 ∨ z = 12 ∨ z = 13 ∨ z = 32)
def sLine (z : Int) : Bool := decide (z = 10 ∨ z = 13)
def sMark (z : Int) : Bool := decide (z = 40 ∨ z = 41 ∨ z = 60 ∨ z = 62 ∨ z = 91 ∨ z = 93 ∨ z = 123 ∨ z = 125 ∨ z = 47 ∨ z = 37)
def sPlain (z : Int) : Bool := !sBlank z && !sMark z
def sOct (z : Int) : Bool := decide (48 ≤ z ∧ z ≤ 55)
def sDig (z : Int) : Bool := decide (48 ≤ z ∧ z ≤ 57)
def sSign (z : Int) : Bool := decide (z = 43 ∨ z = 45)
def digV (z : Int) : Int := if 48 ≤ z ∧ z ≤ 57 then z - 48 else if 97 ≤ z ∧ z ≤ 122 then z - 97 + 10 else if 65 ≤ z ∧ z ≤ 90 then z - 65 + 10 else -1
def meantV (z : Int) : Int := if z = 110 then 10 else if z = 114 then 13 else if z = 116 then 9 else if z = 98 then 8 else if z = 102 then 12 else z
theorem bget_rg {l : List Int} (h : ∀ b ∈ l, 0 ≤ b ∧ b ≤ 255) (z : Int) : -1 ≤ bget l z ∧ bget l z ≤ 255 := by
  unfold bget
  split
  · rename_i hz
    have hl : z.toNat < l.length := by omega
    have := h (l.getD z.toNat 0) (by rw [List.getD_eq_getElem?_getD, List.getElem?_eq_getElem hl]; exact List.getElem_mem hl)
    omega
  · omega
theorem zI_byte : ∀ n : Nat, n < 256 → (zI (n : Int)).toInt8.toInt32 &&& 255 = zI (n : Int) := by decide +kernel
theorem zI_byte' {b : Int} (h : 0 ≤ b ∧ b ≤ 255) : (zI b).toInt8.toInt32 &&& zI 255 = zI b := by
  have := zI_byte b.toNat (by omega)
  rw [show ((b.toNat : Nat) : Int) = b by omega] at this
  exact this
theorem zI_mod256 (z : Int) : (zI (z % 256)).toInt8.toInt32 = (zI z).toInt8.toInt32 := by
  have e : Int8.ofInt (z % 256) = Int8.ofInt z := by
    rw [← Int8.toInt_inj, Int8.toInt_ofInt, Int8.toInt_ofInt]
    show (z % ((256 : Nat) : Int)).bmod 256 = z.bmod 256
    rw [Int.emod_bmod]
  show (Int32.ofInt (z % 256)).toInt8.toInt32 = (Int32.ofInt z).toInt8.toInt32
  rw [Int32.toInt8_ofInt, Int32.toInt8_ofInt, e]
/-- a row of ints: most, its array, how many -/
def zIRow (h : Nat) (l : List Int32) (n most : Nat) : zAt := fun G ws => ∃ x : Nat × (Nat → Int32), (l.length ≤ n ∧ 0 < n ∧ n ≤ 131072 ∧ ∀ j, j < l.length → x.2 j = l.getD j 0) ∧ zSt [zObj h 2 [.int (zI most), .ref x.1, .int (zI l.length)], zArI x.1 n x.2] G ws
def zBRow (h : Nat) (l : List Int) (n : Nat) : zAt := fun G ws => ∃ x : Nat × (Nat → Int32), (l.length ≤ n ∧ 0 < n ∧ n ≤ 131072 ∧ (∀ b ∈ l, 0 ≤ b ∧ b ≤ 255) ∧ (∀ j, fits .byte (.int (x.2 j)) = true) ∧ ∀ j, j < l.length → x.2 j = (zI (l.getD j 0)).toInt8.toInt32) ∧ zSt [zObj h 1 [.ref x.1, .int (zI l.length)], zArB x.1 n x.2] G ws
theorem zbI1 {b : Bool} (h : bI b ≠ 0) : b = true := by cases b <;> simp [bI] at h ⊢
theorem zbI0 {b : Bool} (h : bI b = 0) : b = false := by cases b <;> simp [bI] at h ⊢
