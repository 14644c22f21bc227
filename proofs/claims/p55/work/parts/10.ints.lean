/-! Whole numbers: every int of a walk is said by an Int z, as iI z. -/
def iI (z : Int) : Int32 := Int32.ofInt z
theorem iI_add (a b : Int) : iI (a + b) = iI a + iI b := Int32.ofInt_add a b
theorem iI_sub (a b : Int) : iI (a - b) = iI a - iI b := Int32.ofInt_sub a b
theorem iI_mul (a b : Int) : iI (a * b) = iI a * iI b := Int32.ofInt_mul a b
theorem iI_neg (a : Int) : iI (-a) = -iI a := Int32.ofInt_neg a
theorem iI_of (x : Int32) : x = iI x.toInt := (Int32.ofInt_toInt x).symm
theorem iI_rng (x : Int32) : -2147483648 ≤ x.toInt ∧ x.toInt ≤ 2147483647 := by
  have h1 := Int32.le_toInt x
  have h2 := Int32.toInt_lt x
  omega
theorem iI_to {z : Int} (h : -2147483648 ≤ z ∧ z ≤ 2147483647) : (iI z).toInt = z := Int32.toInt_ofInt_of_le (by omega) (by omega)
theorem iI_lt {a b : Int} (ha : -2147483648 ≤ a ∧ a ≤ 2147483647) (hb : -2147483648 ≤ b ∧ b ≤ 2147483647) : iI a < iI b ↔ a < b := by
  rw [Int32.lt_iff_toInt_lt, iI_to ha, iI_to hb]
theorem iI_le {a b : Int} (ha : -2147483648 ≤ a ∧ a ≤ 2147483647) (hb : -2147483648 ≤ b ∧ b ≤ 2147483647) : iI a ≤ iI b ↔ a ≤ b := by
  rw [Int32.le_iff_toInt_le, iI_to ha, iI_to hb]
theorem iI_eq {a b : Int} (ha : -2147483648 ≤ a ∧ a ≤ 2147483647) (hb : -2147483648 ≤ b ∧ b ≤ 2147483647) : iI a = iI b ↔ a = b := by
  rw [← Int32.toInt_inj, iI_to ha, iI_to hb]
theorem iI_0 : iI 0 = 0 := rfl
theorem iI_clamp {z : Int} (h : 0 ≤ z ∧ z ≤ 2147483647) : (iI z).toNatClampNeg = z.toNat := Int32.toNatClampNeg_ofInt_of_le (by omega) (by omega)
theorem iI_nat (n : Nat) : nI n = iI (n : Int) := by
  unfold nI iI
  exact (Int32.ofInt_eq_ofNat).symm
theorem iI_in {z : Int} {n : Nat} (h : 0 ≤ z ∧ z < n) (hn : n ≤ 2147483647) : vp_in (iI z) n := by
  unfold vp_in
  rw [iI_clamp (by omega)]
  intro q
  rcases q with q | q
  · have := (iI_lt (a := z) (b := 0) (by omega) (by omega)).mp q
    omega
  · omega
theorem iI_char {z : Int} (h : 0 ≤ z ∧ z ≤ 65535) : ((iI z).toUInt32 % 65536).toInt32 = iI z := by
  obtain ⟨n, rfl⟩ : ∃ n : Nat, z = (n : Int) := ⟨z.toNat, by omega⟩
  rw [← iI_nat, pk_char]
  congr 1
  have : (nI n).toBitVec.toNat = n := by
    show (BitVec.ofNat 32 n).toNat = n
    rw [BitVec.toNat_ofNat]
    omega
  rw [this]
  omega
theorem iI_charR (x : Int32) : ∃ z : Int, (0 ≤ z ∧ z ≤ 65535) ∧ (x.toUInt32 % 65536).toInt32 = iI z := by
  rw [pk_char, iI_nat]
  exact ⟨_, by omega, rfl⟩
theorem iI_narC {z : Int} (h : 0 ≤ z ∧ z ≤ 65535) : narrow .char (.int (iI z)) = .int (iI z) ∧ fits .char (.int (iI z)) = true := by
  obtain ⟨n, rfl⟩ : ∃ n : Nat, z = (n : Int) := ⟨z.toNat, by omega⟩
  rw [← iI_nat]
  exact pk_charN (by omega)
theorem iI_vpC {z : Int} (h : 0 ≤ z ∧ z ≤ 65535) : vp_nar .char (iI z) = iI z := by
  unfold vp_nar
  rw [(iI_narC h).1]
theorem iI_div {a b : Int} (ha : 0 ≤ a ∧ a ≤ 2147483647) (hb : 0 < b ∧ b ≤ 2147483647) : iI a / iI b = iI (a / b) := by
  apply Int32.toInt_inj.mp
  have hb1 : iI b ≠ -1 := by
    intro q
    have := congrArg Int32.toInt q
    rw [iI_to (by omega)] at this
    have h1 : (-1 : Int32).toInt = -1 := by decide
    omega
  have h3 : 0 ≤ a / b := Int.ediv_nonneg ha.1 (by omega)
  have h4 : a / b ≤ a := Int.ediv_le_self b ha.1
  rw [Int32.toInt_div_of_ne_right _ _ hb1, iI_to (by omega), iI_to (by omega), iI_to (by omega)]
  exact Int.tdiv_eq_ediv_of_nonneg ha.1
theorem iI_rem {a b : Int} (ha : 0 ≤ a ∧ a ≤ 2147483647) (hb : 0 < b ∧ b ≤ 2147483647) : iI a - iI a / iI b * iI b = iI (a % b) := by
  rw [iI_div ha hb, ← iI_mul, ← iI_sub]
  congr 1
  have := Int.emod_add_mul_ediv a b
  rw [Int.mul_comm] at this
  omega
theorem iI_zr {z : Int} (h : z = 0 ∨ z = 1) : narrow .boolean (.int (iI z)) = .int (iI z) := by
  rcases h with rfl | rfl <;> rfl
/-- an array's places by Ints -/
def aI (f : Int → Int) : Nat → Int32 := fun k => iI (f k)
def upI {α : Type} (f : Int → α) (i : Int) (x : α) : Int → α := fun k => if k = i then x else f k
theorem aI_at {f : Int → Int} {i : Int} (h : 0 ≤ i ∧ i ≤ 2147483647) : aI f (iI i).toNatClampNeg = iI (f i) := by
  unfold aI
  rw [iI_clamp h, Int.toNat_of_nonneg h.1]
theorem aI_up {f : Int → Int} {i x : Int} (h : 0 ≤ i ∧ i ≤ 2147483647) : upd (aI f) (iI i).toNatClampNeg (iI x) = aI (upI f i x) := by
  funext k
  unfold upd aI upI
  rw [iI_clamp h]
  by_cases hk : k = i.toNat
  · rw [if_pos hk, if_pos (by omega)]
  · rw [if_neg hk, if_neg (by omega)]
