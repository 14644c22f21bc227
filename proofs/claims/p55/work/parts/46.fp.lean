/-! floats that are no NaN, and the freshness of n days -/
def dP : FP.Core.Datum → Prop
  | .nan => False
  | .inf s => s = false
  | .fin s _ _ => s = false
theorem fp_t32 : FP.Core.Fmt.tails FP.Core.b32 = 8388608 := by decide
theorem fp_e32 : FP.Core.Fmt.exps FP.Core.b32 = 256 := by decide
theorem fp_q32 : FP.Core.Fmt.qmin FP.Core.b32 = -149 := by decide
theorem fp_x32 : FP.Core.Fmt.qmax FP.Core.b32 = 104 := by decide
theorem fp_t64 : FP.Core.Fmt.tails FP.Core.b64 = 4503599627370496 := by decide
theorem fp_e64 : FP.Core.Fmt.exps FP.Core.b64 = 2048 := by decide
theorem fp_q64 : FP.Core.Fmt.qmin FP.Core.b64 = -1074 := by decide
theorem fp_x64 : FP.Core.Fmt.qmax FP.Core.b64 = 971 := by decide
theorem dP_dec32 {n : Nat} (h : n ≤ 2139095040) : dP (FP.Core.decode FP.Core.b32 n) := by
  unfold FP.Core.decode FP.Core.fieldE FP.Core.fieldT FP.Core.fieldS
  rw [fp_t32, fp_e32]
  have hs : (n / 8388608 / 256 % 2 == 1) = false := by
    have : n / 8388608 / 256 = 0 := by omega
    rw [this]; rfl
  rw [hs]
  split
  · split
    · rfl
    · rename_i h1 h2
      exfalso
      omega
  · split <;> rfl
theorem enc_fin32 {c : Nat} {q : Int} (hc : c < 16777216) (hq : q ≤ 104) : FP.Core.encode FP.Core.b32 (.fin false c q) ≤ 2139095040 := by
  unfold FP.Core.encode FP.Core.assemble
  simp only [fp_t32, fp_e32, fp_q32, Bool.toNat_false, Nat.zero_mul, Nat.zero_add]
  split <;> omega
theorem enc_inf32 : FP.Core.encode FP.Core.b32 (.inf false) ≤ 2139095040 := by decide
theorem set32 (c : Nat) (q : Int) : FP.Core.encode FP.Core.b32 (FP.Core.settle FP.Core.b32 false c q) ≤ 2139095040 := by
  have hp : 2 ^ FP.Core.Fmt.p FP.Core.b32 = 16777216 := by decide
  unfold FP.Core.settle FP.Core.bound
  rw [hp, fp_x32, fp_t32]
  split
  · split
    · exact enc_fin32 (by assumption) (by assumption)
    · exact enc_inf32
  · split
    · exact enc_fin32 (by decide) (by assumption)
    · exact enc_inf32
theorem rr32 (num den : Nat) (e : Int) : FP.Core.encode FP.Core.b32 (FP.Core.roundRatio FP.Core.b32 false num den e) ≤ 2139095040 := by
  unfold FP.Core.roundRatio FP.Core.roundAt
  split
  · decide
  · exact set32 _ _
theorem rd32 {d : FP.Core.Datum} (h : dP d) : FP.Core.encode FP.Core.b32 (FP.Core.round FP.Core.b32 d) ≤ 2139095040 := by
  cases d with
  | nan => exact absurd h (fun q => q)
  | inf s => have h : s = false := h; subst h; exact enc_inf32
  | fin s c q => have h : s = false := h; subst h; exact rr32 _ _ _
theorem dP_sum {a b : FP.Core.Datum} (ha : dP a) (hb : dP b) : dP (FP.Core.exactSum a b) := by
  cases a with
  | nan => exact absurd ha (fun q => q)
  | inf s =>
    have ha : s = false := ha
    subst ha
    cases b with
    | nan => exact absurd hb (fun q => q)
    | inf t => have hb : t = false := hb; subst hb; rfl
    | fin t d r => rfl
  | fin s c q =>
    have ha : s = false := ha
    subst ha
    cases b with
    | nan => exact absurd hb (fun q => q)
    | inf t => have hb : t = false := hb; subst hb; rfl
    | fin t d r =>
      have hb : t = false := hb
      subst hb
      show FP.Core.sumSign false false (FP.Core.sumUnits false c q false d r (min q r)) = false
      have h0 : 0 ≤ FP.Core.sumUnits false c q false d r (min q r) := by
        unfold FP.Core.sumUnits FP.Core.signed
        simp only [Bool.false_eq_true, if_false]
        omega
      unfold FP.Core.sumSign
      split
      · rfl
      · exact decide_eq_false (by omega)
/-- bits of a float that is no NaN and not below zero -/
def fP (x : UInt32) : Prop := x.toNat ≤ 2139095040
theorem vf_of {x : UInt32} (h : fP x) : vf_n32 x := by
  unfold vf_n32
  rw [UInt32.le_iff_toNat_le, UInt32.toNat_and]
  exact Nat.le_trans Nat.and_le_left h
theorem fP_of {n : Nat} (h : n ≤ 2139095040) : fP (UInt32.ofNat n) := by
  unfold fP
  rw [UInt32.toNat_ofNat']
  exact Nat.le_trans (Nat.mod_le _ _) h
theorem fP_add {a b : UInt32} (ha : fP a) (hb : fP b) : fP (FP.fadd a b) := fP_of (rd32 (dP_sum (dP_dec32 ha) (dP_dec32 hb)))
/-- a positive number of the format -/
def dPos : FP.Core.Datum → Prop
  | .fin s c _ => s = false ∧ c ≠ 0
  | _ => False
theorem quo32 {a b : FP.Core.Datum} (ha : dP a) (hb : dPos b) : FP.Core.encode FP.Core.b32 (FP.Core.quotient FP.Core.b32 a b) ≤ 2139095040 := by
  cases b with
  | nan => exact absurd hb (fun q => q)
  | inf t => exact absurd hb (fun q => q)
  | fin t d r =>
    obtain ⟨h1, h2⟩ : t = false ∧ d ≠ 0 := hb
    subst h1
    cases a with
    | nan => exact absurd ha (fun q => q)
    | inf s => have ha : s = false := ha; subst ha; exact enc_inf32
    | fin s c q =>
      have ha : s = false := ha
      subst ha
      show FP.Core.encode FP.Core.b32 (if d = 0 then (if c = 0 then FP.Core.Datum.nan else FP.Core.Datum.inf (false != false)) else FP.Core.roundRatio FP.Core.b32 (false != false) c d (q - r)) ≤ _
      rw [if_neg h2]
      exact rr32 _ _ _
theorem fP_div {a b : UInt32} (ha : fP a) (hb : dPos (FP.Core.decode FP.Core.b32 b.toNat)) : fP (FP.fdiv a b) := fP_of (quo32 (dP_dec32 ha) hb)
def dPosB : FP.Core.Datum → Bool
  | .fin s c _ => !s && (c != 0)
  | _ => false
theorem dPosB_of {d : FP.Core.Datum} (h : dPosB d = true) : dPos d := by
  cases d with
  | nan => cases h
  | inf s => cases h
  | fin s c q =>
    unfold dPosB at h
    simp at h
    exact h
theorem i2f_tab : (List.range 400).all (fun n => decide ((FP.i2f (Int32.ofNat n)).toNat ≤ 2139095040) && (n == 0 || dPosB (FP.Core.decode FP.Core.b32 (FP.i2f (Int32.ofNat n)).toNat))) = true := by decide +kernel
theorem i2f_ok {z : Int} (h : 0 ≤ z ∧ z < 400) : fP (FP.i2f (iI z)) ∧ (z ≠ 0 → dPos (FP.Core.decode FP.Core.b32 (FP.i2f (iI z)).toNat)) := by
  have h1 := List.all_eq_true.mp i2f_tab z.toNat (List.mem_range.mpr (by omega))
  have e : Int32.ofNat z.toNat = iI z := by
    have := iI_nat z.toNat
    rw [Int.toNat_of_nonneg h.1] at this
    exact this
  rw [e] at h1
  rw [Bool.and_eq_true, Bool.or_eq_true] at h1
  have h2 := of_decide_eq_true h1.1
  refine ⟨h2, fun hz => ?_⟩
  rcases h1.2 with q | q
  · have := eq_of_beq q
    omega
  · exact dPosB_of q
/-! doubles -/
def dQ (x : UInt64) : Prop := x.toNat ≤ 9218868437227405312
theorem vf_of64 {x : UInt64} (h : dQ x) : vf_n64 x := by
  unfold vf_n64
  rw [UInt64.le_iff_toNat_le, UInt64.toNat_and]
  exact Nat.le_trans Nat.and_le_left h
theorem dQ_of {n : Nat} (h : n ≤ 9218868437227405312) : dQ (UInt64.ofNat n) := by
  unfold dQ
  rw [UInt64.toNat_ofNat']
  exact Nat.le_trans (Nat.mod_le _ _) h
theorem dP_dec64 {n : Nat} (h : n ≤ 9218868437227405312) : dP (FP.Core.decode FP.Core.b64 n) := by
  unfold FP.Core.decode FP.Core.fieldE FP.Core.fieldT FP.Core.fieldS
  rw [fp_t64, fp_e64]
  have hs : (n / 4503599627370496 / 2048 % 2 == 1) = false := by
    have : n / 4503599627370496 / 2048 = 0 := by omega
    rw [this]; rfl
  rw [hs]
  split
  · split
    · rfl
    · rename_i h1 h2
      exfalso
      omega
  · split <;> rfl
theorem enc_fin64 {c : Nat} {q : Int} (hc : c < 9007199254740992) (hq : q ≤ 971) : FP.Core.encode FP.Core.b64 (.fin false c q) ≤ 9218868437227405312 := by
  unfold FP.Core.encode FP.Core.assemble
  simp only [fp_t64, fp_e64, fp_q64, Bool.toNat_false, Nat.zero_mul, Nat.zero_add]
  split <;> omega
theorem enc_inf64 : FP.Core.encode FP.Core.b64 (.inf false) ≤ 9218868437227405312 := by decide
theorem set64 (c : Nat) (q : Int) : FP.Core.encode FP.Core.b64 (FP.Core.settle FP.Core.b64 false c q) ≤ 9218868437227405312 := by
  have hp : 2 ^ FP.Core.Fmt.p FP.Core.b64 = 9007199254740992 := by decide
  unfold FP.Core.settle FP.Core.bound
  rw [hp, fp_x64, fp_t64]
  split
  · split
    · exact enc_fin64 (by assumption) (by assumption)
    · exact enc_inf64
  · split
    · exact enc_fin64 (by decide) (by assumption)
    · exact enc_inf64
theorem rr64 (num den : Nat) (e : Int) : FP.Core.encode FP.Core.b64 (FP.Core.roundRatio FP.Core.b64 false num den e) ≤ 9218868437227405312 := by
  unfold FP.Core.roundRatio FP.Core.roundAt
  split
  · decide
  · exact set64 _ _
theorem rd64 {d : FP.Core.Datum} (h : dP d) : FP.Core.encode FP.Core.b64 (FP.Core.round FP.Core.b64 d) ≤ 9218868437227405312 := by
  cases d with
  | nan => exact absurd h (fun q => q)
  | inf s => have h : s = false := h; subst h; exact enc_inf64
  | fin s c q => have h : s = false := h; subst h; exact rr64 _ _ _
theorem quo64 {a b : FP.Core.Datum} (ha : dP a) (hb : dPos b) : FP.Core.encode FP.Core.b64 (FP.Core.quotient FP.Core.b64 a b) ≤ 9218868437227405312 := by
  cases b with
  | nan => exact absurd hb (fun q => q)
  | inf t => exact absurd hb (fun q => q)
  | fin t d r =>
    obtain ⟨h1, h2⟩ : t = false ∧ d ≠ 0 := hb
    subst h1
    cases a with
    | nan => exact absurd ha (fun q => q)
    | inf s => have ha : s = false := ha; subst ha; exact enc_inf64
    | fin s c q =>
      have ha : s = false := ha
      subst ha
      show FP.Core.encode FP.Core.b64 (if d = 0 then (if c = 0 then FP.Core.Datum.nan else FP.Core.Datum.inf (false != false)) else FP.Core.roundRatio FP.Core.b64 (false != false) c d (q - r)) ≤ _
      rw [if_neg h2]
      exact rr64 _ _ _
theorem dQ_div {a b : UInt64} (ha : dQ a) (hb : dPos (FP.Core.decode FP.Core.b64 b.toNat)) : dQ (FP.ddiv a b) := dQ_of (quo64 (dP_dec64 ha) hb)
theorem dQ_f2d {x : UInt32} (h : fP x) : dQ (FP.f2d x) := by
  have hd := dP_dec32 h
  unfold FP.f2d
  have hn : FP.Core.fIsNaN x = false := by
    unfold FP.Core.fIsNaN FP.Core.isNaN
    refine decide_eq_false (fun q => ?_)
    rw [q] at hd
    exact hd
  rw [hn]
  exact dQ_of (rd64 hd)
theorem i2d_tab : (List.range 2300).all (fun n => decide ((FP.i2d (Int32.ofNat n)).toNat ≤ 9218868437227405312) && (n == 0 || dPosB (FP.Core.decode FP.Core.b64 (FP.i2d (Int32.ofNat n)).toNat))) = true := by decide +kernel
theorem i2d_ok {z : Int} (h : 0 ≤ z ∧ z < 2300) : dQ (FP.i2d (iI z)) ∧ (z ≠ 0 → dPos (FP.Core.decode FP.Core.b64 (FP.i2d (iI z)).toNat)) := by
  have h1 := List.all_eq_true.mp i2d_tab z.toNat (List.mem_range.mpr (by omega))
  have e : Int32.ofNat z.toNat = iI z := by
    have := iI_nat z.toNat
    rw [Int.toNat_of_nonneg h.1] at this
    exact this
  rw [e] at h1
  rw [Bool.and_eq_true, Bool.or_eq_true] at h1
  have h2 := of_decide_eq_true h1.1
  refine ⟨h2, fun hz => ?_⟩
  rcases h1.2 with q | q
  · have := eq_of_beq q
    omega
  · exact dPosB_of q
/-- the freshness behind n days -/
def zfr : Nat → UInt32
  | 0 => FP.fconst1
  | n + 1 => FP.fmul (zfr n) 1061158912
def zchk (P : Bool → UInt32 → Bool) : Nat → Nat → UInt32 → Bool
  | 0, n, x => (FP.fmul x 1061158912 == x) && P (decide (n < 5)) x && decide (5 ≤ n)
  | k + 1, n, x => P (decide (n < 5)) x && zchk P k (n + 1) (FP.fmul x 1061158912)
theorem zfr_fix {j : Nat} (h : FP.fmul (zfr j) 1061158912 = zfr j) : ∀ n, j ≤ n → zfr n = zfr j := by
  intro n hn
  induction n with
  | zero => rw [show j = 0 by omega]
  | succ n ih =>
    by_cases q : j = n + 1
    · rw [q]
    · show FP.fmul (zfr n) 1061158912 = zfr j
      rw [ih (by omega)]
      exact h
theorem zchk_all {P : Bool → UInt32 → Bool} : ∀ (k j : Nat), zchk P k j (zfr j) = true → ∀ n, j ≤ n → P (decide (n < 5)) (zfr n) = true
  | 0, j, h, n, hn => by
    unfold zchk at h
    rw [Bool.and_eq_true, Bool.and_eq_true] at h
    have h5 := of_decide_eq_true h.2
    rw [zfr_fix (eq_of_beq h.1.1) n hn]
    have h2 := h.1.2
    rw [decide_eq_false (by omega)] at h2 ⊢
    exact h2
  | k + 1, j, h, n, hn => by
    unfold zchk at h
    rw [Bool.and_eq_true] at h
    by_cases q : j = n
    · subst q; exact h.1
    · exact zchk_all k (j + 1) h.2 n (by omega)
theorem zfr_tab : zchk (fun b x => decide (x.toNat ≤ 2139095040) && (decide (Op.cmpValue (FP.fcmp x 1048576000) .l < 0) == !b)) 370 0 (zfr 0) = true := by decide +kernel
theorem zfr_P (n : Nat) : fP (zfr n) := by
  have h := zchk_all 370 0 zfr_tab n (Nat.zero_le _)
  rw [Bool.and_eq_true] at h
  have h2 := of_decide_eq_true h.1
  exact h2
