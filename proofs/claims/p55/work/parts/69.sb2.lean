theorem zko.upz {F F1 : zF} {a va va1 : Nat} {e : va_E} (h : zko [a, va] F F1) (h1 : va1 = va ∨ F va1 = none) : zko [a, va] F (zup F1 va1 e) := by
  rcases h1 with h1 | h1
  · exact h.up (by simp [h1])
  · exact h.upn h1
theorem zdig_l (x : Int) : (zdig x).length = if x ≤ 9 then 1 else if x ≤ 99 then 2 else 3 := by
  unfold zdig
  split
  · rfl
  · split <;> rfl
theorem zdig_a {x : Int} (h0 : 0 ≤ x ∧ x ≤ 999) : ∀ y ∈ zdig x, 0 ≤ y ∧ y ≤ 127 := by
  unfold zdig
  intro y hy
  split at hy
  · simp at hy; omega
  · split at hy
    · simp at hy; omega
    · simp at hy; omega
theorem iI_divn {x y : Int} (h0 : 0 ≤ x ∧ x ≤ 2147483647) (hy : 0 < y ∧ y ≤ 2147483647) : iI (-x) / iI y = iI (-(x / y)) := by
  apply Int32.toInt_inj.mp
  have hb1 : iI y ≠ -1 := by
    intro q
    have := congrArg Int32.toInt q
    rw [iI_to (by omega)] at this
    have h1 : (-1 : Int32).toInt = -1 := by decide
    omega
  have h3 : 0 ≤ x / y := Int.ediv_nonneg h0.1 (by omega)
  have h4 : x / y ≤ x := Int.ediv_le_self y h0.1
  rw [Int32.toInt_div_of_ne_right _ _ hb1, iI_to (by omega), iI_to (by omega), iI_to (by omega), Int.neg_tdiv, Int.tdiv_eq_ediv_of_nonneg h0.1]
section ZN5
variable {p : Program} {l : Launch} {e : Env} {R : Room} {s : State} {m : MethodId} {args : Array Value} {below : List Frame} {meth : Method} {c : Code} {H : Heap} {locs : List Loc} {cells slots : Nat} {Q : State → Prop}
variable {cc : ByteArray} {pc : Nat} {ls : Array Slot} {rest : List Value}
theorem z_idivn (hx : p.tables.exec = Jvm.exec) (hb : c.code = cc) {x y : Int} (d : decode cc pc = .ok (.idiv, 1)) (ha : 0 ≤ x ∧ x ≤ 2147483647) (hy : 0 < y ∧ y ≤ 2147483647) (k : W p l e R s m args below meth c H locs cells slots Q (F0 m (pc + 1) ls (.int (iI (-(x / y))) :: rest))) : W p l e R s m args below meth c H locs cells slots Q (F0 m pc ls (.int (iI y) :: .int (iI (-x)) :: rest)) := lv_idiv hx hb d (fun h => by have := (iI_eq (a := y) (b := 0) (by omega) (by omega)).mp h; omega) (by rw [iI_divn ha hy]; exact k)
end ZN5
theorem dg1 {r : Int} (h : 0 ≤ r ∧ r ≤ 99) : Value.int (Int32.ofNat (48 + r.toNat % 10)) = .int (iI (48 + r % 10)) := by
  have := iI_nat (48 + r.toNat % 10)
  rw [show ((48 + r.toNat % 10 : Nat) : Int) = 48 + r % 10 by omega] at this
  exact congrArg Value.int this
theorem dg10 {r : Int} (h : 0 ≤ r ∧ r ≤ 99) : Value.int (Int32.ofNat (48 + r.toNat / 10)) = .int (iI (48 + r / 10)) := by
  have := iI_nat (48 + r.toNat / 10)
  rw [show ((48 + r.toNat / 10 : Nat) : Int) = 48 + r / 10 by omega] at this
  exact congrArg Value.int this
/-- g is f with the digits of x written up to n -/
def dgW (f g : Int → Int) (x n : Int) : Prop := (∀ k : Int, k < n - (zdig x).length → g k = f k) ∧ (∀ k : Int, 0 ≤ k → k < (zdig x).length → g (n - (zdig x).length + k) = (zdig x).getD k.toNat 0) ∧ ((∀ k : Int, 0 ≤ f k ∧ f k ≤ 127) → ∀ k : Int, 0 ≤ g k ∧ g k ≤ 127)
theorem up_r {f : Int → Int} {i y : Int} (h : ∀ k : Int, 0 ≤ f k ∧ f k ≤ 127) (hy : 0 ≤ y ∧ y ≤ 127) : ∀ k : Int, 0 ≤ upI f i y k ∧ upI f i y k ≤ 127 := by
  intro k
  unfold upI
  split
  · exact hy
  · exact h k
theorem dgW_1 {f : Int → Int} {x n : Int} (h : 0 ≤ x ∧ x ≤ 9) : dgW f (upI f (n + -1) (48 + x % 10)) x n := by
  have e : zdig x = [48 + x] := zdig_1 h.2
  refine ⟨fun k hk => ?_, fun k k0 k1 => ?_, fun hf => up_r hf (by omega)⟩
  · rw [e] at hk; simp at hk
    exact upI_n (by omega)
  · rw [e] at k1 ⊢; simp at k1
    have hk : k = 0 := by omega
    subst hk
    show upI f (n + -1) _ (n - 1 + 0) = 48 + x
    rw [show n - 1 + 0 = n + -1 by omega, upI_s]
    omega
theorem dgW_2 {f : Int → Int} {x n : Int} (h : 10 ≤ x ∧ x ≤ 99) : dgW f (upI (upI f (n + -1) (48 + x % 10)) (n + -1 + -1) (48 + x / 10)) x n := by
  have e : zdig x = [48 + x / 10, 48 + x % 10] := by unfold zdig; rw [if_neg (by omega), if_pos h.2]
  refine ⟨fun k hk => ?_, fun k k0 k1 => ?_, fun hf => up_r (up_r hf (by omega)) (by omega)⟩
  · rw [e] at hk; simp at hk
    rw [upI_n (by omega), upI_n (by omega)]
  · rw [e] at k1 ⊢; simp at k1
    have hk : k = 0 ∨ k = 1 := by omega
    rcases hk with rfl | rfl
    · show upI _ (n + -1 + -1) _ (n - 2 + 0) = _
      rw [show n - 2 + 0 = n + -1 + -1 by omega, upI_s]
      rfl
    · show upI _ (n + -1 + -1) _ (n - 2 + 1) = _
      rw [upI_n (by omega), show n - 2 + 1 = n + -1 by omega, upI_s]
      rfl
theorem dgW_3 {f : Int → Int} {x n : Int} (h : 100 ≤ x ∧ x ≤ 999) : dgW f (upI (upI (upI f (n + -1) (48 + x % 100 % 10)) (n + -1 + -1) (48 + x % 100 / 10)) (n + -1 + -1 + -1) (48 + x / 100 % 10)) x n := by
  have e : zdig x = [48 + x / 10 / 10, 48 + x / 10 % 10, 48 + x % 10] := by unfold zdig; rw [if_neg (by omega), if_neg (by omega)]
  refine ⟨fun k hk => ?_, fun k k0 k1 => ?_, fun hf => up_r (up_r (up_r hf (by omega)) (by omega)) (by omega)⟩
  · rw [e] at hk; simp at hk
    rw [upI_n (by omega), upI_n (by omega), upI_n (by omega)]
  · rw [e] at k1 ⊢; simp at k1
    have hk : k = 0 ∨ k = 1 ∨ k = 2 := by omega
    rcases hk with rfl | rfl | rfl
    · show upI _ (n + -1 + -1 + -1) _ (n - 3 + 0) = 48 + x / 10 / 10
      rw [show n - 3 + 0 = n + -1 + -1 + -1 by omega, upI_s]
      omega
    · show upI _ (n + -1 + -1 + -1) _ (n - 3 + 1) = 48 + x / 10 % 10
      rw [upI_n (by omega), show n - 3 + 1 = n + -1 + -1 by omega, upI_s]
      omega
    · show upI _ (n + -1 + -1 + -1) _ (n - 3 + 2) = 48 + x % 10
      rw [upI_n (by omega), upI_n (by omega), show n - 3 + 2 = n + -1 by omega, upI_s]
      omega
set_option maxHeartbeats 4000000 in
set_option maxRecDepth 100000 in
theorem met_J6_stringSize_0f7a4 (l : Launch) (D : va_G) (cs : Nat → ClassId) (A : Nat → Prop) (F : zF) (x : Int)  (hx0 : 0 ≤ x ∧ x ≤ 999) : zM l D cs A yJ6_stringSize_0f7a4 cJ6_stringSize_0f7a4 4 (some FieldType.int) 1 0 0 [.int (iI x)] F (pI (fun r F1 => F = F1 ∧ ((zdig x).length : Int) = r)) := by
  refine zM_of (own := RJ6) (by decide) rfl (Nat.le_of_ble_eq_true rfl) ?_
  intro p e s m below meth c hC hr hlk hnm hZ ls hl
  have hx := hC.x
  have hb := hC.b
  have hl : lv_has ls 4 [(0, .int (iI x))] := hl
  refine z_iconst hx hb dJ6_stringSize_0f7a4_0 ?_
  refine lv_istore_n (lv' := [(1, .int (iI 1)), (0, .int (iI x))]) hx hb dJ6_stringSize_0f7a4_1 rfl hl (by decide) rfl (fun ls hl => ?_)
  refine lv_iload_n hx hb dJ6_stringSize_0f7a4_2 rfl (lv_at hl 1 rfl) ?_
  refine z_if_lt (tgt := 11) hx hb dJ6_stringSize_0f7a4_3 (by decide) (by omega) (fun c_1 => ?_) (fun c_1 => ?_)
  · skip
    exfalso; omega
  · skip
    refine z_iconst hx hb dJ6_stringSize_0f7a4_6 ?_
    refine lv_istore_n (lv' := [(1, .int (iI 0)), (0, .int (iI x))]) hx hb dJ6_stringSize_0f7a4_7 rfl hl (by decide) rfl (fun ls hl => ?_)
    refine lv_iload_n hx hb dJ6_stringSize_0f7a4_8 rfl (lv_at hl 1 rfl) ?_
    refine z_ineg hx hb dJ6_stringSize_0f7a4_9 ?_
    refine lv_istore_n (lv' := [(0, .int (iI (-x))), (1, .int (iI 0))]) hx hb dJ6_stringSize_0f7a4_10 rfl hl (by decide) rfl (fun ls hl => ?_)
    refine z_bipush hx hb dJ6_stringSize_0f7a4_11 (by decide) ?_
    refine lv_istore_n (lv' := [(2, .int (iI (-10))), (0, .int (iI (-x))), (1, .int (iI 0))]) hx hb dJ6_stringSize_0f7a4_13 rfl hl (by decide) rfl (fun ls hl => ?_)
    refine z_iconst hx hb dJ6_stringSize_0f7a4_14 ?_
    refine lv_istore_n (lv' := [(3, .int (iI 1)), (2, .int (iI (-10))), (0, .int (iI (-x))), (1, .int (iI 0))]) hx hb dJ6_stringSize_0f7a4_15 rfl hl (by decide) rfl (fun ls hl => ?_)
    refine lv_iload_n hx hb dJ6_stringSize_0f7a4_16 rfl (lv_at hl 0 rfl) ?_
    refine z_bipush hx hb dJ6_stringSize_0f7a4_17 (by decide) ?_
    refine z_icmp_ge (tgt := 42) hx hb dJ6_stringSize_0f7a4_19 (by decide) (by decide) (by decide) (fun c_2 => ?_) (fun c_2 => ?_)
    · skip
      exfalso; omega
    · skip
      refine lv_iload_n hx hb dJ6_stringSize_0f7a4_22 rfl (lv_at hl 2 rfl) ?_
      refine lv_iload_n hx hb dJ6_stringSize_0f7a4_23 rfl (lv_at hl 1 rfl) ?_
      refine z_icmp_le (tgt := 31) hx hb dJ6_stringSize_0f7a4_24 (by decide) (by omega) (by decide) (fun c_3 => ?_) (fun c_3 => ?_)
      · skip
        refine z_bipush hx hb dJ6_stringSize_0f7a4_31 (by decide) ?_
        refine lv_iload_n hx hb dJ6_stringSize_0f7a4_33 rfl (lv_at hl 1 rfl) ?_
        refine z_imul hx hb dJ6_stringSize_0f7a4_34 ?_
        refine z_top (y := -100) (by decide) ?_
        refine lv_istore_n (lv' := [(2, .int (iI (-100))), (3, .int (iI 1)), (0, .int (iI (-x))), (1, .int (iI 0))]) hx hb dJ6_stringSize_0f7a4_35 rfl hl (by decide) rfl (fun ls hl => ?_)
        refine z_iinc (lv' := [(3, .int (iI 2)), (2, .int (iI (-100))), (0, .int (iI (-x))), (1, .int (iI 0))]) hx hb dJ6_stringSize_0f7a4_36 hl (k := 1) rfl (by decide) rfl (fun ls hl => ?_)
        refine lv_goto (tgt := 16) hx hb dJ6_stringSize_0f7a4_39 (by decide) ?_
        refine lv_iload_n hx hb dJ6_stringSize_0f7a4_16 rfl (lv_at hl 0 rfl) ?_
        refine z_bipush hx hb dJ6_stringSize_0f7a4_17 (by decide) ?_
        refine z_icmp_ge (tgt := 42) hx hb dJ6_stringSize_0f7a4_19 (by decide) (by decide) (by decide) (fun c_4 => ?_) (fun c_4 => ?_)
        · skip
          exfalso; omega
        · skip
          refine lv_iload_n hx hb dJ6_stringSize_0f7a4_22 rfl (lv_at hl 2 rfl) ?_
          refine lv_iload_n hx hb dJ6_stringSize_0f7a4_23 rfl (lv_at hl 1 rfl) ?_
          refine z_icmp_le (tgt := 31) hx hb dJ6_stringSize_0f7a4_24 (by decide) (by omega) (by decide) (fun c_5 => ?_) (fun c_5 => ?_)
          · skip
            refine z_bipush hx hb dJ6_stringSize_0f7a4_31 (by decide) ?_
            refine lv_iload_n hx hb dJ6_stringSize_0f7a4_33 rfl (lv_at hl 1 rfl) ?_
            refine z_imul hx hb dJ6_stringSize_0f7a4_34 ?_
            refine z_top (y := -1000) (by decide) ?_
            refine lv_istore_n (lv' := [(2, .int (iI (-1000))), (3, .int (iI 2)), (0, .int (iI (-x))), (1, .int (iI 0))]) hx hb dJ6_stringSize_0f7a4_35 rfl hl (by decide) rfl (fun ls hl => ?_)
            refine z_iinc (lv' := [(3, .int (iI 3)), (2, .int (iI (-1000))), (0, .int (iI (-x))), (1, .int (iI 0))]) hx hb dJ6_stringSize_0f7a4_36 hl (k := 1) rfl (by decide) rfl (fun ls hl => ?_)
            refine lv_goto (tgt := 16) hx hb dJ6_stringSize_0f7a4_39 (by decide) ?_
            refine lv_iload_n hx hb dJ6_stringSize_0f7a4_16 rfl (lv_at hl 0 rfl) ?_
            refine z_bipush hx hb dJ6_stringSize_0f7a4_17 (by decide) ?_
            refine z_icmp_ge (tgt := 42) hx hb dJ6_stringSize_0f7a4_19 (by decide) (by decide) (by decide) (fun c_6 => ?_) (fun c_6 => ?_)
            · skip
              exfalso; omega
            · skip
              refine lv_iload_n hx hb dJ6_stringSize_0f7a4_22 rfl (lv_at hl 2 rfl) ?_
              refine lv_iload_n hx hb dJ6_stringSize_0f7a4_23 rfl (lv_at hl 1 rfl) ?_
              refine z_icmp_le (tgt := 31) hx hb dJ6_stringSize_0f7a4_24 (by decide) (by omega) (by decide) (fun c_7 => ?_) (fun c_7 => ?_)
              · skip
                exfalso; omega
              · skip
                refine lv_iload_n hx hb dJ6_stringSize_0f7a4_27 rfl (lv_at hl 0 rfl) ?_
                refine lv_iload_n hx hb dJ6_stringSize_0f7a4_28 rfl (lv_at hl 3 rfl) ?_
                refine z_iadd hx hb dJ6_stringSize_0f7a4_29 ?_
                refine z_top (y := 3) (by decide) ?_
                exact z_iret hC hr hlk hZ (by decide) (by decide) (⟨rfl, by rw [zdig_l]; split; (first | rfl | omega); split; (first | rfl | omega); first | rfl | omega⟩) dJ6_stringSize_0f7a4_30
          · skip
            refine lv_iload_n hx hb dJ6_stringSize_0f7a4_27 rfl (lv_at hl 0 rfl) ?_
            refine lv_iload_n hx hb dJ6_stringSize_0f7a4_28 rfl (lv_at hl 3 rfl) ?_
            refine z_iadd hx hb dJ6_stringSize_0f7a4_29 ?_
            refine z_top (y := 2) (by decide) ?_
            exact z_iret hC hr hlk hZ (by decide) (by decide) (⟨rfl, by rw [zdig_l]; split; (first | rfl | omega); split; (first | rfl | omega); first | rfl | omega⟩) dJ6_stringSize_0f7a4_30
      · skip
        refine lv_iload_n hx hb dJ6_stringSize_0f7a4_27 rfl (lv_at hl 0 rfl) ?_
        refine lv_iload_n hx hb dJ6_stringSize_0f7a4_28 rfl (lv_at hl 3 rfl) ?_
        refine z_iadd hx hb dJ6_stringSize_0f7a4_29 ?_
        refine z_top (y := 1) (by decide) ?_
        exact z_iret hC hr hlk hZ (by decide) (by decide) (⟨rfl, by rw [zdig_l]; split; (first | rfl | omega); split; (first | rfl | omega); first | rfl | omega⟩) dJ6_stringSize_0f7a4_30

set_option maxHeartbeats 4000000 in
set_option maxRecDepth 100000 in
theorem met_J6_getChars_ba4f3 (l : Launch) (D : va_G) (cs : Nat → ClassId) (A : Nat → Prop) (F : zF) (x y : Int) (va cap : Nat) (f_ : Int → Int)  (hx0 : 0 ≤ x ∧ x ≤ 999) (hy0 : (zdig x).length ≤ y ∧ y ≤ cap) (hc0 : cap ≤ 10000) (h1 : F va = some (zA (cs 0) cap f_)) : zM l D cs A yJ6_getChars_ba4f3 cJ6_getChars_ba4f3 7 (some FieldType.int) 1 0 0 [.int (iI x), .int (iI y), .ref va] F (pI (fun r F1 => ∃ g : Int → Int, F1 = zup F va (zA (cs 0) cap g) ∧ dgW f_ g x y)) := by
  refine zM_of (own := RJ6) (by decide) rfl (Nat.le_of_ble_eq_true rfl) ?_
  intro p e s m below meth c hC hr hlk hnm hZ ls hl
  have hx := hC.x
  have hb := hC.b
  have hl : lv_has ls 7 [(0, .int (iI x)), (1, .int (iI y)), (2, .ref va)] := hl
  have hdl := zdig_l x
  refine lv_iload_n hx hb dJ6_getChars_ba4f3_0 rfl (lv_at hl 1 rfl) ?_
  refine lv_istore (lv' := [(5, .int (iI y)), (0, .int (iI x)), (1, .int (iI y)), (2, .ref va)]) hx hb dJ6_getChars_ba4f3_1 hl (by decide) rfl (fun ls hl => ?_)
  refine lv_iload_n hx hb dJ6_getChars_ba4f3_3 rfl (lv_at hl 1 rfl) ?_
  refine z_if_ge (tgt := 11) hx hb dJ6_getChars_ba4f3_4 (by decide) (by omega) (fun c_1 => ?_) (fun c_1 => ?_)
  · skip
    refine z_iconst hx hb dJ6_getChars_ba4f3_11 ?_
    refine lv_istore (lv' := [(6, .int (iI 0)), (5, .int (iI y)), (0, .int (iI x)), (1, .int (iI y)), (2, .ref va)]) hx hb dJ6_getChars_ba4f3_12 hl (by decide) rfl (fun ls hl => ?_)
    refine lv_iload hx hb dJ6_getChars_ba4f3_14 (lv_at hl 0 rfl) ?_
    refine z_if_ne (tgt := 22) hx hb dJ6_getChars_ba4f3_16 (by decide) (by decide) (fun c_2 => ?_) (fun c_2 => ?_)
    · skip
      exfalso; omega
    · skip
      refine lv_iload_n hx hb dJ6_getChars_ba4f3_19 rfl (lv_at hl 2 rfl) ?_
      refine z_ineg hx hb dJ6_getChars_ba4f3_20 ?_
      refine lv_istore_n (lv' := [(0, .int (iI (-x))), (6, .int (iI 0)), (5, .int (iI y)), (1, .int (iI y)), (2, .ref va)]) hx hb dJ6_getChars_ba4f3_21 rfl hl (by decide) rfl (fun ls hl => ?_)
      refine lv_iload_n hx hb dJ6_getChars_ba4f3_22 rfl (lv_at hl 0 rfl) ?_
      refine z_bipush hx hb dJ6_getChars_ba4f3_23 (by decide) ?_
      refine z_icmp_gt (tgt := 72) hx hb dJ6_getChars_ba4f3_25 (by decide) (by omega) (by decide) (fun c_3 => ?_) (fun c_3 => ?_)
      · skip
        have hsm : x ≤ 99 := by omega
        have hdl2 : (zdig x).length = if x ≤ 9 then 1 else 2 := by rw [hdl]; split; rfl; first | rfl | rw [if_pos hsm]
        refine lv_aload_n hx hb dJ6_getChars_ba4f3_72 rfl (lv_at hl 4 rfl) ?_
        refine z_iinc (lv' := [(5, .int (iI (y + (-1)))), (0, .int (iI (-x))), (6, .int (iI 0)), (1, .int (iI y)), (2, .ref va)]) hx hb dJ6_getChars_ba4f3_73 hl (k := 2) rfl (by decide) rfl (fun ls hl => ?_)
        refine lv_iload hx hb dJ6_getChars_ba4f3_76 (lv_at hl 0 rfl) ?_
        refine z_gets hC hZ (List.mem_of_getElem? (i := 2) rfl) ql_J6_83 dJ6_getChars_ba4f3_78 ?_
        refine lv_iload_n hx hb dJ6_getChars_ba4f3_81 rfl (lv_at hl 1 rfl) ?_
        refine z_ineg hx hb dJ6_getChars_ba4f3_82 ?_
        refine z_top (y := x) (by omega) ?_
        refine z_tb (x := 48 + x % 10) hC hZ (List.mem_of_getElem? (i := 1) rfl) (by omega) (by decide) (dg1 (by omega)) dJ6_getChars_ba4f3_83 ?_
        refine z_bast hC hZ h1 (by first | omega | (split at hdl2 <;> omega)) (by omega) (by omega) dJ6_getChars_ba4f3_84 (fun H locs hZ => ?_)
        have hf_4 : (zup F va (zA (cs 0) cap (upI f_ (y + (-1)) (48 + x % 10)))) va = some (zA (cs 0) cap (upI f_ (y + (-1)) (48 + x % 10))) := zup_s
        replace hZ : zS D A s (zup F va (zA (cs 0) cap (upI f_ (y + (-1)) (48 + x % 10)))) _ _ := hZ
        refine lv_iload_n hx hb dJ6_getChars_ba4f3_85 rfl (lv_at hl 1 rfl) ?_
        refine z_bipush hx hb dJ6_getChars_ba4f3_86 (by decide) ?_
        refine z_icmp_ge (tgt := 104) hx hb dJ6_getChars_ba4f3_88 (by decide) (by omega) (by decide) (fun c_5 => ?_) (fun c_5 => ?_)
        · skip
          refine lv_iload hx hb dJ6_getChars_ba4f3_104 (lv_at hl 2 rfl) ?_
          refine z_if_eq (tgt := 118) hx hb dJ6_getChars_ba4f3_106 (by decide) (by decide) (fun c_6 => ?_) (fun c_6 => ?_)
          · skip
            refine lv_iload hx hb dJ6_getChars_ba4f3_118 (lv_at hl 0 rfl) ?_
            exact z_iret hC hr hlk hZ (by decide) (by decide) (⟨_, rfl, (dgW_1 (by omega))⟩) dJ6_getChars_ba4f3_120
          · skip
            exfalso; omega
        · skip
          refine lv_aload_n hx hb dJ6_getChars_ba4f3_91 rfl (lv_at hl 4 rfl) ?_
          refine z_iinc (lv' := [(5, .int (iI ((y + (-1)) + (-1)))), (0, .int (iI (-x))), (6, .int (iI 0)), (1, .int (iI y)), (2, .ref va)]) hx hb dJ6_getChars_ba4f3_92 hl (k := 0) rfl (by decide) rfl (fun ls hl => ?_)
          refine lv_iload hx hb dJ6_getChars_ba4f3_95 (lv_at hl 0 rfl) ?_
          refine z_gets hC hZ (List.mem_of_getElem? (i := 3) rfl) ql_J6_87 dJ6_getChars_ba4f3_97 ?_
          refine lv_iload_n hx hb dJ6_getChars_ba4f3_100 rfl (lv_at hl 1 rfl) ?_
          refine z_ineg hx hb dJ6_getChars_ba4f3_101 ?_
          refine z_top (y := x) (by omega) ?_
          refine z_tb (x := 48 + x / 10) hC hZ (List.mem_of_getElem? (i := 2) rfl) (by omega) (by decide) (dg10 (by omega)) dJ6_getChars_ba4f3_102 ?_
          refine z_bast hC hZ hf_4 (by first | omega | (split at hdl2 <;> omega)) (by omega) (by omega) dJ6_getChars_ba4f3_103 (fun H locs hZ => ?_)
          rw [zup_up] at hZ
          have hf_7 : (zup F va (zA (cs 0) cap (upI (upI f_ (y + (-1)) (48 + x % 10)) ((y + (-1)) + (-1)) (48 + x / 10)))) va = some (zA (cs 0) cap (upI (upI f_ (y + (-1)) (48 + x % 10)) ((y + (-1)) + (-1)) (48 + x / 10))) := zup_s
          replace hZ : zS D A s (zup F va (zA (cs 0) cap (upI (upI f_ (y + (-1)) (48 + x % 10)) ((y + (-1)) + (-1)) (48 + x / 10)))) _ _ := hZ
          refine lv_iload hx hb dJ6_getChars_ba4f3_104 (lv_at hl 2 rfl) ?_
          refine z_if_eq (tgt := 118) hx hb dJ6_getChars_ba4f3_106 (by decide) (by decide) (fun c_8 => ?_) (fun c_8 => ?_)
          · skip
            refine lv_iload hx hb dJ6_getChars_ba4f3_118 (lv_at hl 0 rfl) ?_
            exact z_iret hC hr hlk hZ (by decide) (by decide) (⟨_, rfl, (dgW_2 (by omega))⟩) dJ6_getChars_ba4f3_120
          · skip
            exfalso; omega
      · skip
        have hbg : 100 ≤ x := by omega
        have hdl2 : (zdig x).length = 3 := by rw [hdl, if_neg (by omega), if_neg (by omega)]
        refine lv_iload_n hx hb dJ6_getChars_ba4f3_28 rfl (lv_at hl 0 rfl) ?_
        refine z_bipush hx hb dJ6_getChars_ba4f3_29 (by decide) ?_
        refine z_idivn (x := x) hx hb dJ6_getChars_ba4f3_31 (by omega) (by decide) ?_
        refine lv_istore_n (lv' := [(3, .int (iI (-(x / 100)))), (0, .int (iI (-x))), (6, .int (iI 0)), (5, .int (iI y)), (1, .int (iI y)), (2, .ref va)]) hx hb dJ6_getChars_ba4f3_32 rfl hl (by decide) rfl (fun ls hl => ?_)
        refine lv_iload_n hx hb dJ6_getChars_ba4f3_33 rfl (lv_at hl 0 rfl) ?_
        refine z_bipush hx hb dJ6_getChars_ba4f3_34 (by decide) ?_
        refine z_imul hx hb dJ6_getChars_ba4f3_36 ?_
        refine lv_iload_n hx hb dJ6_getChars_ba4f3_37 rfl (lv_at hl 1 rfl) ?_
        refine z_isub hx hb dJ6_getChars_ba4f3_38 ?_
        refine z_top (y := x % 100) (by omega) ?_
        refine lv_istore (lv' := [(4, .int (iI (x % 100))), (3, .int (iI (-(x / 100)))), (0, .int (iI (-x))), (6, .int (iI 0)), (5, .int (iI y)), (1, .int (iI y)), (2, .ref va)]) hx hb dJ6_getChars_ba4f3_39 hl (by decide) rfl (fun ls hl => ?_)
        refine lv_iload_n hx hb dJ6_getChars_ba4f3_41 rfl (lv_at hl 1 rfl) ?_
        refine lv_istore_n (lv' := [(0, .int (iI (-(x / 100)))), (4, .int (iI (x % 100))), (3, .int (iI (-(x / 100)))), (6, .int (iI 0)), (5, .int (iI y)), (1, .int (iI y)), (2, .ref va)]) hx hb dJ6_getChars_ba4f3_42 rfl hl (by decide) rfl (fun ls hl => ?_)
        refine lv_aload_n hx hb dJ6_getChars_ba4f3_43 rfl (lv_at hl 6 rfl) ?_
        refine z_iinc (lv' := [(5, .int (iI (y + (-1)))), (0, .int (iI (-(x / 100)))), (4, .int (iI (x % 100))), (3, .int (iI (-(x / 100)))), (6, .int (iI 0)), (1, .int (iI y)), (2, .ref va)]) hx hb dJ6_getChars_ba4f3_44 hl (k := 4) rfl (by decide) rfl (fun ls hl => ?_)
        refine lv_iload hx hb dJ6_getChars_ba4f3_47 (lv_at hl 0 rfl) ?_
        refine z_gets hC hZ (List.mem_of_getElem? (i := 2) rfl) ql_J6_83 dJ6_getChars_ba4f3_49 ?_
        refine lv_iload hx hb dJ6_getChars_ba4f3_52 (lv_at hl 2 rfl) ?_
        refine z_tb (x := 48 + (x % 100) % 10) hC hZ (List.mem_of_getElem? (i := 1) rfl) (by omega) (by decide) (dg1 (by omega)) dJ6_getChars_ba4f3_54 ?_
        refine z_bast hC hZ h1 (by omega) (by omega) (by omega) dJ6_getChars_ba4f3_55 (fun H locs hZ => ?_)
        have hf_9 : (zup F va (zA (cs 0) cap (upI f_ (y + (-1)) (48 + (x % 100) % 10)))) va = some (zA (cs 0) cap (upI f_ (y + (-1)) (48 + (x % 100) % 10))) := zup_s
        replace hZ : zS D A s (zup F va (zA (cs 0) cap (upI f_ (y + (-1)) (48 + (x % 100) % 10)))) _ _ := hZ
        refine lv_aload_n hx hb dJ6_getChars_ba4f3_56 rfl (lv_at hl 6 rfl) ?_
        refine z_iinc (lv' := [(5, .int (iI ((y + (-1)) + (-1)))), (0, .int (iI (-(x / 100)))), (4, .int (iI (x % 100))), (3, .int (iI (-(x / 100)))), (6, .int (iI 0)), (1, .int (iI y)), (2, .ref va)]) hx hb dJ6_getChars_ba4f3_57 hl (k := 0) rfl (by decide) rfl (fun ls hl => ?_)
        refine lv_iload hx hb dJ6_getChars_ba4f3_60 (lv_at hl 0 rfl) ?_
        refine z_gets hC hZ (List.mem_of_getElem? (i := 3) rfl) ql_J6_87 dJ6_getChars_ba4f3_62 ?_
        refine lv_iload hx hb dJ6_getChars_ba4f3_65 (lv_at hl 2 rfl) ?_
        refine z_tb (x := 48 + (x % 100) / 10) hC hZ (List.mem_of_getElem? (i := 2) rfl) (by omega) (by decide) (dg10 (by omega)) dJ6_getChars_ba4f3_67 ?_
        refine z_bast hC hZ hf_9 (by omega) (by omega) (by omega) dJ6_getChars_ba4f3_68 (fun H locs hZ => ?_)
        rw [zup_up] at hZ
        have hf_10 : (zup F va (zA (cs 0) cap (upI (upI f_ (y + (-1)) (48 + (x % 100) % 10)) ((y + (-1)) + (-1)) (48 + (x % 100) / 10)))) va = some (zA (cs 0) cap (upI (upI f_ (y + (-1)) (48 + (x % 100) % 10)) ((y + (-1)) + (-1)) (48 + (x % 100) / 10))) := zup_s
        replace hZ : zS D A s (zup F va (zA (cs 0) cap (upI (upI f_ (y + (-1)) (48 + (x % 100) % 10)) ((y + (-1)) + (-1)) (48 + (x % 100) / 10)))) _ _ := hZ
        refine lv_goto (tgt := 22) hx hb dJ6_getChars_ba4f3_69 (by decide) ?_
        refine lv_iload_n hx hb dJ6_getChars_ba4f3_22 rfl (lv_at hl 1 rfl) ?_
        refine z_bipush hx hb dJ6_getChars_ba4f3_23 (by decide) ?_
        refine z_icmp_gt (tgt := 72) hx hb dJ6_getChars_ba4f3_25 (by decide) (by omega) (by decide) (fun c_11 => ?_) (fun c_11 => ?_)
        · skip
          refine lv_aload_n hx hb dJ6_getChars_ba4f3_72 rfl (lv_at hl 6 rfl) ?_
          refine z_iinc (lv' := [(5, .int (iI (((y + (-1)) + (-1)) + (-1)))), (0, .int (iI (-(x / 100)))), (4, .int (iI (x % 100))), (3, .int (iI (-(x / 100)))), (6, .int (iI 0)), (1, .int (iI y)), (2, .ref va)]) hx hb dJ6_getChars_ba4f3_73 hl (k := 0) rfl (by decide) rfl (fun ls hl => ?_)
          refine lv_iload hx hb dJ6_getChars_ba4f3_76 (lv_at hl 0 rfl) ?_
          refine z_gets hC hZ (List.mem_of_getElem? (i := 2) rfl) ql_J6_83 dJ6_getChars_ba4f3_78 ?_
          refine lv_iload_n hx hb dJ6_getChars_ba4f3_81 rfl (lv_at hl 1 rfl) ?_
          refine z_ineg hx hb dJ6_getChars_ba4f3_82 ?_
          refine z_top (y := x / 100) (by omega) ?_
          refine z_tb (x := 48 + (x / 100) % 10) hC hZ (List.mem_of_getElem? (i := 1) rfl) (by omega) (by decide) (dg1 (by omega)) dJ6_getChars_ba4f3_83 ?_
          refine z_bast hC hZ hf_10 (by first | omega | (split at hdl2 <;> omega)) (by omega) (by omega) dJ6_getChars_ba4f3_84 (fun H locs hZ => ?_)
          rw [zup_up] at hZ
          have hf_12 : (zup F va (zA (cs 0) cap (upI (upI (upI f_ (y + (-1)) (48 + (x % 100) % 10)) ((y + (-1)) + (-1)) (48 + (x % 100) / 10)) (((y + (-1)) + (-1)) + (-1)) (48 + (x / 100) % 10)))) va = some (zA (cs 0) cap (upI (upI (upI f_ (y + (-1)) (48 + (x % 100) % 10)) ((y + (-1)) + (-1)) (48 + (x % 100) / 10)) (((y + (-1)) + (-1)) + (-1)) (48 + (x / 100) % 10))) := zup_s
          replace hZ : zS D A s (zup F va (zA (cs 0) cap (upI (upI (upI f_ (y + (-1)) (48 + (x % 100) % 10)) ((y + (-1)) + (-1)) (48 + (x % 100) / 10)) (((y + (-1)) + (-1)) + (-1)) (48 + (x / 100) % 10)))) _ _ := hZ
          refine lv_iload_n hx hb dJ6_getChars_ba4f3_85 rfl (lv_at hl 1 rfl) ?_
          refine z_bipush hx hb dJ6_getChars_ba4f3_86 (by decide) ?_
          refine z_icmp_ge (tgt := 104) hx hb dJ6_getChars_ba4f3_88 (by decide) (by omega) (by decide) (fun c_13 => ?_) (fun c_13 => ?_)
          · skip
            refine lv_iload hx hb dJ6_getChars_ba4f3_104 (lv_at hl 4 rfl) ?_
            refine z_if_eq (tgt := 118) hx hb dJ6_getChars_ba4f3_106 (by decide) (by decide) (fun c_14 => ?_) (fun c_14 => ?_)
            · skip
              refine lv_iload hx hb dJ6_getChars_ba4f3_118 (lv_at hl 0 rfl) ?_
              exact z_iret hC hr hlk hZ (by decide) (by decide) (⟨_, rfl, (dgW_3 (by omega))⟩) dJ6_getChars_ba4f3_120
            · skip
              exfalso; omega
          · skip
            exfalso; omega
        · skip
          exfalso; omega
  · skip
    exfalso; omega
