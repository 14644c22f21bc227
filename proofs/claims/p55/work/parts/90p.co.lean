section ZU
variable {p : Program} {l : Launch} {e : Env} {R : Room} {s : State} {m : MethodId} {args : Array Value} {below : List Frame} {meth : Method} {c : Code} {H : Heap} {locs : List Loc} {cells slots : Nat} {Q : State → Prop}
variable {cc : ByteArray} {pc nL : Nat} {ls : Array Slot} {rest : List Value} {own : String} {D : va_G} {cs : Nat → ClassId} {A : Nat → Prop} {F : zF} {a : Nat}
/-- a call of a superclass's method of an object that stands from the start on -/
theorem z_runUO (hC : zC p s m args c cc nL own D cs A) (hZ : zS D A s F H locs) {C owner : String} {x y : MethodName} {bytes : ByteArray} {maxL k mc ms n index : Nat} {ret : Option FieldType} {b : Nat} {As st : List Value} {post : Option Value → zF → Prop} (hM : zM l D cs A y bytes maxL ret k mc ms (.ref b :: As) F post)
    (hG : Cond.code y bytes maxL ret ∈ ZALL) (hini : Cond.initialized y.cls ∈ ZALL) (hlk : Cond.methodLink own index x ∈ ZALL) (hsame : Cond.sameMethod x.cls owner x.name x.desc ∈ ZALL) (hin : Cond.instanceMethod y ∈ ZALL) (hsel : Cond.selects C x y ∈ ZALL) (hyx : y = ⟨owner, x.name, x.desc⟩) (hd : owner ≠ "java/lang/invoke/MethodHandle" ∧ owner ≠ "java/lang/invoke/VarHandle" ∧ (parseMethodDescriptor x.desc).map (fun d => d.parameters.length) = some n) (ho : (C, b) ∈ zobj cs)
    (hn : As.length = n) {lv : List (Nat × Value)} (hl : lv_has ls nL lv) (hst : st = As.reverse ++ .ref b :: rest) (hW : (rest.map fun v => v.category).sum ≤ 8) (hR : k + 1 ≤ R.frames ∧ 8 + (maxL + 11) + 40 * k ≤ R.locals) (hf : cells + mc ≤ R.cells ∧ slots + ms ≤ R.slots) (d : decode cc pc = .ok (.invokevirtual index, 3)) :
    zRun p l e R s m args below meth c H locs cells slots mc ms (F0 m pc ls st) rest D A post := by
  have cw : va_CU R s args own C owner index x y bytes maxL ret (zws y bytes maxL ret) (zR k mc ms) mc ms n := by
    refine ⟨⟨rfl, rfl, hR.1, hR.2, pay_in (fun w h => hC.ts h) (zgood hG), List.mem_cons_self⟩, hC.ts hG, hC.ts hini, ⟨hd.1, hd.2.1⟩, fun sig h => ?_, hC.ts hlk, hC.ts hsame, by rw [← hyx]; exact va_Decl.of (hC.ts hin) (hC.ts hG), hC.ts hsel, hC.ts hin⟩
    have h2 := hd.2.2
    rw [h] at h2
    exact (Option.some.inj h2).symm
  exact ⟨_, va_runU (g := F0 m pc ls st) (As := As) (rest := rest) hC.1 hM cw ⟨zPc_blind, (by obtain ⟨cell, h1, h2, h3, -⟩ := (hC.ob ho).kept hZ.2.2.2.1; exact ⟨cell, h1, h2, h3⟩), fun U hU hW => ⟨rfl, hZ.U hC hU hW⟩⟩ rfl hn hl.1 hst (lv_room hW) d hf⟩
end ZU
theorem kw_d {cs : Nat → Nat} {j : Nat} (h : j < 5) : ("java/lang/Enum", "ordinal", "I", Value.int (iI j), cs (20 + j)) ∈ zfld cs := by
  have h2 : j = 0 ∨ j = 1 ∨ j = 2 ∨ j = 3 ∨ j = 4 := by omega
  rcases h2 with rfl | rfl | rfl | rfl | rfl
  · exact List.mem_of_getElem? (i := 0) rfl
  · exact List.mem_of_getElem? (i := 3) rfl
  · exact List.mem_of_getElem? (i := 6) rfl
  · exact List.mem_of_getElem? (i := 9) rfl
  · exact List.mem_of_getElem? (i := 12) rfl
theorem zdo_0 {c : zCo} {q : zCm} (h : q.1 = 119) : zdo c q = sWid c q.2.1 := by unfold zdo; rw [h]; rfl
theorem zdo_1 {c : zCo} {q : zCm} (h : q.1 = 112) : zdo c q = sPag c q.2.1 q.2.2 := by unfold zdo; rw [h]; rfl
theorem zdo_2 {c : zCo} {q : zCm} (h : q.1 = 114) : zdo c q = sPrt c := by unfold zdo; rw [h]; rfl
theorem zdo_3 {c : zCo} {q : zCm} (h : q.1 = 100) : zdo c q = sDay c q.2.1 := by unfold zdo; rw [h]; rfl
theorem zdo_4 {c : zCo} {q : zCm} (h : q.1 = 120) : zdo c q = sRem c q.2.1 := by unfold zdo; rw [h]; rfl
theorem zread_ok {inp : List Int} : ∀ (n : Nat) (a : Int), 0 ≤ a → a ≤ inp.length → (zread inp n a).1 = false → (∀ q ∈ (zread inp n a).2.2, cmOK q) ∧ a + 6 * ((zread inp n a).2.2.length : Int) - 1 ≤ (zread inp n a).2.1 ∧ (zread inp n a).2.1 ≤ inp.length
  | 0, a => fun _ _ h => by cases h
  | n + 1, a => fun h0 h1 h => by
    obtain ⟨k1, k2, k3, k4⟩ := zcmd_ok h0 h1
    rw [zread_s] at h ⊢
    by_cases c1 : (zcmd inp a).1 = true
    · rw [if_pos c1] at h; cases h
    · rw [if_neg c1] at h ⊢
      have k5 := k3 (by simpa using c1)
      by_cases c2 : bh inp (zcmd inp a).2.1 = 59
      · rw [if_pos c2] at h ⊢
        have k6 := bh_in (inp := inp) (a := (zcmd inp a).2.1) (by omega) (by rw [c2]; decide)
        obtain ⟨j1, j2, j3⟩ := zread_ok n ((zcmd inp a).2.1 + 1) (by omega) (by omega) h
        refine ⟨fun q hq => ?_, ?_, j3⟩
        · rcases List.mem_cons.mp hq with e | e
          · rw [e]; exact k4
          · exact j1 q e
        · show a + 6 * ((((zcmd inp a).2.2 :: (zread inp n ((zcmd inp a).2.1 + 1)).2.2).length : Nat) : Int) - 1 ≤ (zread inp n ((zcmd inp a).2.1 + 1)).2.1
          rw [List.length_cons]
          omega
      · rw [if_neg c2] at h ⊢
        refine ⟨fun q hq => by rw [List.mem_singleton.mp hq]; exact k4, ?_, k2⟩
        show a + 6 * ((1 : Nat) : Int) - 1 ≤ (zcmd inp a).2.1
        omega
theorem zparse_ok {inp : List Int} {l : List zCm} (hi : inp.length ≤ 60) (h : zparse inp = .inr l) : (∀ q ∈ l, cmOK q) ∧ l.length ≤ 10 := by
  unfold zparse at h
  by_cases c : (zread inp 61 0).1 = true ∨ (zread inp 61 0).2.1 < inp.length
  · rw [if_pos c] at h; cases h
  · rw [if_neg c] at h
    cases h
    have h1 := zread_ok (inp := inp) 61 0 (Int.le_refl _) (by omega) (by cases hb : (zread inp 61 0).1 with | false => rfl | true => exact absurd (Or.inl hb) c)
    exact ⟨h1.1, by have := h1.2; omega⟩
theorem rLs.offB {cs : Nat → ClassId} {F : zF} {a sg en nx la ra li ri : Nat} {wd : Int} {st : zLn} {c : zCo} (h : rLs cs F a sg en wd st) (hb : bSt cs F nx la ra li ri c) (h8 : F (cs 8) = none) {F1 : zF} {O : List Nat} (hk : zko O F F1) (hO : ∀ o, o ∈ O → o ∈ [nx, la, ra, li, ri]) : rLs cs F1 a sg en wd st := by
  obtain ⟨aL, iL, b1, b2, b3, -⟩ := hb
  have k1 := h.offL b2 h8
  have k2 := h.offL b3 h8
  obtain ⟨f, e, s1, s2, s3, -⟩ := id h
  have x1 : a ≠ nx := zneK s1 b1 (by show 1000000 + 11 ≠ 1000000 + 13; decide)
  have x2 : sg ≠ nx := zne s2 b1 (fun z => by cases z)
  have x3 : en ≠ nx := zne s3 b1 (fun z => by cases z)
  have key : ∀ {q : Nat}, q ≠ nx → q ∉ [la, ra] → q ∉ [li, ri] → q ∉ O := fun {q} y1 y2 y3 hq => by
    have hq2 := hO q hq
    rcases List.mem_cons.mp hq2 with e | hq2
    · exact y1 e
    · rcases List.mem_cons.mp hq2 with e | hq2
      · exact y2 (by rw [e]; exact List.mem_cons_self)
      · rcases List.mem_cons.mp hq2 with e | hq2
        · exact y2 (by rw [e]; exact List.mem_cons_of_mem _ List.mem_cons_self)
        · exact y3 hq2
  exact h.keep hk (key x1 k1.1 k2.1) (key x2 k1.2.1 k2.2.1) (key x3 k1.2.2 k2.2.2)
set_option maxHeartbeats 4000000 in
set_option maxRecDepth 100000 in
theorem met_Jx29ce0_ordinal_8abf5 (l : Launch) (D : va_G) (cs : Nat → ClassId) (A : Nat → Prop) (F : zF) (j : Nat)  (hj5 : j < 5) : zM l D cs A yJx29ce0_ordinal_8abf5 cJx29ce0_ordinal_8abf5 1 (some FieldType.int) 1 0 0 [.ref (cs (20 + j))] F (pI (fun r F1 => F = F1 ∧ (j : Int) = r)) := by
  refine zM_of (own := RJx29ce0) (by decide) rfl (Nat.le_of_ble_eq_true rfl) ?_
  intro p e s m below meth c hC hr hlk hnm hZ ls hl
  have hx := hC.x
  have hb := hC.b
  have hl : lv_has ls 1 [(0, .ref (cs (20 + j)))] := hl
  refine lv_aload_n hx hb dJx29ce0_ordinal_8abf5_0 rfl (lv_at hl 0 rfl) ?_
  refine z_getO hC hZ (kw_d hj5) ql_Jx29ce0_7 rfl dJx29ce0_ordinal_8abf5_1 ?_
  refine z_topi (y := (j : Int)) rfl ?_
  exact z_iret hC hr hlk hZ (by decide) (by decide) (⟨rfl, rfl⟩) dJx29ce0_ordinal_8abf5_4

set_option maxHeartbeats 4000000 in
set_option maxRecDepth 100000 in
theorem met_X12_carryOut (l : Launch) (D : va_G) (cs : Nat → ClassId) (A : Nat → Prop) (F : zF) (ob : Nat) (g : Nat → Nat) (sa : Nat) (so : Option Nat) (er fa : Int) (b nx lb rb lj rj : Nat) (c1 : zCo) (q1 : zCm) (wd0 : Int) (st0 : zLn) (N : Nat)  (h0 : F ob = some (.inr (15, [.ref (g 0), .ref (g 2), .ref (g 4), .ref (g 6), .ref (g 9), .ref (g 11), .ref (g 14), .ref sa, va_rf so, .int (iI er), .int (iI fa)]))) (hls0 : rLs cs F (g 6) (g 7) (g 8) wd0 st0) (hcm : oCm cs F b q1) (hb1 : bSt cs F nx lb rb lj rj c1) (hK : cOK N c1) (hN : N ≤ 1001) (hq1 : cmOK q1) : zM l D cs A yX12_carryOut cX12_carryOut 3 (some FieldType.boolean) 9 5 31 [.ref ob, .ref b, .ref nx] F (pI (fun r F1 => ((zdo c1 q1).1 ≠ 0 ∧ r = 0 ∧ F = F1) ∨ ((zdo c1 q1).1 = 0 ∧ r = 1 ∧ ∃ (rj1 : Nat) (wd1 : Int) (st1 : zLn), zko [nx, lb, rb, lj, rj, g 6, g 7, g 8] F F1 ∧ (rj1 = rj ∨ F rj1 = none) ∧ rLs cs F1 (g 6) (g 7) (g 8) wd1 st1 ∧ bSt cs F1 nx lb rb lj rj1 (zdo c1 q1).2.1))) := by
  refine zM_of (own := RX12) (by decide) rfl (Nat.le_of_ble_eq_true rfl) ?_
  intro p e s m below meth c hC hr hlk hnm hZ ls hl
  have hx := hC.x
  have hb := hC.b
  have hl : lv_has ls 3 [(0, .ref ob), (1, .ref b), (2, .ref nx)] := hl
  have h8 := z_c8 hC hZ
  obtain ⟨aN0, iN0, hN0, -⟩ := id hb1
  have hqa : InR q1.2.1 := by have := hq1.2.1; unfold InR; omega
  have hqb : InR q1.2.2 := by have := hq1.2.2; unfold InR; omega
  have hda : 0 ≤ cDa c1 ∧ cDa c1 ≤ 1000000 := by have := hK.2.2.2.2.2.2.2.2.2.2.2.1; omega
  obtain ⟨j1, hj1, hjq, hq0⟩ := id hcm
  obtain h5 : j1 = 0 ∨ j1 = 1 ∨ j1 = 2 ∨ j1 = 3 ∨ j1 = 4 := by omega
  rcases h5 with rfl | rfl | rfl | rfl | rfl
  · skip
    have hzd := zdo_0 (c := c1) (q := q1) hjq.symm
    refine z_gets hC hZ (List.mem_of_getElem? (i := 5) rfl) ql_X12_412 dX12_carryOut_0 ?_
    refine lv_aload_n hx hb dX12_carryOut_3 rfl (lv_at hl 1 rfl) ?_
    refine z_getN (T := TX3) (N := 3) (ci := 7) (k := 0) (fs := [.ref (cs (20 + 0)), .int (iI q1.2.1), .int (iI q1.2.2)]) (v := .ref (cs (20 + 0))) hC hZ in_X3 rfl (by decide) ql_X12_418 rfl hq0 rfl dX12_carryOut_4 ?_
    refine z_calli (z_runUO (rest := [.ref (cs 12)]) (As := []) (n := 0) (C := RX7) (owner := "java/lang/Enum") hC hZ (met_Jx29ce0_ordinal_8abf5 l D cs A F 0 (by decide)) qc_Jx29ce0_ordinal_8abf5 qn_Jx29ce0 qm_X12_422 q_1606 qi_Jx29ce0_ordinal_8abf5 qs_Jx29ce0_ordinal_8abf5_X7 rfl (by decide +kernel) (kw_o (by decide)) rfl hl rfl (Nat.le_of_ble_eq_true rfl) ⟨Nat.le_of_ble_eq_true rfl, Nat.le_of_ble_eq_true rfl⟩ ⟨Nat.le_of_ble_eq_true rfl, Nat.le_of_ble_eq_true rfl⟩ dX12_carryOut_7) hZ (fun r7 F7 H locs hp7 hZ => ?_)
    obtain ⟨rfl, rfl⟩ := hp7
    refine z_top (y := 0) rfl ?_
    refine z_ti (x := 1) hC hZ (List.mem_of_getElem? (i := 4) rfl) (by decide) (by decide) rfl dX12_carryOut_10 ?_
    refine lv_tableIn (off := 33) (tgt := 44) hx hb dX12_carryOut_11 (by decide) (by decide) rfl (by decide) ?_
    refine lv_aload_n hx hb dX12_carryOut_44 rfl (lv_at hl 2 rfl) ?_
    refine lv_aload_n hx hb dX12_carryOut_45 rfl (lv_at hl 1 rfl) ?_
    refine z_getN (T := TX3) (N := 3) (ci := 7) (k := 1) (fs := [.ref (cs (20 + 0)), .int (iI q1.2.1), .int (iI q1.2.2)]) (v := .int (iI q1.2.1)) hC hZ in_X3 rfl (by decide) ql_X12_427 rfl hq0 rfl dX12_carryOut_46 ?_
    refine z_calli (z_runV (rest := []) (As := [.int (iI q1.2.1)]) (n := 1) (ci := 13) hC hZ (met_X10_takeWidth l D cs A F nx lb rb lj rj c1 q1.2.1 hb1 hqa) gv_X12_200 hd_X10_takeWidth rfl hN0 rfl hl rfl (Nat.le_of_ble_eq_true rfl) ⟨Nat.le_of_ble_eq_true rfl, Nat.le_of_ble_eq_true rfl⟩ ⟨Nat.le_of_ble_eq_true rfl, Nat.le_of_ble_eq_true rfl⟩ dX12_carryOut_49) hZ (fun r49 F49 H locs hp49_c_1 hZ => ?_)
    rcases hp49_c_1 with ⟨hc, rfl, rfl⟩ | ⟨hc, rfl, hk49, hb49⟩
    · skip
      exact z_zret hC hr hlk hZ rfl (by decide) (by decide) (Or.inl ⟨by rw [hzd, sWid_1 hc]; show (1 : Int) ≠ 0; decide, rfl, rfl⟩) dX12_carryOut_52
    · skip
      exact z_zret hC hr hlk hZ rfl (by decide) (by decide) (Or.inr ⟨by rw [hzd, sWid_0 hc], rfl, rj, wd0, st0, hk49.sub (fun q hq => by simp only [List.mem_cons, List.not_mem_nil, or_false] at hq ⊢; omega), Or.inl rfl, hls0.offB hb1 h8 hk49 (fun q hq => by simp only [List.mem_cons, List.not_mem_nil, or_false] at hq ⊢; omega), by rw [hzd, sWid_0 hc]; exact hb49⟩) dX12_carryOut_52
  · skip
    have hzd := zdo_1 (c := c1) (q := q1) hjq.symm
    refine z_gets hC hZ (List.mem_of_getElem? (i := 5) rfl) ql_X12_412 dX12_carryOut_0 ?_
    refine lv_aload_n hx hb dX12_carryOut_3 rfl (lv_at hl 1 rfl) ?_
    refine z_getN (T := TX3) (N := 3) (ci := 7) (k := 0) (fs := [.ref (cs (20 + 1)), .int (iI q1.2.1), .int (iI q1.2.2)]) (v := .ref (cs (20 + 1))) hC hZ in_X3 rfl (by decide) ql_X12_418 rfl hq0 rfl dX12_carryOut_4 ?_
    refine z_calli (z_runUO (rest := [.ref (cs 12)]) (As := []) (n := 0) (C := RX7) (owner := "java/lang/Enum") hC hZ (met_Jx29ce0_ordinal_8abf5 l D cs A F 1 (by decide)) qc_Jx29ce0_ordinal_8abf5 qn_Jx29ce0 qm_X12_422 q_1606 qi_Jx29ce0_ordinal_8abf5 qs_Jx29ce0_ordinal_8abf5_X7 rfl (by decide +kernel) (kw_o (by decide)) rfl hl rfl (Nat.le_of_ble_eq_true rfl) ⟨Nat.le_of_ble_eq_true rfl, Nat.le_of_ble_eq_true rfl⟩ ⟨Nat.le_of_ble_eq_true rfl, Nat.le_of_ble_eq_true rfl⟩ dX12_carryOut_7) hZ (fun r7 F7 H locs hp7 hZ => ?_)
    obtain ⟨rfl, rfl⟩ := hp7
    refine z_top (y := 1) rfl ?_
    refine z_ti (x := 2) hC hZ (List.mem_of_getElem? (i := 4) rfl) (by decide) (by decide) rfl dX12_carryOut_10 ?_
    refine lv_tableIn (off := 42) (tgt := 53) hx hb dX12_carryOut_11 (by decide) (by decide) rfl (by decide) ?_
    refine lv_aload_n hx hb dX12_carryOut_53 rfl (lv_at hl 2 rfl) ?_
    refine lv_aload_n hx hb dX12_carryOut_54 rfl (lv_at hl 1 rfl) ?_
    refine z_getN (T := TX3) (N := 3) (ci := 7) (k := 1) (fs := [.ref (cs (20 + 1)), .int (iI q1.2.1), .int (iI q1.2.2)]) (v := .int (iI q1.2.1)) hC hZ in_X3 rfl (by decide) ql_X12_427 rfl hq0 rfl dX12_carryOut_55 ?_
    refine lv_aload_n hx hb dX12_carryOut_58 rfl (lv_at hl 1 rfl) ?_
    refine z_getN (T := TX3) (N := 3) (ci := 7) (k := 2) (fs := [.ref (cs (20 + 1)), .int (iI q1.2.1), .int (iI q1.2.2)]) (v := .int (iI q1.2.2)) hC hZ in_X3 rfl (by decide) ql_X12_430 rfl hq0 rfl dX12_carryOut_59 ?_
    refine z_calli (z_runV (rest := []) (As := [.int (iI q1.2.1), .int (iI q1.2.2)]) (n := 2) (ci := 13) hC hZ (met_X10_takePage l D cs A F nx lb rb lj rj c1 q1.2.1 q1.2.2 hb1 hqa hqb) gv_X12_248 hd_X10_takePage rfl hN0 rfl hl rfl (Nat.le_of_ble_eq_true rfl) ⟨Nat.le_of_ble_eq_true rfl, Nat.le_of_ble_eq_true rfl⟩ ⟨Nat.le_of_ble_eq_true rfl, Nat.le_of_ble_eq_true rfl⟩ dX12_carryOut_62) hZ (fun r62 F62 H locs hp62_c_2 hZ => ?_)
    rcases hp62_c_2 with ⟨hc, rfl, rfl⟩ | ⟨hc, rfl, hk62, hb62⟩
    · skip
      exact z_zret hC hr hlk hZ rfl (by decide) (by decide) (Or.inl ⟨by rw [hzd, sPag_1 hc]; show (1 : Int) ≠ 0; decide, rfl, rfl⟩) dX12_carryOut_65
    · skip
      exact z_zret hC hr hlk hZ rfl (by decide) (by decide) (Or.inr ⟨by rw [hzd, sPag_0 hc], rfl, rj, wd0, st0, hk62.sub (fun q hq => by simp only [List.mem_cons, List.not_mem_nil, or_false] at hq ⊢; omega), Or.inl rfl, hls0.offB hb1 h8 hk62 (fun q hq => by simp only [List.mem_cons, List.not_mem_nil, or_false] at hq ⊢; omega), by rw [hzd, sPag_0 hc]; exact hb62⟩) dX12_carryOut_65
  · skip
    have hzd := zdo_2 (c := c1) (q := q1) hjq.symm
    refine z_gets hC hZ (List.mem_of_getElem? (i := 5) rfl) ql_X12_412 dX12_carryOut_0 ?_
    refine lv_aload_n hx hb dX12_carryOut_3 rfl (lv_at hl 1 rfl) ?_
    refine z_getN (T := TX3) (N := 3) (ci := 7) (k := 0) (fs := [.ref (cs (20 + 2)), .int (iI q1.2.1), .int (iI q1.2.2)]) (v := .ref (cs (20 + 2))) hC hZ in_X3 rfl (by decide) ql_X12_418 rfl hq0 rfl dX12_carryOut_4 ?_
    refine z_calli (z_runUO (rest := [.ref (cs 12)]) (As := []) (n := 0) (C := RX7) (owner := "java/lang/Enum") hC hZ (met_Jx29ce0_ordinal_8abf5 l D cs A F 2 (by decide)) qc_Jx29ce0_ordinal_8abf5 qn_Jx29ce0 qm_X12_422 q_1606 qi_Jx29ce0_ordinal_8abf5 qs_Jx29ce0_ordinal_8abf5_X7 rfl (by decide +kernel) (kw_o (by decide)) rfl hl rfl (Nat.le_of_ble_eq_true rfl) ⟨Nat.le_of_ble_eq_true rfl, Nat.le_of_ble_eq_true rfl⟩ ⟨Nat.le_of_ble_eq_true rfl, Nat.le_of_ble_eq_true rfl⟩ dX12_carryOut_7) hZ (fun r7 F7 H locs hp7 hZ => ?_)
    obtain ⟨rfl, rfl⟩ := hp7
    refine z_top (y := 2) rfl ?_
    refine z_ti (x := 3) hC hZ (List.mem_of_getElem? (i := 4) rfl) (by decide) (by decide) rfl dX12_carryOut_10 ?_
    refine lv_tableIn (off := 55) (tgt := 66) hx hb dX12_carryOut_11 (by decide) (by decide) rfl (by decide) ?_
    refine lv_aload_n hx hb dX12_carryOut_66 rfl (lv_at hl 2 rfl) ?_
    refine lv_aload_n hx hb dX12_carryOut_67 rfl (lv_at hl 0 rfl) ?_
    refine z_get (T := TX12) (N := 11) (ci := 15) (k := 3) (fs := [.ref (g 0), .ref (g 2), .ref (g 4), .ref (g 6), .ref (g 9), .ref (g 11), .ref (g 14), .ref sa, va_rf so, .int (iI er), .int (iI fa)]) (v := .ref (g 6)) hC hZ in_X12 rfl (by decide) ql_X12_31 rfl h0 rfl dX12_carryOut_68 ?_
    refine z_calli (z_runV (rest := []) (As := [.ref (g 6)]) (n := 1) (ci := 13) hC hZ (met_X10_printIssue l D cs A F nx lb rb lj rj c1 (g 6) (g 7) (g 8) wd0 st0 N hb1 hls0 hK (by omega)) gv_X12_257 hd_X10_printIssue rfl hN0 rfl hl rfl (Nat.le_of_ble_eq_true rfl) ⟨Nat.le_of_ble_eq_true rfl, Nat.le_of_ble_eq_true rfl⟩ ⟨Nat.le_of_ble_eq_true rfl, Nat.le_of_ble_eq_true rfl⟩ dX12_carryOut_71) hZ (fun r71 F71 H locs hp71_c_3 hZ => ?_)
    rcases hp71_c_3 with ⟨hc, rfl, rfl⟩ | ⟨hc, rfl, ri71, wd71, st71, hk71, ha71, hls71, hb71⟩
    · skip
      exact z_zret hC hr hlk hZ rfl (by decide) (by decide) (Or.inl ⟨by rw [hzd, sPrt_1 hc]; show (1 : Int) ≠ 0; decide, rfl, rfl⟩) dX12_carryOut_74
    · skip
      exact z_zret hC hr hlk hZ rfl (by decide) (by decide) (Or.inr ⟨by rw [hzd, sPrt_0 hc], rfl, ri71, wd71, st71, hk71.sub (fun q hq => by simp only [List.mem_cons, List.not_mem_nil, or_false] at hq ⊢; omega), ha71, hls71, by rw [hzd, sPrt_0 hc]; exact hb71⟩) dX12_carryOut_74
  · skip
    have hzd := zdo_3 (c := c1) (q := q1) hjq.symm
    refine z_gets hC hZ (List.mem_of_getElem? (i := 5) rfl) ql_X12_412 dX12_carryOut_0 ?_
    refine lv_aload_n hx hb dX12_carryOut_3 rfl (lv_at hl 1 rfl) ?_
    refine z_getN (T := TX3) (N := 3) (ci := 7) (k := 0) (fs := [.ref (cs (20 + 3)), .int (iI q1.2.1), .int (iI q1.2.2)]) (v := .ref (cs (20 + 3))) hC hZ in_X3 rfl (by decide) ql_X12_418 rfl hq0 rfl dX12_carryOut_4 ?_
    refine z_calli (z_runUO (rest := [.ref (cs 12)]) (As := []) (n := 0) (C := RX7) (owner := "java/lang/Enum") hC hZ (met_Jx29ce0_ordinal_8abf5 l D cs A F 3 (by decide)) qc_Jx29ce0_ordinal_8abf5 qn_Jx29ce0 qm_X12_422 q_1606 qi_Jx29ce0_ordinal_8abf5 qs_Jx29ce0_ordinal_8abf5_X7 rfl (by decide +kernel) (kw_o (by decide)) rfl hl rfl (Nat.le_of_ble_eq_true rfl) ⟨Nat.le_of_ble_eq_true rfl, Nat.le_of_ble_eq_true rfl⟩ ⟨Nat.le_of_ble_eq_true rfl, Nat.le_of_ble_eq_true rfl⟩ dX12_carryOut_7) hZ (fun r7 F7 H locs hp7 hZ => ?_)
    obtain ⟨rfl, rfl⟩ := hp7
    refine z_top (y := 3) rfl ?_
    refine z_ti (x := 4) hC hZ (List.mem_of_getElem? (i := 4) rfl) (by decide) (by decide) rfl dX12_carryOut_10 ?_
    refine lv_tableIn (off := 64) (tgt := 75) hx hb dX12_carryOut_11 (by decide) (by decide) rfl (by decide) ?_
    refine lv_aload_n hx hb dX12_carryOut_75 rfl (lv_at hl 2 rfl) ?_
    refine lv_aload_n hx hb dX12_carryOut_76 rfl (lv_at hl 1 rfl) ?_
    refine z_getN (T := TX3) (N := 3) (ci := 7) (k := 1) (fs := [.ref (cs (20 + 3)), .int (iI q1.2.1), .int (iI q1.2.2)]) (v := .int (iI q1.2.1)) hC hZ in_X3 rfl (by decide) ql_X12_427 rfl hq0 rfl dX12_carryOut_77 ?_
    refine z_calli (z_runV (rest := []) (As := [.int (iI q1.2.1)]) (n := 1) (ci := 13) hC hZ (met_X10_letDaysPass l D cs A F nx lb rb lj rj c1 q1.2.1 hb1 hqa hK.2.1 hda (fun s hs => cOK_age hK (by omega) hs)) gv_X12_304 hd_X10_letDaysPass rfl hN0 rfl hl rfl (Nat.le_of_ble_eq_true rfl) ⟨Nat.le_of_ble_eq_true rfl, Nat.le_of_ble_eq_true rfl⟩ ⟨Nat.le_of_ble_eq_true rfl, Nat.le_of_ble_eq_true rfl⟩ dX12_carryOut_80) hZ (fun r80 F80 H locs hp80_c_4 hZ => ?_)
    rcases hp80_c_4 with ⟨hc, rfl, rfl⟩ | ⟨hc, rfl, hk80, hb80⟩
    · skip
      exact z_zret hC hr hlk hZ rfl (by decide) (by decide) (Or.inl ⟨by rw [hzd, sDay_1 hc]; show (1 : Int) ≠ 0; decide, rfl, rfl⟩) dX12_carryOut_83
    · skip
      exact z_zret hC hr hlk hZ rfl (by decide) (by decide) (Or.inr ⟨by rw [hzd, sDay_0 hc], rfl, rj, wd0, st0, hk80.sub (fun q hq => by simp only [List.mem_cons, List.not_mem_nil, or_false] at hq ⊢; omega), Or.inl rfl, hls0.offB hb1 h8 hk80 (fun q hq => by simp only [List.mem_cons, List.not_mem_nil, or_false] at hq ⊢; omega), by rw [hzd, sDay_0 hc]; exact hb80⟩) dX12_carryOut_83
  · skip
    have hzd := zdo_4 (c := c1) (q := q1) hjq.symm
    refine z_gets hC hZ (List.mem_of_getElem? (i := 5) rfl) ql_X12_412 dX12_carryOut_0 ?_
    refine lv_aload_n hx hb dX12_carryOut_3 rfl (lv_at hl 1 rfl) ?_
    refine z_getN (T := TX3) (N := 3) (ci := 7) (k := 0) (fs := [.ref (cs (20 + 4)), .int (iI q1.2.1), .int (iI q1.2.2)]) (v := .ref (cs (20 + 4))) hC hZ in_X3 rfl (by decide) ql_X12_418 rfl hq0 rfl dX12_carryOut_4 ?_
    refine z_calli (z_runUO (rest := [.ref (cs 12)]) (As := []) (n := 0) (C := RX7) (owner := "java/lang/Enum") hC hZ (met_Jx29ce0_ordinal_8abf5 l D cs A F 4 (by decide)) qc_Jx29ce0_ordinal_8abf5 qn_Jx29ce0 qm_X12_422 q_1606 qi_Jx29ce0_ordinal_8abf5 qs_Jx29ce0_ordinal_8abf5_X7 rfl (by decide +kernel) (kw_o (by decide)) rfl hl rfl (Nat.le_of_ble_eq_true rfl) ⟨Nat.le_of_ble_eq_true rfl, Nat.le_of_ble_eq_true rfl⟩ ⟨Nat.le_of_ble_eq_true rfl, Nat.le_of_ble_eq_true rfl⟩ dX12_carryOut_7) hZ (fun r7 F7 H locs hp7 hZ => ?_)
    obtain ⟨rfl, rfl⟩ := hp7
    refine z_top (y := 4) rfl ?_
    refine z_ti (x := 5) hC hZ (List.mem_of_getElem? (i := 4) rfl) (by decide) (by decide) rfl dX12_carryOut_10 ?_
    refine lv_tableIn (off := 73) (tgt := 84) hx hb dX12_carryOut_11 (by decide) (by decide) rfl (by decide) ?_
    refine lv_aload_n hx hb dX12_carryOut_84 rfl (lv_at hl 2 rfl) ?_
    refine lv_aload_n hx hb dX12_carryOut_85 rfl (lv_at hl 1 rfl) ?_
    refine z_getN (T := TX3) (N := 3) (ci := 7) (k := 1) (fs := [.ref (cs (20 + 4)), .int (iI q1.2.1), .int (iI q1.2.2)]) (v := .int (iI q1.2.1)) hC hZ in_X3 rfl (by decide) ql_X12_427 rfl hq0 rfl dX12_carryOut_86 ?_
    refine z_calli (z_runV (rest := []) (As := [.int (iI q1.2.1)]) (n := 1) (ci := 13) hC hZ (met_X10_dropArticle l D cs A F nx lb rb lj rj c1 q1.2.1 hb1 hqa) gv_X12_131 hd_X10_dropArticle rfl hN0 rfl hl rfl (Nat.le_of_ble_eq_true rfl) ⟨Nat.le_of_ble_eq_true rfl, Nat.le_of_ble_eq_true rfl⟩ ⟨Nat.le_of_ble_eq_true rfl, Nat.le_of_ble_eq_true rfl⟩ dX12_carryOut_89) hZ (fun r89 F89 H locs hp89_c_5 hZ => ?_)
    rcases hp89_c_5 with ⟨hc, rfl, rfl⟩ | ⟨i89, hc, hil89, rfl, hk89, hb89⟩
    · skip
      exact z_zret hC hr hlk hZ rfl (by decide) (by decide) (Or.inl ⟨by rw [hzd, sRem_1 hc]; show (1 : Int) ≠ 0; decide, rfl, rfl⟩) dX12_carryOut_92
    · skip
      exact z_zret hC hr hlk hZ rfl (by decide) (by decide) (Or.inr ⟨by rw [hzd, sRem_0 hc], rfl, rj, wd0, st0, hk89.sub (fun q hq => by simp only [List.mem_cons, List.not_mem_nil, or_false] at hq ⊢; omega), Or.inl rfl, hls0.offB hb1 h8 hk89 (fun q hq => by simp only [List.mem_cons, List.not_mem_nil, or_false] at hq ⊢; omega), by rw [hzd, sRem_0 hc]; exact hb89⟩) dX12_carryOut_92
