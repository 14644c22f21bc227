theorem gOb.n7 {cs : Nat → ClassId} {F : zF} {ob : Nat} {g : Nat → Nat} {sa : Nat} {so : Option Nat} {hL : List Nat} {tx inp out : List Int} {c0 : zCo} {sv : Option zCo} {hs : List zCo} {er fa : Int} (h : gOb cs F ob g sa so hL tx inp out c0 sv hs er fa) (h8 : F (cs 8) = none) {J : List Nat} (hJ : ∀ j, j ∈ J → j < 16) {x : Nat} {fs : List Value} (hx : F x = some (.inr (7, fs))) : x ∉ J.map g := fun c => by
  obtain ⟨i, hi0, e⟩ := List.mem_map.mp c
  have hi := hJ i hi0
  rw [← e] at hx
  obtain ⟨-, -, ⟨f1, a1, a2, -⟩, ⟨f2, b1, b2, -⟩, ⟨cap, ml, f3, d1, d2, -⟩, ⟨wd, st, f4, e4, k1, k2, k3, -⟩, ⟨m1, e5, m2⟩, ⟨pos, L, p1, p2⟩, hH, -⟩ := h
  obtain ⟨fn2, hn2⟩ := p2.o
  obtain ⟨fnH, hnH⟩ := hH.o
  have key : ∀ {a arr : Nat} {l : List Nat}, oLx cs F a arr l → F arr = some (.inr (7, fs)) → False := fun {a arr l} ⟨mc, y1, y2⟩ y3 => by
    rcases y2 with ⟨y2, -⟩ | ⟨f, y2, -⟩
    · rw [y2, h8] at y3; cases y3
    · rw [y2] at y3; cases y3
  match i, hi with
  | 0, _ => rw [a1] at hx; cases hx
  | 1, _ => rw [a2] at hx; cases hx
  | 2, _ => rw [b1] at hx; cases hx
  | 3, _ => rw [b2] at hx; cases hx
  | 4, _ => rw [d1] at hx; cases hx
  | 5, _ => rw [d2] at hx; cases hx
  | 6, _ => rw [k1] at hx; cases hx
  | 7, _ => rw [k2] at hx; cases hx
  | 8, _ => rw [k3] at hx; cases hx
  | 9, _ => rw [m1] at hx; cases hx
  | 10, _ => rw [m2] at hx; cases hx
  | 11, _ => rw [p1] at hx; cases hx
  | 12, _ => rw [hn2] at hx; cases hx
  | 13, _ => exact key p2 hx
  | 14, _ => rw [hnH] at hx; cases hx
  | 15, _ => exact key hH hx
  | k + 16, hi => exact absurd hi (by omega)
theorem gD_q {l : List zCm} {k : Nat} (h : k < l.length) : l[k]? = some (l.getD k (0, 0, 0)) := by
  rw [List.getD_eq_getElem?_getD, List.getElem?_eq_getElem h]
  rfl
set_option maxHeartbeats 4000000 in
set_option maxRecDepth 100000 in
theorem met_X12_execute (l : Launch) (D : va_G) (cs : Nat → ClassId) (A : Nat → Prop) (F : zF) (ob : Nat) (g : Nat → Nat) (sa : Nat) (so : Option Nat) (hL : List Nat) (tx inp out : List Int) (c0 : zCo) (sv : Option zCo) (hs : List zCo) (er fa : Int) (N : Nat) (hlt : l.stackTraces = false)  (hg : gOb cs F ob g sa so hL tx inp out c0 sv hs er fa) (hK : cOK N c0) (hN : N ≤ 900) (hh8 : hs.length ≤ 8) : zXM l D cs A yX12_execute cX12_execute 5 (some FieldType.int) 10 100 640 [.ref ob] F (pI (fun r F1 => (sExe c0 inp er fa).1.1 = 0 ∧ (sExe c0 inp er fa).1.2.2 = r ∧ ∃ (g1 : Nat → Nat) (sa1 : Nat) (hL1 : List Nat), gOb cs F1 ob g1 sa1 so hL1 tx [] out (sExe c0 inp er fa).1.2.1 sv (pushH hs c0) (sExe c0 inp er fa).2.1 (sExe c0 inp er fa).2.2)) (fun E F1 => (∃ g1 : Nat → Nat, gOb cs F1 ob g1 sa so hL tx [] out c0 sv hs (sExe c0 inp er fa).2.1 (sExe c0 inp er fa).2.2) ∧ (((sExe c0 inp er fa).1.1 = 1 ∧ E = "java/lang/IllegalArgumentException") ∨ ((sExe c0 inp er fa).1.1 = 2 ∧ E = "java/lang/UnsupportedOperationException"))) := by
  refine zX_of (own := RX12) (by decide) rfl (Nat.le_of_ble_eq_true rfl) ?_
  intro p e s m below meth c hC hr hlk hT hZ ls hl
  have hx := hC.x
  have hb := hC.b
  have hl : lv_has ls 5 [(0, .ref ob)] := hl
  have h0 : F ob = some (.inr (15, [.ref (g 0), .ref (g 2), .ref (g 4), .ref (g 6), .ref (g 9), .ref (g 11), .ref (g 14), .ref sa, va_rf so, .int (iI er), .int (iI fa)])) := hg.1
  have hs1 := hg.st
  have h8 := z_c8 hC hZ
  obtain ⟨-, hDis, hTx, hI, ⟨cap, hO⟩, ⟨wd0, st0, hLs⟩, ⟨hE1, e0, hE2⟩, ⟨pos0, L0, hR1, hR2⟩, hH, hSt⟩ := id hg
  obtain ⟨la, li, aL, iL, h9, ⟨ra, hla⟩, ⟨ri, hli⟩, has, his⟩ := id hs1
  have haL := has.1
  have hiL := his.1
  have ha10 := oL_10 hla
  have hi10 := oL_10 hli
  refine lv_aload_n hx hb dX12_execute_0 rfl (lv_at hl 0 rfl) ?_
  refine z_get (T := TX12) (N := 11) (ci := 15) (k := 5) (fs := [.ref (g 0), .ref (g 2), .ref (g 4), .ref (g 6), .ref (g 9), .ref (g 11), .ref (g 14), .ref sa, va_rf so, .int (iI er), .int (iI fa)]) (v := .ref (g 11)) hC hZ in_X12 rfl (by decide) ql_X12_45 rfl h0 rfl dX12_execute_1 ?_
  refine lv_aload_n hx hb dX12_execute_4 rfl (lv_at hl 0 rfl) ?_
  refine z_get (T := TX12) (N := 11) (ci := 15) (k := 1) (fs := [.ref (g 0), .ref (g 2), .ref (g 4), .ref (g 6), .ref (g 9), .ref (g 11), .ref (g 14), .ref sa, va_rf so, .int (iI er), .int (iI fa)]) (v := .ref (g 2)) hC hZ in_X12 rfl (by decide) ql_X12_18 rfl h0 rfl dX12_execute_5 ?_
  refine z_calli (z_runV (rest := []) (As := [.ref (g 2)]) (n := 1) (ci := 8) hC hZ (met_X4_readAll l D cs A F (g 11) (g 12) (g 2) (g 3) inp pos0 (g 13) L0 hR1 hI hR2) gv_X12_355 hd_X4_readAll rfl hR1 rfl hl rfl (Nat.le_of_ble_eq_true rfl) ⟨Nat.le_of_ble_eq_true rfl, Nat.le_of_ble_eq_true rfl⟩ ⟨Nat.le_of_ble_eq_true rfl, Nat.le_of_ble_eq_true rfl⟩ dX12_execute_8) hZ (fun r8 F8 H locs hp8_c_1 hZ => ?_)
  obtain ⟨arr8, L8, p8, hk8, ha8, hp8, hl8, hpr8, hc8⟩ := hp8_c_1
  have hgy := hg.sR h8 ha8 hk8 hp8 hl8
  obtain ⟨gA, hg8, hpA, hlA⟩ : ∃ gA : Nat → Nat, gOb cs F8 ob gA sa so hL tx inp out c0 sv hs er fa ∧ F8 (gA 11) = some (.inr (8, [.ref (gA 12), .int (iI p8)])) ∧ oLx cs F8 (gA 12) (gA 13) L8 := ⟨gup g 13 arr8, hgy, by rw [gup_n (by decide), gup_n (by decide)]; exact hp8, by rw [gup_n (by decide), gup_s]; exact hl8⟩
  have h08 : F8 ob = some (.inr (15, [.ref (gA 0), .ref (gA 2), .ref (gA 4), .ref (gA 6), .ref (gA 9), .ref (gA 11), .ref (gA 14), .ref sa, va_rf so, .int (iI er), .int (iI fa)])) := hg8.1
  have hs18 := hg8.st
  have h88 := z_c8 hC hZ
  have hI8 := hg8.2.2.2.1
  obtain ⟨fI8, oI8, -⟩ := id hI8
  refine lv_istore_n (lv' := [(1, .int (iI r8)), (0, .ref ob)]) hx hb dX12_execute_11 rfl hl (by decide) rfl (fun ls hl => ?_)
  refine lv_aload_n hx hb dX12_execute_12 rfl (lv_at hl 1 rfl) ?_
  refine z_get (T := TX12) (N := 11) (ci := 15) (k := 1) (fs := [.ref (gA 0), .ref (gA 2), .ref (gA 4), .ref (gA 6), .ref (gA 9), .ref (gA 11), .ref (gA 14), .ref sa, va_rf so, .int (iI er), .int (iI fa)]) (v := .ref (gA 2)) hC hZ in_X12 rfl (by decide) ql_X12_18 rfl h08 rfl dX12_execute_13 ?_
  refine z_calli (z_runV (rest := []) (As := []) (n := 0) (ci := 6) hC hZ (met_X2_empty l D cs A F8 (gA 2) (gA 3) inp hI8) gv_X12_92 hd_X2_empty rfl oI8 rfl hl rfl (Nat.le_of_ble_eq_true rfl) ⟨Nat.le_of_ble_eq_true rfl, Nat.le_of_ble_eq_true rfl⟩ ⟨Nat.le_of_ble_eq_true rfl, Nat.le_of_ble_eq_true rfl⟩ dX12_execute_16) hZ (fun r16 F16 H locs hp16_c_2 hZ => ?_)
  obtain ⟨hr16, hk16, hb16⟩ := hp16_c_2
  have hg16 := hg8.sI h88 hk16 hb16
  have h016 : F16 ob = some (.inr (15, [.ref (gA 0), .ref (gA 2), .ref (gA 4), .ref (gA 6), .ref (gA 9), .ref (gA 11), .ref (gA 14), .ref sa, va_rf so, .int (iI er), .int (iI fa)])) := hg16.1
  have hs116 := hg16.st
  have h816 := z_c8 hC hZ
  have hk16m : zko ([2, 3].map gA) F8 F16 := hk16
  have hpB : F16 (gA 11) = _ := hk16m _ _ hpA (hg8.2.1.ni h88 (J := [2, 3]) (i := 11) (by decide) (by decide) (by decide) (by rw [hpA]; exact fun z => by cases z))
  have hlB : oLx cs F16 (gA 12) (gA 13) L8 := hlA.keepC hk16m (hg8.2.1.ni h88 (J := [2, 3]) (i := 12) (by decide) (by decide) (by decide) hlA.kn.1) (fun f hf => hg8.2.1.ni h88 (J := [2, 3]) (i := 13) (by decide) (by decide) (by decide) (by rw [hf]; exact fun z => by cases z))
  refine lv_pop hx hb dX12_execute_19 rfl ?_
  refine lv_iload_n hx hb dX12_execute_20 rfl (lv_at hl 0 rfl) ?_
  refine z_if_ne (tgt := 46) hx hb dX12_execute_21 (by decide) (by omega) (fun c_3 => ?_) (fun c_3 => ?_)
  · skip
    obtain ⟨qs8, hqz, -, hlq8, hcm8⟩ : ∃ cs2 : List zCm, zparse inp = .inr cs2 ∧ r8 = 1 ∧ L8.length = cs2.length ∧ ∀ k : Int, 0 ≤ k → k < cs2.length → oCm cs F8 (L8.getD k.toNat 0) (cs2.getD k.toNat (0, 0, 0)) := hc8.elim (fun z => absurd z.2 (by omega)) id
    have hqok := zparse_ok (by obtain ⟨_, _, _, z, _⟩ := id hI; exact z) hqz
    have hq10 := hqok.2
    obtain ⟨_, _, _, _, hq916, -⟩ := id hs116
    refine lv_aload_n hx hb dX12_execute_46 rfl (lv_at hl 1 rfl) ?_
    refine z_get (T := TX12) (N := 11) (ci := 15) (k := 5) (fs := [.ref (gA 0), .ref (gA 2), .ref (gA 4), .ref (gA 6), .ref (gA 9), .ref (gA 11), .ref (gA 14), .ref sa, va_rf so, .int (iI er), .int (iI fa)]) (v := .ref (gA 11)) hC hZ in_X12 rfl (by decide) ql_X12_45 rfl h016 rfl dX12_execute_47 ?_
    refine z_getN (T := TX4) (N := 2) (ci := 8) (k := 0) (fs := [.ref (gA 12), .int (iI p8)]) (v := .ref (gA 12)) hC hZ in_X4 rfl (by decide) ql_X12_364 rfl hpB rfl dX12_execute_50 ?_
    refine lv_astore_n (lv' := [(2, .ref (gA 12)), (1, .int (iI r8)), (0, .ref ob)]) hx hb dX12_execute_53 rfl hl (by decide) rfl (fun ls hl => ?_)
    refine lv_aload_n hx hb dX12_execute_54 rfl (lv_at hl 2 rfl) ?_
    refine z_get (T := TX12) (N := 11) (ci := 15) (k := 7) (fs := [.ref (gA 0), .ref (gA 2), .ref (gA 4), .ref (gA 6), .ref (gA 9), .ref (gA 11), .ref (gA 14), .ref sa, va_rf so, .int (iI er), .int (iI fa)]) (v := .ref sa) hC hZ in_X12 rfl (by decide) ql_X12_59 rfl h016 rfl dX12_execute_55 ?_
    refine z_callr (z_runV (rest := []) (As := []) (n := 0) (ci := 13) hC hZ (met_X10_copied l D cs A F16 sa c0 hs116 hK.1 hK.2.1) gv_X12_115 hd_X10_copied rfl hq916 rfl hl rfl (Nat.le_of_ble_eq_true rfl) ⟨Nat.le_of_ble_eq_true rfl, Nat.le_of_ble_eq_true rfl⟩ ⟨Nat.le_of_ble_eq_true rfl, Nat.le_of_ble_eq_true rfl⟩ dX12_execute_58) hZ (fun r58 F58 H locs hp58_c_4 hZ => ?_)
    obtain ⟨hle58, lb, rb, lj, rj, n1, n2, n3, n4, n5, hb58⟩ := hp58_c_4
    have hg58 := hg16.le hle58
    have h058 : F58 ob = some (.inr (15, [.ref (gA 0), .ref (gA 2), .ref (gA 4), .ref (gA 6), .ref (gA 9), .ref (gA 11), .ref (gA 14), .ref sa, va_rf so, .int (iI er), .int (iI fa)])) := hg58.1
    have hs158 := hg58.st
    have h858 := z_c8 hC hZ
    obtain ⟨wd58, st58, hL58⟩ := hg58.2.2.2.2.2.1
    have h858b := h858
    refine lv_astore_n (lv' := [(3, .ref r58), (2, .ref (gA 12)), (1, .int (iI r8)), (0, .ref ob)]) hx hb dX12_execute_61 rfl hl (by decide) rfl (fun ls hl => ?_)
    refine z_iconst hx hb dX12_execute_62 ?_
    refine lv_istore (lv' := [(4, .int (iI 0)), (3, .ref r58), (2, .ref (gA 12)), (1, .int (iI r8)), (0, .ref ob)]) hx hb dX12_execute_63 hl (by decide) rfl (fun ls hl => ?_)
    have L65_k_5 : ∀ (fu : Nat) (k : Int) (F2 : zF) (wdL : Int) (stL : zLn) (rjL : Nat) (cL : zCo) (hfu : ((qs8.length : Int) - k).toNat < fu) (hi65_0 : 0 ≤ k ∧ k ≤ (qs8.length : Int)) (hi65_1 : zko [gA 6, gA 7, gA 8] F16 F2) (hi65_2 : rLs cs F2 (gA 6) (gA 7) (gA 8) wdL stL) (hi65_3 : bSt cs F2 r58 lb rb lj rjL cL) (hi65_4 : F16 rjL = none) (hi65_5 : cOKj N k.toNat cL) (hi65_6 : zrun qs8 c0 0 = zrun (qs8.drop k.toNat) cL k.toNat) (H : Heap) (locs : List Loc) (hZ : zS D A s F2 H locs) (ls : Array Slot) (hl : lv_has ls 5 [(4, .int (iI k)), (3, .ref r58), (2, .ref (gA 12)), (0, .ref ob)]), W p l e (zR 10 100 640) s m [.ref ob].toArray below meth c H locs (35 + 5 * k.toNat) (258 + 31 * k.toNat) (vx_MQ below (zQ D A (pI (fun r F1 => (sExe c0 inp er fa).1.1 = 0 ∧ (sExe c0 inp er fa).1.2.2 = r ∧ ∃ (g1 : Nat → Nat) (sa1 : Nat) (hL1 : List Nat), gOb cs F1 ob g1 sa1 so hL1 tx [] out (sExe c0 inp er fa).1.2.1 sv (pushH hs c0) (sExe c0 inp er fa).2.1 (sExe c0 inp er fa).2.2))) (zXC D A (fun E F1 => (∃ g1 : Nat → Nat, gOb cs F1 ob g1 sa so hL tx [] out c0 sv hs (sExe c0 inp er fa).2.1 (sExe c0 inp er fa).2.2) ∧ (((sExe c0 inp er fa).1.1 = 1 ∧ E = "java/lang/IllegalArgumentException") ∨ ((sExe c0 inp er fa).1.1 = 2 ∧ E = "java/lang/UnsupportedOperationException")))) [.ref ob].toArray s 100 640 A) (F0 m 65 ls []) := by
      intro fu
      induction fu with
      | zero =>
        intro k F2 wdL stL rjL cL hfu
        exact absurd hfu (Nat.not_lt_zero _)
      | succ fu ih65 =>
        intro k F2 wdL stL rjL cL hfu hi65_0 hi65_1 hi65_2 hi65_3 hi65_4 hi65_5 hi65_6  H locs hZ ls hl
        have hgL := hg16.sL h816 hi65_1 hi65_2
        have h0b : F2 ob = some (.inr (15, [.ref (gA 0), .ref (gA 2), .ref (gA 4), .ref (gA 6), .ref (gA 9), .ref (gA 11), .ref (gA 14), .ref sa, va_rf so, .int (iI er), .int (iI fa)])) := hgL.1
        have hs1b := hgL.st
        have h8b := z_c8 hC hZ
        have hi65_1m : zko ([6, 7, 8].map gA) F16 F2 := hi65_1
        have hlL : oLx cs F2 (gA 12) (gA 13) L8 := hlB.keepC hi65_1m (hg16.2.1.ni h816 (J := [6, 7, 8]) (i := 12) (by decide) (by decide) (by decide) hlB.kn.1) (fun f hf => hg16.2.1.ni h816 (J := [6, 7, 8]) (i := 13) (by decide) (by decide) (by decide) (by rw [hf]; exact fun z => by cases z))
        refine lv_iload hx hb dX12_execute_65 (lv_at hl 0 rfl) ?_
        refine lv_aload_n hx hb dX12_execute_67 rfl (lv_at hl 2 rfl) ?_
        obtain ⟨fsho_6, ho_6⟩ := (hlL).o
        refine z_calli (z_runV (rest := [.int (iI k)]) (As := []) (n := 0) (ci := 4) hC hZ (met_Jx4a65c_size_8abf5 l D cs A F2 (gA 12) (gA 13) L8 hlL) gv_X12_101 hd_Jx4a65c_size_8abf5 rfl ho_6 rfl hl rfl (Nat.le_of_ble_eq_true rfl) ⟨Nat.le_of_ble_eq_true rfl, Nat.le_of_ble_eq_true rfl⟩ ⟨(by show _ ≤ 100; omega), (by show _ ≤ 640; omega)⟩ dX12_execute_68) hZ (fun r68 F68 H locs hp68_c_7 hZ => ?_)
        obtain ⟨rfl, rfl⟩ := hp68_c_7
        refine z_icmp_ge (tgt := 114) hx hb dX12_execute_71 (by decide) (by omega) (by omega) (fun c_8 => ?_) (fun c_8 => ?_)
        · skip
          have hrn : zrun qs8 c0 0 = .inr cL := by rw [hi65_6, zrun_e (by omega)]
          have hnxL := hg16.nst hgL hC.c54 h8b hi65_3 n1 n2 n4 n3 hi65_4
          refine lv_aload_n hx hb dX12_execute_114 rfl (lv_at hl 3 rfl) ?_
          refine lv_aload_n hx hb dX12_execute_115 rfl (lv_at hl 1 rfl) ?_
          refine z_callv (z_runV (rest := []) (As := [.ref r58]) (n := 1) (ci := 15) hC hZ (met_X12_become l D cs A F2 ob gA sa so hL tx [] out c0 sv hs er fa r58 cL hgL hnxL hh8) gv_X12_127 hd_X12_become rfl h0b rfl hl rfl (Nat.le_of_ble_eq_true rfl) ⟨Nat.le_of_ble_eq_true rfl, Nat.le_of_ble_eq_true rfl⟩ ⟨(by show _ ≤ 100; omega), (by show _ ≤ 640; omega)⟩ dX12_execute_116) hZ (fun F116 H locs hp116_c_9 hZ => ?_)
          obtain ⟨hk116, g1, hL1, hg116⟩ := hp116_c_9
          have h0116 : F116 ob = some (.inr (15, [.ref (g1 0), .ref (g1 2), .ref (g1 4), .ref (g1 6), .ref (g1 9), .ref (g1 11), .ref (g1 14), .ref r58, va_rf so, .int (iI er), .int (iI fa)])) := hg116.1
          have hs1116 := hg116.st
          have h8116 := z_c8 hC hZ
          have hl116 : oLx cs F116 (gA 12) (gA 13) L8 := hlL.keepC hk116 (fun c => (List.mem_cons.mp c).elim (fun z => hgL.2.1.2 12 (by decide) z) (fun z => hgL.2.1.ni h8b (J := [14, 15]) (i := 12) (by decide) (by decide) (by decide) hlL.kn.1 z)) (fun f hf c => (List.mem_cons.mp c).elim (fun z => hgL.2.1.2 13 (by decide) z) (fun z => hgL.2.1.ni h8b (J := [14, 15]) (i := 13) (by decide) (by decide) (by decide) (by rw [hf]; exact fun z => by cases z) z))
          refine lv_aload_n hx hb dX12_execute_119 rfl (lv_at hl 2 rfl) ?_
          obtain ⟨fsho_10, ho_10⟩ := (hl116).o
          refine z_calli (z_runV (rest := []) (As := []) (n := 0) (ci := 4) hC hZ (met_Jx4a65c_size_8abf5 l D cs A F116 (gA 12) (gA 13) L8 hl116) gv_X12_101 hd_Jx4a65c_size_8abf5 rfl ho_10 rfl hl rfl (Nat.le_of_ble_eq_true rfl) ⟨Nat.le_of_ble_eq_true rfl, Nat.le_of_ble_eq_true rfl⟩ ⟨(by show _ ≤ 100; omega), (by show _ ≤ 640; omega)⟩ dX12_execute_120) hZ (fun r120 F120 H locs hp120_c_11 hZ => ?_)
          obtain ⟨rfl, rfl⟩ := hp120_c_11
          refine vx_ret ?_
          exact z_iret hC hr hlk hZ (by omega) (by omega) (⟨by rw [sExe_r hqz hrn], by rw [sExe_r hqz hrn]; show (qs8.length : Int) = _; omega, g1, r58, hL1, by rw [sExe_r hqz hrn]; exact hg116⟩) dX12_execute_123
        · skip
          refine lv_aload_n hx hb dX12_execute_74 rfl (lv_at hl 3 rfl) ?_
          refine lv_aload_n hx hb dX12_execute_75 rfl (lv_at hl 2 rfl) ?_
          refine lv_iload hx hb dX12_execute_76 (lv_at hl 0 rfl) ?_
          obtain ⟨fsho_12, ho_12⟩ := (hlL).o
          refine z_callr (z_runV (rest := [.ref ob]) (As := [.int (iI k)]) (n := 1) (ci := 4) hC hZ (met_Jx4a65c_get_915e3 l D cs A F2 (gA 12) (gA 13) L8 k hlL ⟨by omega, by omega⟩) gv_X12_166 hd_Jx4a65c_get_915e3 rfl ho_12 rfl hl rfl (Nat.le_of_ble_eq_true rfl) ⟨Nat.le_of_ble_eq_true rfl, Nat.le_of_ble_eq_true rfl⟩ ⟨(by show _ ≤ 100; omega), (by show _ ≤ 640; omega)⟩ dX12_execute_78) hZ (fun r78 F78 H locs hp78_c_13 hZ => ?_)
          obtain ⟨rfl, rfl⟩ := hp78_c_13
          have hkn : k.toNat < qs8.length := by omega
          obtain ⟨jk, hjk1, hjk2, hjk3⟩ := id (hcm8 k (by omega) (by omega))
          have hcmB : F16 (L8.getD k.toNat 0) = _ := hk16m _ _ hjk3 (hg8.n7 h88 (J := [2, 3]) (by decide) hjk3)
          have hcmC : F2 (L8.getD k.toNat 0) = _ := hi65_1m _ _ hcmB (hg16.n7 h816 (J := [6, 7, 8]) (by decide) hcmB)
          have hcmk : oCm cs F2 (L8.getD k.toNat 0) (qs8.getD k.toNat (0, 0, 0)) := ⟨jk, hjk1, hjk2, hcmC⟩
          have hokk := hqok.1 _ (List.mem_of_getElem? (gD_q hkn))
          
          refine z_castS (ci := 7) (N := 3) (T := TX3) hC hZ qk_X12_367 hcmC rfl dX12_execute_81 ?_
          refine lv_aload_n hx hb dX12_execute_84 rfl (lv_at hl 1 rfl) ?_
          refine z_calli (z_runV (rest := []) (As := [.ref (L8.getD k.toNat 0), .ref r58]) (n := 2) (ci := 15) hC hZ (met_X12_carryOut l D cs A F2 ob gA sa so er fa (L8.getD k.toNat 0) r58 lb rb lj rjL cL (qs8.getD k.toNat (0, 0, 0)) wdL stL (N + 1) h0b hi65_2 hcmk hi65_3 hi65_5.1 (by omega) hokk) gv_X12_369 hd_X12_carryOut rfl h0b rfl hl rfl (Nat.le_of_ble_eq_true rfl) ⟨Nat.le_of_ble_eq_true rfl, Nat.le_of_ble_eq_true rfl⟩ ⟨(by show _ ≤ 100; omega), (by show _ ≤ 640; omega)⟩ dX12_execute_85) hZ (fun r85 F85 H locs hp85_c_14 hZ => ?_)
          rcases hp85_c_14 with ⟨hcz, rfl, rfl⟩ | ⟨hcz, rfl, rj85, wd85, st85, hk85, ha85, hls85, hb85⟩
          · skip
            have hrn : zrun qs8 c0 0 = .inl k.toNat := by rw [hi65_6, zrun_d (gD_q hkn), if_neg hcz]
            refine z_if_ne (tgt := 108) hx hb dX12_execute_88 (by decide) (by decide) (fun c_15 => ?_) (fun c_15 => ?_)
            · skip
              exfalso; omega
            · skip
              refine lv_aload_n hx hb dX12_execute_91 rfl (lv_at hl 3 rfl) ?_
              refine lv_iload hx hb dX12_execute_92 (lv_at hl 0 rfl) ?_
              refine z_put (T := TX12) (N := 11) (ci := 15) (k := 10) (fs := [.ref (gA 0), .ref (gA 2), .ref (gA 4), .ref (gA 6), .ref (gA 9), .ref (gA 11), .ref (gA 14), .ref sa, va_rf so, .int (iI er), .int (iI fa)]) (v := .int (iI k)) hC hZ tyX12 tyX12_ok nmX12 in_X12 rfl (by decide) ql_X12_70 rfl (Or.inl rfl) rfl h0b (by show 10 < 11; decide) rfl rfl dX12_execute_94 (fun H locs hZ => ?_)
              have hf_16 : (zup F2 ob (.inr (15, [.ref (gA 0), .ref (gA 2), .ref (gA 4), .ref (gA 6), .ref (gA 9), .ref (gA 11), .ref (gA 14), .ref sa, va_rf so, .int (iI er), .int (iI k)]))) ob = some (.inr (15, [.ref (gA 0), .ref (gA 2), .ref (gA 4), .ref (gA 6), .ref (gA 9), .ref (gA 11), .ref (gA 14), .ref sa, va_rf so, .int (iI er), .int (iI k)])) := zup_s
              replace hZ : zS D A s (zup F2 ob (.inr (15, [.ref (gA 0), .ref (gA 2), .ref (gA 4), .ref (gA 6), .ref (gA 9), .ref (gA 11), .ref (gA 14), .ref sa, va_rf so, .int (iI er), .int (iI k)]))) _ _ := hZ
              exact z_throwW (rest := []) hC hZ hlt hT hlk zth_e2 zth_g2 zth_o2 zth_k2 zth_i2 (by decide) (List.mem_of_getElem? (i := 17) rfl) hl (Nat.le_of_ble_eq_true rfl) (Nat.le_of_ble_eq_true rfl) (by show _ ≤ 100; omega) (by show _ ≤ 640; omega) (by omega) (by omega) (⟨⟨gA, by rw [sExe_f hqz hrn]; show gOb _ _ _ _ _ _ _ _ _ _ _ _ _ er ((k.toNat : Nat) : Int); rw [show ((k.toNat : Nat) : Int) = k by omega]; exact hgL.sX ((zko.refl : zko [ob] F2 F2).up (by simp)) hf_16 hgL.2.2.2.2.2.2.2.2.2⟩, Or.inr ⟨by rw [sExe_f hqz hrn], rfl⟩⟩) dX12_execute_97 dX12_execute_100 dX12_execute_101 dX12_execute_104 dX12_execute_107
          · skip
            have hk85b : zko [gA 6, gA 7, gA 8] F16 F85 := hi65_1.tr hk85 (fun q hq => by
              rcases List.mem_cons.mp hq with e | hq
              · rw [e]; exact Or.inr n1
              · rcases List.mem_cons.mp hq with e | hq
                · rw [e]; exact Or.inr n2
                · rcases List.mem_cons.mp hq with e | hq
                  · rw [e]; exact Or.inr n3
                  · rcases List.mem_cons.mp hq with e | hq
                    · rw [e]; exact Or.inr n4
                    · rcases List.mem_cons.mp hq with e | hq
                      · rw [e]; exact Or.inr hi65_4
                      · exact Or.inl hq)
            have hn85 : F16 rj85 = none := ha85.elim (fun z => by rw [z]; exact hi65_4) (fun z => hi65_1.nnk hi65_2.some z)
            have hkj85 : cOKj N (k + 1).toNat (zdo cL (qs8.getD k.toNat (0, 0, 0))).2.1 := by rw [show (k + 1).toNat = k.toNat + 1 by omega]; exact cOKj_s hi65_5 (by omega) hcz
            have hrn85 : zrun qs8 c0 0 = zrun (qs8.drop (k + 1).toNat) (zdo cL (qs8.getD k.toNat (0, 0, 0))).2.1 (k + 1).toNat := by rw [hi65_6, zrun_d (gD_q hkn), if_pos hcz, show (k + 1).toNat = k.toNat + 1 by omega]
            refine z_if_ne (tgt := 108) hx hb dX12_execute_88 (by decide) (by decide) (fun c_17 => ?_) (fun c_17 => ?_)
            · skip
              refine z_iinc (lv' := [(4, .int (iI (k + 1))), (3, .ref r58), (2, .ref (gA 12)), (0, .ref ob)]) hx hb dX12_execute_108 hl (k := 0) rfl (by decide) rfl (fun ls hl => ?_)
              refine lv_goto (tgt := 65) hx hb dX12_execute_111 (by decide) ?_
              refine W.widen (k := (35 + 5 * (k + 1).toNat)) (n := (258 + 31 * (k + 1).toNat)) (by omega) (by omega) ?_
              exact ih65 (k + 1) F85 wd85 st85 rj85 (zdo cL (qs8.getD k.toNat (0, 0, 0))).2.1 (by omega) (by omega) hk85b hls85 hb85 hn85 hkj85 hrn85  _ _ hZ ls (lv_sub hl [0, 1, 2, 3] rfl)
            · skip
              exfalso; omega
    refine W.widen (k := (35 + 5 * (0 : Int).toNat)) (n := (258 + 31 * (0 : Int).toNat)) (by omega) (by omega) ?_
    exact L65_k_5 _ (0 : Int) F58 wd58 st58 rj c0 (Nat.lt_succ_self _) (by omega) hle58.ko hL58 hb58 n5 (cOKj_0 hK) (by rw [show (0 : Int).toNat = 0 from rfl, List.drop_zero])  _ _ hZ ls (lv_sub hl [0, 1, 2, 4] rfl)
  · skip
    have hpz : zparse inp = .inl p8 := hc8.elim (fun z => z.1) (fun ⟨_, _, z, _⟩ => absurd z (by omega))
    refine lv_aload_n hx hb dX12_execute_24 rfl (lv_at hl 1 rfl) ?_
    refine lv_aload_n hx hb dX12_execute_25 rfl (lv_at hl 1 rfl) ?_
    refine z_get (T := TX12) (N := 11) (ci := 15) (k := 5) (fs := [.ref (gA 0), .ref (gA 2), .ref (gA 4), .ref (gA 6), .ref (gA 9), .ref (gA 11), .ref (gA 14), .ref sa, va_rf so, .int (iI er), .int (iI fa)]) (v := .ref (gA 11)) hC hZ in_X12 rfl (by decide) ql_X12_45 rfl h016 rfl dX12_execute_26 ?_
    refine z_getN (T := TX4) (N := 2) (ci := 8) (k := 1) (fs := [.ref (gA 12), .int (iI p8)]) (v := .int (iI p8)) hC hZ in_X4 rfl (by decide) ql_X12_359 rfl hpB rfl dX12_execute_29 ?_
    refine z_put (T := TX12) (N := 11) (ci := 15) (k := 9) (fs := [.ref (gA 0), .ref (gA 2), .ref (gA 4), .ref (gA 6), .ref (gA 9), .ref (gA 11), .ref (gA 14), .ref sa, va_rf so, .int (iI er), .int (iI fa)]) (v := .int (iI p8)) hC hZ tyX12 tyX12_ok nmX12 in_X12 rfl (by decide) ql_X12_66 rfl (Or.inl rfl) rfl h016 (by show 9 < 11; decide) rfl rfl dX12_execute_32 (fun H locs hZ => ?_)
    have hf_18 : (zup F16 ob (.inr (15, [.ref (gA 0), .ref (gA 2), .ref (gA 4), .ref (gA 6), .ref (gA 9), .ref (gA 11), .ref (gA 14), .ref sa, va_rf so, .int (iI p8), .int (iI fa)]))) (gA 11) = some (.inr (8, [.ref (gA 12), .int (iI p8)])) := zup_k (zne hpB h016 (fun q => by cases q)) hpB
    have hf_19 : (zup F16 ob (.inr (15, [.ref (gA 0), .ref (gA 2), .ref (gA 4), .ref (gA 6), .ref (gA 9), .ref (gA 11), .ref (gA 14), .ref sa, va_rf so, .int (iI p8), .int (iI fa)]))) ob = some (.inr (15, [.ref (gA 0), .ref (gA 2), .ref (gA 4), .ref (gA 6), .ref (gA 9), .ref (gA 11), .ref (gA 14), .ref sa, va_rf so, .int (iI p8), .int (iI fa)])) := zup_s
    replace hZ : zS D A s (zup F16 ob (.inr (15, [.ref (gA 0), .ref (gA 2), .ref (gA 4), .ref (gA 6), .ref (gA 9), .ref (gA 11), .ref (gA 14), .ref sa, va_rf so, .int (iI p8), .int (iI fa)]))) _ _ := hZ
    exact z_throwW (rest := []) hC hZ hlt hT hlk zth_e0 zth_g0 zth_o0 zth_k0 zth_i0 (by decide) (List.mem_of_getElem? (i := 16) rfl) hl (Nat.le_of_ble_eq_true rfl) (Nat.le_of_ble_eq_true rfl) (Nat.le_of_ble_eq_true rfl) (Nat.le_of_ble_eq_true rfl) (Nat.le_of_ble_eq_true rfl) (Nat.le_of_ble_eq_true rfl) (⟨⟨gA, by rw [sExe_l hpz]; exact hg16.sX ((zko.refl : zko [ob] F16 F16).up (by simp)) hf_19 hg16.2.2.2.2.2.2.2.2.2⟩, Or.inl ⟨by rw [sExe_l hpz], rfl⟩⟩) dX12_execute_35 dX12_execute_38 dX12_execute_39 dX12_execute_42 dX12_execute_45
