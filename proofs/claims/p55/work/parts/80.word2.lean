theorem zC.c13 {p : Program} {s : State} {m : MethodId} {args : Array Value} {c : Code} {cc : ByteArray} {nL : Nat} {own : String} {D : va_G} {cs : Nat → ClassId} {A : Nat → Prop} (hC : zC p s m args c cc nL own D cs A) : cs 1 ≠ cs 3 := by
  intro q
  have h0 := va_nm_boolean (hC.K.2 3 _ rfl).2
  have h1 := va_nm_char (hC.K.2 1 _ rfl).2
  obtain ⟨k0, e0, n0⟩ := Vm.findClass_spec h0
  obtain ⟨k1, e1, n1⟩ := Vm.findClass_spec h1
  rw [q] at e1
  cases e0.symm.trans e1
  rw [n0] at n1
  exact absurd n1 (by decide)
theorem cut_hi {w : zWd} {k : Int} (h : (w.length : Int) - 1 ≤ k) : ¬ cutOK w k := fun q => by unfold cutOK at q; omega
theorem cut_lo {w : zWd} {k : Int} (h : k < 2) : ¬ cutOK w k := fun q => by unfold cutOK at q; omega
set_option maxHeartbeats 4000000 in
set_option maxRecDepth 100000 in
theorem met_X11_init (l : Launch) (D : va_G) (cs : Nat → ClassId) (A : Nat → Prop) (F : zF) (a la : Nat) (w : zWd) (f_ : Int → Int)  (h0 : F a = some (.inr (14, [.null, .null]))) (h1 : F la = some (zA (cs 1) w.length f_)) (h3 : ∀ k : Int, 0 ≤ k → k < w.length → f_ k = w.getD k.toNat 0) (h5 : wdOK w) : zM l D cs A yX11_init cX11_init 3 (none : Option Jvm.ClassFile.FieldType) 2 1 12 [.ref a, .ref la] F (pV (fun F1 => zko [a] F F1 ∧ oWd cs F1 a w)) := by
  refine zM_of (own := RX11) (by decide) rfl (Nat.le_of_ble_eq_true rfl) ?_
  intro p e s m below meth c hC hr hlk hnm hZ ls hl
  have hx := hC.x
  have hb := hC.b
  have hl : lv_has ls 3 [(0, .ref a), (1, .ref la)] := hl
  have h51 := h5.1
  have h13 := hC.c13
  refine lv_aload_n hx hb dX11_init_0 rfl (lv_at hl 0 rfl) ?_
  refine z_oinit (rest := []) hC hl qm_X11_3 ⟨Nat.le_of_ble_eq_true rfl, Nat.le_of_ble_eq_true rfl⟩ dX11_init_1 ?_
  refine lv_aload_n hx hb dX11_init_4 rfl (lv_at hl 0 rfl) ?_
  refine lv_aload_n hx hb dX11_init_5 rfl (lv_at hl 1 rfl) ?_
  refine z_put (T := TX11) (N := 2) (ci := 14) (k := 0) (fs := [.null, .null]) (v := .ref la) hC hZ tyX11 tyX11_ok nmX11 in_X11 rfl (by decide) ql_X11_9 rfl (Or.inr ⟨rfl, hnm, rfl⟩) rfl h0 (by show 0 < 2; decide) rfl rfl dX11_init_6 (fun H locs hZ => ?_)
  have hf_1 : (zup F a (.inr (14, [.ref la, .null]))) la = some (zA (cs 1) w.length f_) := zup_k (zne h1 h0 (fun q => by cases q)) h1
  have hf_2 : (zup F a (.inr (14, [.ref la, .null]))) a = some (.inr (14, [.ref la, .null])) := zup_s
  replace hZ : zS D A s (zup F a (.inr (14, [.ref la, .null]))) _ _ := hZ
  refine lv_aload_n hx hb dX11_init_9 rfl (lv_at hl 0 rfl) ?_
  refine lv_aload_n hx hb dX11_init_10 rfl (lv_at hl 1 rfl) ?_
  refine z_alen (t := 1) hC hZ hf_1 rfl dX11_init_11 ?_
  refine z_newp (atype := .boolean) (ty := .boolean) (n := (w.length : Int)) 3 (hC := hC) (hZ := hZ) q_653 rfl rfl (fun h => va_nm_boolean h) rfl (by decide) (by omega) (Nat.le_of_ble_eq_true rfl) (by show _ ≤ 12; omega) dX11_init_12 (fun q12 H hq12 hZ => ?_)
  have hnt12 : ((w.length : Int)).toNat = w.length := (Int.toNat_natCast _)
  rw [hnt12] at hZ
  rw [hnt12]
  have hf_3 : (zup (zup F a (.inr (14, [.ref la, .null]))) q12 (zA (cs 3) w.length (fun _ => 0))) la = some (zA (cs 1) w.length f_) := zup_k (zF_ne hf_1 hq12.1) hf_1
  have hf_4 : (zup (zup F a (.inr (14, [.ref la, .null]))) q12 (zA (cs 3) w.length (fun _ => 0))) a = some (.inr (14, [.ref la, .null])) := zup_k (zF_ne hf_2 hq12.1) hf_2
  have hf_5 : (zup (zup F a (.inr (14, [.ref la, .null]))) q12 (zA (cs 3) w.length (fun _ => 0))) q12 = some (zA (cs 3) w.length (fun _ => 0)) := zup_s
  replace hZ : zS D A s (zup (zup F a (.inr (14, [.ref la, .null]))) q12 (zA (cs 3) w.length (fun _ => 0))) _ _ := hZ
  refine z_put (T := TX11) (N := 2) (ci := 14) (k := 1) (fs := [.ref la, .null]) (v := .ref q12) hC hZ tyX11 tyX11_ok nmX11 in_X11 rfl (by decide) ql_X11_15 rfl (Or.inr ⟨rfl, hnm, rfl⟩) rfl hf_4 (by show 1 < 2; decide) rfl rfl dX11_init_14 (fun H locs hZ => ?_)
  have hf_6 : (zup (zup (zup F a (.inr (14, [.ref la, .null]))) q12 (zA (cs 3) w.length (fun _ => 0))) a (.inr (14, [.ref la, .ref q12]))) la = some (zA (cs 1) w.length f_) := zup_k (zne hf_3 hf_4 (fun q => by cases q)) hf_3
  have hf_7 : (zup (zup (zup F a (.inr (14, [.ref la, .null]))) q12 (zA (cs 3) w.length (fun _ => 0))) a (.inr (14, [.ref la, .ref q12]))) q12 = some (zA (cs 3) w.length (fun _ => 0)) := zup_k (zne hf_5 hf_4 (fun q => by cases q)) hf_5
  have hf_8 : (zup (zup (zup F a (.inr (14, [.ref la, .null]))) q12 (zA (cs 3) w.length (fun _ => 0))) a (.inr (14, [.ref la, .ref q12]))) a = some (.inr (14, [.ref la, .ref q12])) := zup_s
  replace hZ : zS D A s (zup (zup (zup F a (.inr (14, [.ref la, .null]))) q12 (zA (cs 3) w.length (fun _ => 0))) a (.inr (14, [.ref la, .ref q12]))) _ _ := hZ
  refine z_iconst hx hb dX11_init_17 ?_
  refine lv_istore_n (lv' := [(2, .int (iI 2)), (0, .ref a), (1, .ref la)]) hx hb dX11_init_18 rfl hl (by decide) rfl (fun ls hl => ?_)
  have L19_k_9 : ∀ (fu : Nat) (k : Int) (F2 : zF) (ca2 : Nat) (g2 : Int → Int) (hfu : ((w.length : Int) - k).toNat < fu) (hi19_0 : 2 ≤ k ∧ k ≤ (w.length : Int) + 2) (hi19_1 : F ca2 = none) (hi19_2 : zko [a] F F2) (hi19_3 : F2 a = some (.inr (14, [.ref la, .ref ca2]))) (hi19_4 : F2 la = some (zA (cs 1) w.length f_)) (hi19_5 : F2 ca2 = some (zA (cs 3) w.length g2)) (hi19_6 : ∀ j : Int, 0 ≤ j → j < w.length → (j < k → (cutOK w j ∧ g2 j = 1) ∨ (¬ cutOK w j ∧ g2 j = 0)) ∧ (k ≤ j → g2 j = 0)) (H : Heap) (locs : List Loc) (hZ : zS D A s F2 H locs) (ls : Array Slot) (hl : lv_has ls 3 [(2, .int (iI k)), (0, .ref a), (1, .ref la)]), W p l e (zR 2 1 12) s m [.ref a, .ref la].toArray below meth c H locs 1 (0 + w.length) (MQ below (zQ D A (pV (fun F1 => zko [a] F F1 ∧ oWd cs F1 a w))) [.ref a, .ref la].toArray s 1 12 A) (F0 m 19 ls []) := by
    intro fu
    induction fu with
    | zero =>
      intro k F2 ca2 g2 hfu
      exact absurd hfu (Nat.not_lt_zero _)
    | succ fu ih19 =>
      intro k F2 ca2 g2 hfu hi19_0 hi19_1 hi19_2 hi19_3 hi19_4 hi19_5 hi19_6  H locs hZ ls hl
      have hlc : la ≠ ca2 := zneC hi19_4 hi19_5 h13
      refine lv_iload_n hx hb dX11_init_19 rfl (lv_at hl 0 rfl) ?_
      refine lv_aload_n hx hb dX11_init_20 rfl (lv_at hl 2 rfl) ?_
      refine z_alen (t := 1) hC hZ hi19_4 rfl dX11_init_21 ?_
      refine z_iconst hx hb dX11_init_22 ?_
      refine z_isub hx hb dX11_init_23 ?_
      refine z_icmp_ge (tgt := 64) hx hb dX11_init_24 (by decide) (by omega) (by omega) (fun c_10 => ?_) (fun c_10 => ?_)
      · skip
        have hfin : oWd cs F2 a w := ⟨la, ca2, f_, g2, hi19_3, hi19_4, hi19_5, h3, fun j j0 j1 => by by_cases q : j < k; (exact (hi19_6 j j0 j1).1 q); exact Or.inr ⟨cut_hi (by omega), (hi19_6 j j0 j1).2 (by omega)⟩, h5⟩
        exact z_vret hC hr hlk hZ (by omega) (by omega) (⟨hi19_2, hfin⟩) dX11_init_64
      · skip
        have hg1 := wd_g h5 (k := k - 1) (by omega) (by omega)
        have hg2 := wd_g h5 (k := k) (by omega) (by omega)
        have hci := cutOK_i (w := w) (k := k) (by omega) (by omega)
        refine lv_aload_n hx hb dX11_init_27 rfl (lv_at hl 1 rfl) ?_
        refine z_get (T := TX11) (N := 2) (ci := 14) (k := 1) (fs := [.ref la, .ref ca2]) (v := .ref ca2) hC hZ in_X11 rfl (by decide) ql_X11_15 rfl hi19_3 rfl dX11_init_28 ?_
        refine lv_iload_n hx hb dX11_init_31 rfl (lv_at hl 0 rfl) ?_
        refine lv_aload_n hx hb dX11_init_32 rfl (lv_at hl 2 rfl) ?_
        refine lv_iload_n hx hb dX11_init_33 rfl (lv_at hl 0 rfl) ?_
        refine z_iconst hx hb dX11_init_34 ?_
        refine z_isub hx hb dX11_init_35 ?_
        refine z_cald hC hZ hi19_4 (by omega) (by omega) dX11_init_36 ?_
        refine z_top (y := w.getD (k - 1).toNat 0) (h3 (k - 1) (by omega) (by omega)) ?_
        refine z_calli (z_runS (rest := [.int (iI k), .ref ca2]) (As := [.int (iI (w.getD (k - 1).toNat 0))]) (n := 1) hC hZ (met_X11_isVowel l D cs A F2 (w.getD (k - 1).toNat 0) (by omega)) gs_X11_19 he_X11_isVowel rfl hl rfl (Nat.le_of_ble_eq_true rfl) ⟨Nat.le_of_ble_eq_true rfl, Nat.le_of_ble_eq_true rfl⟩ ⟨(by show _ ≤ 1; omega), (by show _ ≤ 12; omega)⟩ dX11_init_37) hZ (fun r37 F37 H locs hp37_c_11 hZ => ?_)
        obtain ⟨rfl, hp37_c_11⟩ := hp37_c_11
        have hA37 := hp37_c_11
        refine z_if_eq (tgt := 56) hx hb dX11_init_40 (by decide) (by omega) (fun c_12 => ?_) (fun c_12 => ?_)
        · skip
          have hnc : ¬ cutOK w k := fun z => by have z1 := (hci.mp z).1; rcases hA37 with ⟨q1, q2⟩ | ⟨q1, q2⟩; omega; rw [q1] at z1; cases z1
          refine z_iconst hx hb dX11_init_56 ?_
          refine z_zast hC hZ hi19_5 (by omega) (by omega) (by decide) dX11_init_57 (fun H locs hZ => ?_)
          have hf_13 : (zup F2 ca2 (zA (cs 3) w.length (upI g2 k 0))) a = some (.inr (14, [.ref la, .ref ca2])) := zup_k (zne hi19_3 hi19_5 (fun q => by cases q)) hi19_3
          have hf_14 : (zup F2 ca2 (zA (cs 3) w.length (upI g2 k 0))) la = some (zA (cs 1) w.length f_) := zup_k hlc hi19_4
          have hf_15 : (zup F2 ca2 (zA (cs 3) w.length (upI g2 k 0))) ca2 = some (zA (cs 3) w.length (upI g2 k 0)) := zup_s
          replace hZ : zS D A s (zup F2 ca2 (zA (cs 3) w.length (upI g2 k 0))) _ _ := hZ
          refine z_iinc (lv' := [(2, .int (iI (k + 1))), (0, .ref a), (1, .ref la)]) hx hb dX11_init_58 hl (k := 0) rfl (by decide) rfl (fun ls hl => ?_)
          refine lv_goto (tgt := 19) hx hb dX11_init_61 (by decide) ?_
          refine W.widen (k := 1) (n := (0 + w.length)) (by omega) (by omega) ?_
          exact ih19 (k + 1) (zup F2 ca2 (zA (cs 3) w.length (upI g2 k 0))) ca2 (upI g2 k 0) (by omega) (by omega) hi19_1 (hi19_2.upn hi19_1) hf_13 hf_14 hf_15 (fun j j0 j1 => ⟨fun j2 => by unfold upI; by_cases q : j = k; (rw [if_pos q, q]; exact Or.inr ⟨hnc, rfl⟩); rw [if_neg q]; exact (hi19_6 j j0 j1).1 (by omega), fun j2 => by unfold upI; rw [if_neg (by omega)]; exact (hi19_6 j j0 j1).2 (by omega)⟩)  _ _ hZ ls (lv_sub hl [0, 1, 2] rfl)
        · skip
          refine lv_aload_n hx hb dX11_init_43 rfl (lv_at hl 2 rfl) ?_
          refine lv_iload_n hx hb dX11_init_44 rfl (lv_at hl 0 rfl) ?_
          refine z_cald hC hZ hi19_4 (by omega) (by omega) dX11_init_45 ?_
          refine z_top (y := w.getD k.toNat 0) (h3 k (by omega) (by omega)) ?_
          refine z_calli (z_runS (rest := [.int (iI k), .ref ca2]) (As := [.int (iI (w.getD k.toNat 0))]) (n := 1) hC hZ (met_X11_isVowel l D cs A F2 (w.getD k.toNat 0) (by omega)) gs_X11_19 he_X11_isVowel rfl hl rfl (Nat.le_of_ble_eq_true rfl) ⟨Nat.le_of_ble_eq_true rfl, Nat.le_of_ble_eq_true rfl⟩ ⟨(by show _ ≤ 1; omega), (by show _ ≤ 12; omega)⟩ dX11_init_46) hZ (fun r46 F46 H locs hp46_c_16 hZ => ?_)
          obtain ⟨rfl, hp46_c_16⟩ := hp46_c_16
          have hA46 := hp46_c_16
          refine z_if_ne (tgt := 56) hx hb dX11_init_49 (by decide) (by omega) (fun c_17 => ?_) (fun c_17 => ?_)
          · skip
            have hnc : ¬ cutOK w k := fun z => by have z1 := (hci.mp z).2; rcases hA46 with ⟨q1, q2⟩ | ⟨q1, q2⟩; (rw [q1] at z1; cases z1); omega
            refine z_iconst hx hb dX11_init_56 ?_
            refine z_zast hC hZ hi19_5 (by omega) (by omega) (by decide) dX11_init_57 (fun H locs hZ => ?_)
            have hf_18 : (zup F2 ca2 (zA (cs 3) w.length (upI g2 k 0))) a = some (.inr (14, [.ref la, .ref ca2])) := zup_k (zne hi19_3 hi19_5 (fun q => by cases q)) hi19_3
            have hf_19 : (zup F2 ca2 (zA (cs 3) w.length (upI g2 k 0))) la = some (zA (cs 1) w.length f_) := zup_k hlc hi19_4
            have hf_20 : (zup F2 ca2 (zA (cs 3) w.length (upI g2 k 0))) ca2 = some (zA (cs 3) w.length (upI g2 k 0)) := zup_s
            replace hZ : zS D A s (zup F2 ca2 (zA (cs 3) w.length (upI g2 k 0))) _ _ := hZ
            refine z_iinc (lv' := [(2, .int (iI (k + 1))), (0, .ref a), (1, .ref la)]) hx hb dX11_init_58 hl (k := 0) rfl (by decide) rfl (fun ls hl => ?_)
            refine lv_goto (tgt := 19) hx hb dX11_init_61 (by decide) ?_
            refine W.widen (k := 1) (n := (0 + w.length)) (by omega) (by omega) ?_
            exact ih19 (k + 1) (zup F2 ca2 (zA (cs 3) w.length (upI g2 k 0))) ca2 (upI g2 k 0) (by omega) (by omega) hi19_1 (hi19_2.upn hi19_1) hf_18 hf_19 hf_20 (fun j j0 j1 => ⟨fun j2 => by unfold upI; by_cases q : j = k; (rw [if_pos q, q]; exact Or.inr ⟨hnc, rfl⟩); rw [if_neg q]; exact (hi19_6 j j0 j1).1 (by omega), fun j2 => by unfold upI; rw [if_neg (by omega)]; exact (hi19_6 j j0 j1).2 (by omega)⟩)  _ _ hZ ls (lv_sub hl [0, 1, 2] rfl)
          · skip
            have hyc : cutOK w k := hci.mpr ⟨by rcases hA37 with ⟨q1, q2⟩ | ⟨q1, q2⟩; exact q1; omega, by rcases hA46 with ⟨q1, q2⟩ | ⟨q1, q2⟩; omega; exact q1⟩
            refine z_iconst hx hb dX11_init_52 ?_
            refine lv_goto (tgt := 57) hx hb dX11_init_53 (by decide) ?_
            refine z_zast hC hZ hi19_5 (by omega) (by omega) (by decide) dX11_init_57 (fun H locs hZ => ?_)
            have hf_21 : (zup F2 ca2 (zA (cs 3) w.length (upI g2 k 1))) a = some (.inr (14, [.ref la, .ref ca2])) := zup_k (zne hi19_3 hi19_5 (fun q => by cases q)) hi19_3
            have hf_22 : (zup F2 ca2 (zA (cs 3) w.length (upI g2 k 1))) la = some (zA (cs 1) w.length f_) := zup_k hlc hi19_4
            have hf_23 : (zup F2 ca2 (zA (cs 3) w.length (upI g2 k 1))) ca2 = some (zA (cs 3) w.length (upI g2 k 1)) := zup_s
            replace hZ : zS D A s (zup F2 ca2 (zA (cs 3) w.length (upI g2 k 1))) _ _ := hZ
            refine z_iinc (lv' := [(2, .int (iI (k + 1))), (0, .ref a), (1, .ref la)]) hx hb dX11_init_58 hl (k := 0) rfl (by decide) rfl (fun ls hl => ?_)
            refine lv_goto (tgt := 19) hx hb dX11_init_61 (by decide) ?_
            refine W.widen (k := 1) (n := (0 + w.length)) (by omega) (by omega) ?_
            exact ih19 (k + 1) (zup F2 ca2 (zA (cs 3) w.length (upI g2 k 1))) ca2 (upI g2 k 1) (by omega) (by omega) hi19_1 (hi19_2.upn hi19_1) hf_21 hf_22 hf_23 (fun j j0 j1 => ⟨fun j2 => by unfold upI; by_cases q : j = k; (rw [if_pos q, q]; exact Or.inl ⟨hyc, rfl⟩); rw [if_neg q]; exact (hi19_6 j j0 j1).1 (by omega), fun j2 => by unfold upI; rw [if_neg (by omega)]; exact (hi19_6 j j0 j1).2 (by omega)⟩)  _ _ hZ ls (lv_sub hl [0, 1, 2] rfl)
  exact L19_k_9 _ 2 (zup (zup (zup F a (.inr (14, [.ref la, .null]))) q12 (zA (cs 3) w.length (fun _ => 0))) a (.inr (14, [.ref la, .ref q12]))) q12 (fun _ => 0) (Nat.lt_succ_self _) (by omega) (zup_none hq12.1) ((((zko.refl).up (by simp)).new hq12.1).up (by simp)) hf_8 hf_6 hf_7 (fun j j0 j1 => ⟨fun j2 => Or.inr ⟨cut_lo j2, rfl⟩, fun _ => rfl⟩)  _ _ hZ ls (lv_sub hl [0, 1, 2] rfl)
