theorem zset_ne {w : Int} {wd : zWd} : ∀ (n fr : Nat) (st st' : zLn), fr < wd.length → (∀ l ∈ st.1, l ≠ []) → zset w wd n fr st = some st' → (∀ l ∈ st'.1, l ≠ []) ∧ st'.2 ≠ []
  | 0, _, _, _, _, _, h => by cases h
  | n + 1, fr, st, st', hf, hl, h => by
    by_cases c1 : (wd.length : Int) - fr ≤ zroom w st.2
    · rw [zset_d (zst_fit c1)] at h
      cases h
      refine ⟨hl, ?_⟩
      show lnPut st.2 (wd.drop fr) ≠ []
      unfold lnPut
      split
      · intro q; have := congrArg List.length q; rw [List.length_drop] at this; simp at this; omega
      · simp
    · by_cases c2 : zcut wd fr (zroom w st.2) (wd.length - 1) = 0
      · by_cases c3 : st.2 = []
        · rw [zset_n (zst_no c1 c2 c3)] at h; cases h
        · rw [zset_g (zst_cls c1 c2 c3) (by omega)] at h
          exact zset_ne n fr _ st' hf (fun l hm => (List.mem_append.mp hm).elim (hl l) (fun z => by rw [List.mem_singleton.mp z]; exact c3)) h
      · obtain ⟨q1, q2, q3, q4⟩ := zcut_p wd fr (zroom w st.2) c2
        rw [zset_g (zst_cut c1 rfl c2) (by omega)] at h
        exact zset_ne n _ _ st' q2 (fun l hm => (List.mem_append.mp hm).elim (hl l) (fun z => by rw [List.mem_singleton.mp z]; simp)) h
theorem zwords_ne {w : Int} : ∀ (ws : List zWd) (st st' : zLn), (∀ x ∈ ws, wdOK x) → (∀ l ∈ st.1, l ≠ []) → (ws = [] → st.2 ≠ []) → zwords w ws st = some st' → (∀ l ∈ st'.1, l ≠ []) ∧ st'.2 ≠ []
  | [], st, st', _, hl, hn, h => by cases h; exact ⟨hl, hn rfl⟩
  | x :: ws, st, st', hw, hl, hn, h => by
    unfold zwords at h
    cases hz : zset w x 24 0 st with
    | none => rw [hz] at h; cases h
    | some s1 =>
      rw [hz] at h
      obtain ⟨g1, g2⟩ := zset_ne 24 0 st s1 (by have := (hw x List.mem_cons_self).1; omega) hl hz
      exact zwords_ne ws s1 st' (fun y hy => hw y (List.mem_cons_of_mem _ hy)) g1 (fun _ => g2) h
theorem zlines_ne {w : Int} {ws ls : List zWd} (hw : ∀ x ∈ ws, wdOK x) (hn : ws ≠ []) (h : zlines w ws = some ls) : ∀ l ∈ ls, l ≠ [] := by
  unfold zlines at h
  cases hz : zwords w ws ([], []) with
  | none => rw [hz] at h; cases h
  | some s1 =>
    rw [hz] at h
    cases h
    obtain ⟨g1, g2⟩ := zwords_ne ws _ s1 hw (fun _ h => by cases h) (fun q => absurd q hn) hz
    exact fun l hm => (List.mem_append.mp hm).elim (g1 l) (fun z => by rw [List.mem_singleton.mp z]; exact g2)
theorem gl_get {l : zWd} (h : l ≠ []) : l.getLast? = some (l.getD (l.length - 1) 0) := by
  have hl : 0 < l.length := List.length_pos_iff.mpr h
  rw [List.getLast?_eq_getElem?, List.getD_eq_getElem?_getD, List.getElem?_eq_getElem (by omega)]
  rfl
theorem sHy_t {ls : List zWd} {k : Nat} (hk : k < ls.length) (hn : ls.getD k [] ≠ []) : ((ls.getD k []).getD ((ls.getD k []).length - 1) 0 = 45 ∧ sHy (ls.take (k + 1)) = sHy (ls.take k) + 1) ∨ (¬ (ls.getD k []).getD ((ls.getD k []).length - 1) 0 = 45 ∧ sHy (ls.take (k + 1)) = sHy (ls.take k)) := by
  have hg : ls.getD k [] = ls[k] := by rw [List.getD_eq_getElem?_getD, List.getElem?_eq_getElem hk]; rfl
  unfold sHy
  rw [List.take_add_one, List.getElem?_eq_getElem hk, List.countP_append]
  rw [hg] at hn ⊢
  have hl := gl_get hn
  by_cases q : (ls[k]).getD ((ls[k]).length - 1) 0 = 45
  · left
    refine ⟨q, ?_⟩
    rw [q] at hl
    simp [hl]
  · right
    refine ⟨q, ?_⟩
    have q2 := q
    rw [List.getD_eq_getElem?_getD] at q2
    simp only [Option.toList_some, List.countP_cons, List.countP_nil, hl]
    simp [q2]
theorem zfl_seg {st : zLn} {i : Nat} (hi : i < st.1.length) {d : Nat} (hd : d < (st.1.getD i []).length) : (zfl st).getD (zcum st.1 i + d).toNat 0 = (st.1.getD i []).getD d 0 := by
  have hg : st.1.getD i [] = st.1[i] := by rw [List.getD_eq_getElem?_getD, List.getElem?_eq_getElem hi]; rfl
  have e : st.1 = st.1.take i ++ (st.1[i] :: st.1.drop (i + 1)) := by rw [← List.drop_eq_getElem_cons hi, List.take_append_drop]
  have hc : zcum st.1 i = ((st.1.take i).flatten.length : Nat) := rfl
  have e2 : zfl st = (st.1.take i).flatten ++ (st.1[i] ++ ((st.1.drop (i + 1)).flatten ++ st.2)) := by
    unfold zfl
    conv => lhs; rw [e]
    rw [List.flatten_append, List.flatten_cons, List.append_assoc, List.append_assoc]
  rw [hg] at hd ⊢
  rw [e2, List.getD_eq_getElem?_getD, List.getElem?_append_right (by omega), List.getElem?_append_left (by omega), List.getD_eq_getElem?_getD]
  congr 2
  omega
theorem zC.c01 {p : Program} {s : State} {m : MethodId} {args : Array Value} {c : Code} {cc : ByteArray} {nL : Nat} {own : String} {D : va_G} {cs : Nat → ClassId} {A : Nat → Prop} (hC : zC p s m args c cc nL own D cs A) : cs 1 ≠ cs 0 := by
  intro q
  have h0 := va_nm_byte (hC.K.2 0 _ rfl).2
  have h1 := va_nm_char (hC.K.2 1 _ rfl).2
  obtain ⟨k0, e0, n0⟩ := Vm.findClass_spec h0
  obtain ⟨k1, e1, n1⟩ := Vm.findClass_spec h1
  rw [q] at e1
  cases e0.symm.trans e1
  rw [n0] at n1
  exact absurd n1 (by decide)
theorem zneC {F : zF} {a b : Nat} {c c' : ClassId} {x x' : vp_A} (ha : F a = some (.inl (c, x))) (hb : F b = some (.inl (c', x'))) (h : c ≠ c') : a ≠ b := by
  intro q
  subst q
  exact h (congrArg Prod.fst (Sum.inl.inj (Option.some.inj (ha.symm.trans hb))))
set_option maxHeartbeats 4000000 in
set_option maxRecDepth 100000 in
theorem met_X8_countHyphens (l : Launch) (D : va_G) (cs : Nat → ClassId) (A : Nat → Prop) (F : zF) (a sg en : Nat) (wd : Int) (st : zLn)  (hs1 : rLs cs F a sg en wd st) (hll : st.1.length ≤ 181) (hne : ∀ l ∈ st.1, l ≠ []) : zM l D cs A yX8_countHyphens cX8_countHyphens 4 (some FieldType.int) 2 0 0 [.ref a] F (pI (fun r F1 => F = F1 ∧ sHy st.1 = r)) := by
  refine zM_of (own := RX8) (by decide) rfl (Nat.le_of_ble_eq_true rfl) ?_
  intro p e s m below meth c hC hr hlk hnm hZ ls hl
  have hx := hC.x
  have hb := hC.b
  have hl : lv_has ls 4 [(0, .ref a)] := hl
  obtain ⟨f_, e_, h0, h1, h2, h3, h4, h5, h6⟩ := id hs1
  have hzl := zfl_l st
  refine z_iconst hx hb dX8_countHyphens_0 ?_
  refine lv_istore_n (lv' := [(1, .int (iI 0)), (0, .ref a)]) hx hb dX8_countHyphens_1 rfl hl (by decide) rfl (fun ls hl => ?_)
  refine z_iconst hx hb dX8_countHyphens_2 ?_
  refine lv_istore_n (lv' := [(2, .int (iI 0)), (1, .int (iI 0)), (0, .ref a)]) hx hb dX8_countHyphens_3 rfl hl (by decide) rfl (fun ls hl => ?_)
  have L4_k_1 : ∀ (fu : Nat) (n k : Int)  (hfu : ((st.1.length : Int) - k).toNat < fu) (hi4_0 : 0 ≤ k ∧ k ≤ (st.1.length : Int)) (hi4_1 : n = sHy (st.1.take k.toNat) ∧ 0 ≤ n ∧ n ≤ k) (H : Heap) (locs : List Loc) (hZ : zS D A s F H locs) (ls : Array Slot) (hl : lv_has ls 4 [(2, .int (iI k)), (1, .int (iI n)), (0, .ref a)]), W p l e (zR 2 0 0) s m [.ref a].toArray below meth c H locs 0 0 (MQ below (zQ D A (pI (fun r F1 => F = F1 ∧ sHy st.1 = r))) [.ref a].toArray s 0 0 A) (F0 m 4 ls []) := by
    intro fu
    induction fu with
    | zero =>
      intro n k  hfu
      exact absurd hfu (Nat.not_lt_zero _)
    | succ fu ih4 =>
      intro n k  hfu hi4_0 hi4_1  H locs hZ ls hl
      refine lv_iload_n hx hb dX8_countHyphens_4 rfl (lv_at hl 0 rfl) ?_
      refine lv_aload_n hx hb dX8_countHyphens_5 rfl (lv_at hl 2 rfl) ?_
      refine z_get (T := TX8) (N := 5) (ci := 11) (k := 3) (fs := [.ref sg, .ref en, .int (iI ((zfl st).length : Int)), .int (iI (st.1.length : Int)), .int (iI wd)]) (v := .int (iI (st.1.length : Int))) hC hZ in_X8 rfl (by decide) ql_X8_23 rfl h0 rfl dX8_countHyphens_6 ?_
      refine z_icmp_ge (tgt := 53) hx hb dX8_countHyphens_9 (by decide) (by omega) (by omega) (fun c_2 => ?_) (fun c_2 => ?_)
      · skip
        have hfin : sHy st.1 = n := by rw [hi4_1.1, show k.toNat = st.1.length by omega, List.take_length]
        refine lv_iload_n hx hb dX8_countHyphens_53 rfl (lv_at hl 1 rfl) ?_
        exact z_iret hC hr hlk hZ (by decide) (by decide) (⟨rfl, hfin⟩) dX8_countHyphens_54
      · skip
        have hkl : k.toNat < st.1.length := by omega
        have hnk : st.1.getD k.toNat [] ≠ [] := hne _ (by rw [List.getD_eq_getElem?_getD, List.getElem?_eq_getElem hkl]; exact List.getElem_mem hkl)
        have hl1 : 1 ≤ (st.1.getD k.toNat []).length := List.length_pos_iff.mpr hnk
        have hsy := sHy_t hkl hnk
        have hcs := zcum_s hkl
        have hkp : (k + 1).toNat = k.toNat + 1 := by omega
        have hcl := zcum_le (l := st.1) (k.toNat + 1)
        have hc0 := zcum_le (l := st.1) k.toNat
        have hza := zfl_at hkl hl1
        refine lv_aload_n hx hb dX8_countHyphens_12 rfl (lv_at hl 2 rfl) ?_
        refine lv_iload_n hx hb dX8_countHyphens_13 rfl (lv_at hl 0 rfl) ?_
        refine z_calli (z_runV (rest := []) (As := [.int (iI k)]) (n := 1) (ci := 11) hC hZ (met_X8_endOf l D cs A F a sg en wd st k hs1 (by omega)) gv_X8_67 hd_X8_endOf rfl h0 rfl hl rfl (Nat.le_of_ble_eq_true rfl) ⟨Nat.le_of_ble_eq_true rfl, Nat.le_of_ble_eq_true rfl⟩ ⟨Nat.le_of_ble_eq_true rfl, Nat.le_of_ble_eq_true rfl⟩ dX8_countHyphens_14) hZ (fun r14 F14 H locs hp14_c_3 hZ => ?_)
        obtain ⟨rfl, rfl⟩ := hp14_c_3
        refine z_iconst hx hb dX8_countHyphens_17 ?_
        refine z_isub hx hb dX8_countHyphens_18 ?_
        refine z_top (y := (zcum st.1 (k.toNat + 1) - 1)) (by rw [hkp]) ?_
        refine lv_istore_n (lv' := [(3, .int (iI (zcum st.1 (k.toNat + 1) - 1))), (2, .int (iI k)), (1, .int (iI n)), (0, .ref a)]) hx hb dX8_countHyphens_19 rfl hl (by decide) rfl (fun ls hl => ?_)
        refine lv_iload_n hx hb dX8_countHyphens_20 rfl (lv_at hl 0 rfl) ?_
        refine z_if_lt (tgt := 47) hx hb dX8_countHyphens_21 (by decide) (by omega) (fun c_4 => ?_) (fun c_4 => ?_)
        · skip
          exfalso; omega
        · skip
          refine lv_iload_n hx hb dX8_countHyphens_24 rfl (lv_at hl 0 rfl) ?_
          refine lv_aload_n hx hb dX8_countHyphens_25 rfl (lv_at hl 3 rfl) ?_
          refine z_get (T := TX8) (N := 5) (ci := 11) (k := 0) (fs := [.ref sg, .ref en, .int (iI ((zfl st).length : Int)), .int (iI (st.1.length : Int)), .int (iI wd)]) (v := .ref sg) hC hZ in_X8 rfl (by decide) ql_X8_11 rfl h0 rfl dX8_countHyphens_26 ?_
          refine z_alen (t := 1) hC hZ h1 rfl dX8_countHyphens_29 ?_
          refine z_top (y := 750) rfl ?_
          refine z_icmp_ge (tgt := 47) hx hb dX8_countHyphens_30 (by decide) (by omega) (by decide) (fun c_5 => ?_) (fun c_5 => ?_)
          · skip
            exfalso; omega
          · skip
            refine lv_aload_n hx hb dX8_countHyphens_33 rfl (lv_at hl 3 rfl) ?_
            refine z_get (T := TX8) (N := 5) (ci := 11) (k := 0) (fs := [.ref sg, .ref en, .int (iI ((zfl st).length : Int)), .int (iI (st.1.length : Int)), .int (iI wd)]) (v := .ref sg) hC hZ in_X8 rfl (by decide) ql_X8_11 rfl h0 rfl dX8_countHyphens_34 ?_
            refine lv_iload_n hx hb dX8_countHyphens_37 rfl (lv_at hl 0 rfl) ?_
            refine z_cald hC hZ h1 (by show _ ∧ _ < (750 : Int); omega) (by decide) dX8_countHyphens_38 ?_
            have hfk := h3 (zcum st.1 (k.toNat + 1) - 1) (by omega) (by omega)
            have hfr := h6 (zcum st.1 (k.toNat + 1) - 1) (by omega) (by omega)
            rw [hza] at hfk
            rw [← hfk] at hsy
            refine z_bipush hx hb dX8_countHyphens_39 (by decide) ?_
            refine z_icmp_ne (tgt := 47) hx hb dX8_countHyphens_41 (by decide) (by omega) (by decide) (fun c_6 => ?_) (fun c_6 => ?_)
            · skip
              refine z_iinc (lv' := [(2, .int (iI (k + 1))), (3, .int (iI (zcum st.1 (k.toNat + 1) - 1))), (1, .int (iI n)), (0, .ref a)]) hx hb dX8_countHyphens_47 hl (k := 1) rfl (by decide) rfl (fun ls hl => ?_)
              refine lv_goto (tgt := 4) hx hb dX8_countHyphens_50 (by decide) ?_
              exact ih4 n (k + 1)  (by omega) (by omega) (by rw [hkp]; omega)  _ _ hZ ls (lv_sub hl [0, 2, 3] rfl)
            · skip
              refine z_iinc (lv' := [(1, .int (iI (n + 1))), (3, .int (iI (zcum st.1 (k.toNat + 1) - 1))), (2, .int (iI k)), (0, .ref a)]) hx hb dX8_countHyphens_44 hl (k := 2) rfl (by decide) rfl (fun ls hl => ?_)
              refine z_iinc (lv' := [(2, .int (iI (k + 1))), (1, .int (iI (n + 1))), (3, .int (iI (zcum st.1 (k.toNat + 1) - 1))), (0, .ref a)]) hx hb dX8_countHyphens_47 hl (k := 2) rfl (by decide) rfl (fun ls hl => ?_)
              refine lv_goto (tgt := 4) hx hb dX8_countHyphens_50 (by decide) ?_
              exact ih4 (n + 1) (k + 1)  (by omega) (by omega) (by rw [hkp]; omega)  _ _ hZ ls (lv_sub hl [0, 1, 3] rfl)
  exact L4_k_1 _ 0 0  (Nat.lt_succ_self _) (by omega) ⟨rfl, by decide, by decide⟩  _ _ hZ ls (lv_sub hl [0, 1, 2] rfl)

set_option maxHeartbeats 4000000 in
set_option maxRecDepth 100000 in
theorem met_X8_writeTo (l : Launch) (D : va_G) (cs : Nat → ClassId) (A : Nat → Prop) (F : zF) (a sg en : Nat) (wd : Int) (st : zLn) (b va cap i : Nat)  (hs1 : rLs cs F a sg en wd st) (hb1 : oSB cs F b va cap []) (hi : i < st.1.length) (hl20 : (st.1.getD i []).length ≤ 20) : zM l D cs A yX8_writeTo cX8_writeTo 5 (none : Option Jvm.ClassFile.FieldType) 9 (mcS cap (st.1.getD i []).length) (msS cap (st.1.getD i []).length) [.ref a, .ref b, .int (iI (i : Int))] F (pV (fun F1 => ∃ va1 : Nat, sbR cs F F1 b va va1 (grw cap (st.1.getD i []).length) (st.1.getD i []))) := by
  refine zM_of (own := RX8) (by decide) rfl (Nat.le_of_ble_eq_true rfl) ?_
  intro p e s m below meth c hC hr hlk hnm hZ ls hl
  have hx := hC.x
  have hb := hC.b
  have hl : lv_has ls 5 [(0, .ref a), (1, .ref b), (2, .int (iI (i : Int)))] := hl
  obtain ⟨f_, e_, h0, h1, h2, h3, h4, h5, h6⟩ := id hs1
  have hzl := zfl_l st
  have h01 := hC.c01
  obtain ⟨ml, f2_, b0, b1, hcap, b2, b3⟩ := id hb1
  have hnab : a ≠ b := zne h0 b0 (fun q => by cases q)
  have hnav : a ≠ va := zne h0 b1 (fun q => by cases q)
  have hnsb : sg ≠ b := zne h1 b0 (fun q => by cases q)
  have hnsv : sg ≠ va := zneC h1 b1 h01
  have hR0 : sbR cs F F b va va cap [] := ⟨Or.inl rfl, zko.refl, hb1⟩
  have hcs := zcum_s hi
  have hcl := zcum_le (l := st.1) (i + 1)
  have hc0 := zcum_le (l := st.1) i
  refine lv_aload_n hx hb dX8_writeTo_0 rfl (lv_at hl 0 rfl) ?_
  refine lv_iload_n hx hb dX8_writeTo_1 rfl (lv_at hl 2 rfl) ?_
  refine z_calli (z_runV (rest := []) (As := [.int (iI (i : Int))]) (n := 1) (ci := 11) hC hZ (met_X8_endOf l D cs A F a sg en wd st (i : Int) hs1 (by omega)) gv_X8_67 hd_X8_endOf rfl h0 rfl hl rfl (Nat.le_of_ble_eq_true rfl) ⟨Nat.le_of_ble_eq_true rfl, Nat.le_of_ble_eq_true rfl⟩ ⟨(by show _ ≤ (mcS cap (st.1.getD i []).length); omega), (by show _ ≤ (msS cap (st.1.getD i []).length); omega)⟩ dX8_writeTo_2) hZ (fun r2 F2 H locs hp2_c_1 hZ => ?_)
  obtain ⟨rfl, rfl⟩ := hp2_c_1
  refine z_top (y := zcum st.1 (i + 1)) rfl ?_
  refine lv_istore_n (lv' := [(3, .int (iI (zcum st.1 (i + 1)))), (0, .ref a), (1, .ref b), (2, .int (iI (i : Int)))]) hx hb dX8_writeTo_5 rfl hl (by decide) rfl (fun ls hl => ?_)
  refine lv_aload_n hx hb dX8_writeTo_6 rfl (lv_at hl 1 rfl) ?_
  refine lv_iload_n hx hb dX8_writeTo_7 rfl (lv_at hl 3 rfl) ?_
  refine z_calli (z_runV (rest := []) (As := [.int (iI (i : Int))]) (n := 1) (ci := 11) hC hZ (met_X8_startOf l D cs A F a sg en wd st (i : Int) hs1 (by omega)) gv_X8_42 hd_X8_startOf rfl h0 rfl hl rfl (Nat.le_of_ble_eq_true rfl) ⟨Nat.le_of_ble_eq_true rfl, Nat.le_of_ble_eq_true rfl⟩ ⟨(by show _ ≤ (mcS cap (st.1.getD i []).length); omega), (by show _ ≤ (msS cap (st.1.getD i []).length); omega)⟩ dX8_writeTo_8) hZ (fun r8 F8 H locs hp8_c_2 hZ => ?_)
  obtain ⟨rfl, rfl⟩ := hp8_c_2
  refine z_top (y := zcum st.1 i) rfl ?_
  refine lv_istore (lv' := [(4, .int (iI (zcum st.1 i))), (3, .int (iI (zcum st.1 (i + 1)))), (0, .ref a), (1, .ref b), (2, .int (iI (i : Int)))]) hx hb dX8_writeTo_11 hl (by decide) rfl (fun ls hl => ?_)
  have L13_k_3 : ∀ (fu : Nat) (k : Int) (F2 : zF) (va2 : Nat) (hfu : (((st.1.getD i []).length : Int) - k).toNat < fu) (hi13_0 : 0 ≤ k ∧ k ≤ ((st.1.getD i []).length : Int)) (hi13_1 : sbR cs F F2 b va va2 (grw cap k.toNat) ((st.1.getD i []).take k.toNat)) (H : Heap) (locs : List Loc) (hZ : zS D A s F2 H locs) (ls : Array Slot) (hl : lv_has ls 5 [(4, .int (iI (zcum st.1 i + k))), (3, .int (iI (zcum st.1 (i + 1)))), (0, .ref a), (1, .ref b), (2, .int (iI (i : Int)))]), W p l e (zR 9 (mcS cap (st.1.getD i []).length) (msS cap (st.1.getD i []).length)) s m [.ref a, .ref b, .int (iI (i : Int))].toArray below meth c H locs (mcS cap k.toNat) (msS cap k.toNat) (MQ below (zQ D A (pV (fun F1 => ∃ va1 : Nat, sbR cs F F1 b va va1 (grw cap (st.1.getD i []).length) (st.1.getD i [])))) [.ref a, .ref b, .int (iI (i : Int))].toArray s (mcS cap (st.1.getD i []).length) (msS cap (st.1.getD i []).length) A) (F0 m 13 ls []) := by
    intro fu
    induction fu with
    | zero =>
      intro k F2 va2 hfu
      exact absurd hfu (Nat.not_lt_zero _)
    | succ fu ih13 =>
      intro k F2 va2 hfu hi13_0 hi13_1  H locs hZ ls hl
      have hR2 := hi13_1
      have g0 : F2 a = _ := hR2.2.1 _ _ h0 (zni1 hnab (zni1 hnav zni0))
      have g1 : F2 sg = _ := hR2.2.1 _ _ h1 (zni1 hnsb (zni1 hnsv zni0))
      have hkl : ((st.1.getD i []).take k.toNat).length = k.toNat := by rw [List.length_take]; omega
      refine lv_iload hx hb dX8_writeTo_13 (lv_at hl 0 rfl) ?_
      refine lv_iload_n hx hb dX8_writeTo_15 rfl (lv_at hl 1 rfl) ?_
      refine z_icmp_ge (tgt := 47) hx hb dX8_writeTo_16 (by decide) (by omega) (by omega) (fun c_4 => ?_) (fun c_4 => ?_)
      · skip
        have hkn : k.toNat = (st.1.getD i []).length := by omega
        have hcf : mcS cap k.toNat = mcS cap (st.1.getD i []).length := by rw [hkn]
        have hsf : msS cap k.toNat = msS cap (st.1.getD i []).length := by rw [hkn]
        have hfin : sbR cs F F2 b va va2 (grw cap (st.1.getD i []).length) (st.1.getD i []) := by rw [hkn, List.take_length] at hR2; exact hR2
        exact z_vret hC hr hlk hZ (by omega) (by omega) (⟨va2, hfin⟩) dX8_writeTo_47
      · skip
        have hkp : (k + 1).toNat = k.toNat + 1 := by omega
        have hfk := h3 (zcum st.1 i + k) (by omega) (by omega)
        have hfr := h6 (zcum st.1 i + k) (by omega) (by omega)
        have hsg := zfl_seg hi (d := k.toNat) (by omega)
        rw [Int.toNat_of_nonneg (by omega)] at hsg
        rw [hsg] at hfk
        have hcc : mcS cap k.toNat + mcS (grw cap k.toNat) (((st.1.getD i []).take k.toNat).length + 1) = mcS cap (k + 1).toNat := by rw [hkl, mcS_add (by omega) (by omega), hkp]
        have hss : msS cap k.toNat + msS (grw cap k.toNat) (((st.1.getD i []).take k.toNat).length + 1) = msS cap (k + 1).toNat := by rw [hkl, msS_add (by omega) (by omega), hkp]
        have hcm : mcS cap (k + 1).toNat + mcS (grw cap (k + 1).toNat) (st.1.getD i []).length = mcS cap (st.1.getD i []).length := mcS_add (by omega) (by omega)
        have hsm : msS cap (k + 1).toNat + msS (grw cap (k + 1).toNat) (st.1.getD i []).length = msS cap (st.1.getD i []).length := msS_add (by omega) (by omega)
        refine lv_iload hx hb dX8_writeTo_19 (lv_at hl 0 rfl) ?_
        refine lv_aload_n hx hb dX8_writeTo_21 rfl (lv_at hl 2 rfl) ?_
        refine z_get (T := TX8) (N := 5) (ci := 11) (k := 0) (fs := [.ref sg, .ref en, .int (iI ((zfl st).length : Int)), .int (iI (st.1.length : Int)), .int (iI wd)]) (v := .ref sg) hC hZ in_X8 rfl (by decide) ql_X8_11 rfl g0 rfl dX8_writeTo_22 ?_
        refine z_alen (t := 1) hC hZ g1 rfl dX8_writeTo_25 ?_
        refine z_top (y := 750) rfl ?_
        refine z_icmp_ge (tgt := 47) hx hb dX8_writeTo_26 (by decide) (by omega) (by decide) (fun c_5 => ?_) (fun c_5 => ?_)
        · skip
          exfalso; omega
        · skip
          refine lv_aload_n hx hb dX8_writeTo_29 rfl (lv_at hl 3 rfl) ?_
          refine lv_aload_n hx hb dX8_writeTo_30 rfl (lv_at hl 2 rfl) ?_
          refine z_get (T := TX8) (N := 5) (ci := 11) (k := 0) (fs := [.ref sg, .ref en, .int (iI ((zfl st).length : Int)), .int (iI (st.1.length : Int)), .int (iI wd)]) (v := .ref sg) hC hZ in_X8 rfl (by decide) ql_X8_11 rfl g0 rfl dX8_writeTo_31 ?_
          refine lv_iload hx hb dX8_writeTo_34 (lv_at hl 0 rfl) ?_
          refine z_cald hC hZ g1 (by show _ ∧ _ < (750 : Int); omega) (by decide) dX8_writeTo_36 ?_
          obtain ⟨fsho_6, ho_6⟩ := (hR2.2.2).o
          refine z_callr (z_runV (rest := []) (As := [.int (iI (f_ (zcum st.1 i + k)))]) (n := 1) (ci := 1) hC hZ (met_J4_append_cf468 l D cs A F2 b va2 (grw cap k.toNat) ((st.1.getD i []).take k.toNat) (f_ (zcum st.1 i + k)) hR2.2.2 (by omega) (by rw [hkl]; omega)) gv_X8_70 hd_J4_append_cf468 rfl ho_6 rfl hl rfl (Nat.le_of_ble_eq_true rfl) ⟨Nat.le_of_ble_eq_true rfl, Nat.le_of_ble_eq_true rfl⟩ ⟨(by show _ ≤ (mcS cap (st.1.getD i []).length); omega), (by show _ ≤ (msS cap (st.1.getD i []).length); omega)⟩ dX8_writeTo_37) hZ (fun r37 F37 H locs hp37_c_7 hZ => ?_)
          obtain ⟨rfl, va37, ha37, hk37, hb37⟩ := hp37_c_7
          have hR37 : sbR cs F F37 b va va37 (grw (grw cap k.toNat) (((st.1.getD i []).take k.toNat).length + 1)) (((st.1.getD i []).take k.toNat) ++ [f_ (zcum st.1 i + k)]) := hR2.step ha37 hk37 hb37
          have hf_8 : F37 a = some (.inr (11, [.ref sg, .ref en, .int (iI ((zfl st).length : Int)), .int (iI (st.1.length : Int)), .int (iI wd)])) := hR37.2.1 _ _ h0 (zni1 hnab (zni1 hnav zni0))
          have hf_9 : F37 sg = some (zA (cs 1) 750 f_) := hR37.2.1 _ _ h1 (zni1 hnsb (zni1 hnsv zni0))
          have hbb : sbR cs F F37 b va va37 (grw cap (k + 1).toNat) ((st.1.getD i []).take (k + 1).toNat) := by
            have hz := hR37
            rw [hkl, grw_add (by omega) (by omega), hfk, ← wd_take (by omega) (by omega), ← hkp] at hz
            exact hz
          refine lv_pop hx hb dX8_writeTo_40 rfl ?_
          refine z_iinc (lv' := [(4, .int (iI ((zcum st.1 i + k) + 1))), (3, .int (iI (zcum st.1 (i + 1)))), (0, .ref a), (1, .ref b), (2, .int (iI (i : Int)))]) hx hb dX8_writeTo_41 hl (k := 0) rfl (by decide) rfl (fun ls hl => ?_)
          refine lv_goto (tgt := 13) hx hb dX8_writeTo_44 (by decide) ?_
          rw [show zcum st.1 i + k + 1 = zcum st.1 i + (k + 1) by omega] at hl
          refine W.widen (k := (mcS cap (k + 1).toNat)) (n := (msS cap (k + 1).toNat)) (by omega) (by omega) ?_
          exact ih13 (k + 1) F37 va37 (by omega) (by omega) hbb  _ _ hZ ls (lv_sub hl [0, 1, 2, 3, 4] rfl)
  rw [show zcum st.1 i = zcum st.1 i + (0 : Int) by omega] at hl
  refine W.widen (k := (mcS cap (0 : Int).toNat)) (n := (msS cap (0 : Int).toNat)) (by omega) (by omega) ?_
  exact L13_k_3 _ (0 : Int) F va (Nat.lt_succ_self _) (by omega) (by rw [show grw cap (0 : Int).toNat = cap from if_pos (Nat.zero_le _)]; exact hR0)  _ _ hZ ls (lv_sub hl [0, 1, 2, 3, 4] rfl)
