set_option maxHeartbeats 4000000 in
set_option maxRecDepth 100000 in
theorem whole_start {p : Program} {e : Env} {s : State} {m : MethodId} {below : List Frame} {meth : Method} {c : Code} (l : Launch) (hflags : l.flags = flags0) {b L : Nat} {xs : Nat → Int32} (hL : L ≤ 260) (C0 : lw_At p s m meth c b L xs) : W p l e room_1 s m #[Value.ref b] below meth c s.heap [] 0 0 (lw_Z below #[Value.ref b] s) (entryFrame m ([Value.ref b] : List Value).toArray 2) := by
  obtain ⟨hx, hb, hr, hml, hown, hts, hX, hbl, hlocks, hgv⟩ := id C0
  obtain ⟨D, cs, hK, hG, e98, e99⟩ := zg_start hX hts hgv
  subst e98
  subst e99
  have hlt : l.stackTraces = false := by
    show (!(l.flags.contains noTraceFlag)) = false
    rw [hflags]
    decide +kernel
  have hC : zC p s m #[Value.ref (cs 98)] c cL_law 2 RL D cs (fun q : Nat => s.heap.size ≤ q) := ⟨⟨hx, hb, hml, hown, fun w hw => hts w (zall_tbl hw)⟩, hK, fun _ h => h, hG⟩
  have hW : zW3 D (fun q : Nat => s.heap.size ≤ q) s zE zE zE s.heap [] := zW3.ofX ⟨(fun a e h => by cases h), (fun a e h => by cases h), va_S.rf⟩
  have hl := lv_entry ([.ref (cs 98)]) (n := 2) (Nat.le_of_ble_eq_true rfl)
  rw [lg_entry_eq]
  generalize (lg_sl ([.ref (cs 98)]) ++ List.replicate (2 - (lg_sl ([.ref (cs 98)])).length) Slot.unset).toArray = ls at hl ⊢
  have hl : lv_has ls 2 [(0, .ref (cs 98))] := hl
  have hL : (cs 99 : Int) ≤ 260 := by omega
  clear hG
  refine lv_aload_n hx hb dL_law_0 rfl (lv_at hl 0 rfl) ?_
  refine z_cDr hC (z_frS (rest := []) (As := [.ref (cs 98)]) (n := 1) hC hW.x (lm_drawn l D cs (zfA zE _) zE hlt hL) gs_L_240 he_L_drawn rfl hl rfl (Nat.le_of_ble_eq_true rfl) ⟨Nat.le_of_ble_eq_true rfl, Nat.le_of_ble_eq_true rfl⟩ ⟨Nat.le_of_ble_eq_true rfl, Nat.le_of_ble_eq_true rfl⟩ dL_law_1) hW (fun ob G1 X1 H locs hp1 hW => ?_)
  obtain ⟨hl1, N, c0, hs, hG, hN, hdj⟩ := hp1
  have hn5 : 1 ≤ (1 + dC cs 0 % 5).toNat ∧ (1 + dC cs 0 % 5).toNat ≤ 5 := by have := dC_b cs 0; omega
  refine lv_astore_n (lv' := [(1, .ref ob), (0, .ref (cs 98))]) hx hb dL_law_4 rfl hl (by decide) rfl (fun ls hl => ?_)
  refine lv_aload_n hx hb dL_law_5 rfl (lv_at hl 0 rfl) ?_
  refine lv_ifnull hx hb dL_law_6 ?_
  refine lv_aload_n hx hb dL_law_9 rfl (lv_at hl 0 rfl) ?_
  refine z_cGXi hC (z_frS (rest := []) (As := [.ref ob]) (n := 1) hC hW.gx (lm_articles l D cs (zfA (zun G1 X1) _) G1 X1 ob N ([] : List Int) ([] : List Int) ([] : List Int) c0 hs (1 + dC cs 0 % 5).toNat hW.dgx hlt hG hn5 hdj) gs_L_244 he_L_articles rfl hl rfl (Nat.le_of_ble_eq_true rfl) ⟨Nat.le_of_ble_eq_true rfl, Nat.le_of_ble_eq_true rfl⟩ ⟨Nat.le_of_ble_eq_true rfl, Nat.le_of_ble_eq_true rfl⟩ dL_law_10) hW (fun r10 G10 X10 H locs hp10 hW => ?_)
  obtain ⟨hl10, ⟨out10, hG⟩, rfl⟩ := hp10
  refine z_if_eq (tgt := 42) hx hb dL_law_13 (by decide) (by decide) (fun c_1 => ?_) (fun c_1 => ?_)
  · skip
    exfalso; omega
  · skip
    refine lv_aload_n hx hb dL_law_16 rfl (lv_at hl 0 rfl) ?_
    refine z_cGXi hC (z_frS (rest := []) (As := [.ref ob]) (n := 1) hC hW.gx (lm_lines l D cs (zfA (zun G10 X10) _) G10 X10 ob N ([] : List Int) ([] : List Int) out10 c0 hs (1 + dC cs 0 % 5).toNat hW.dgx hlt hG hn5 hdj) gs_L_248 he_L_lines rfl hl rfl (Nat.le_of_ble_eq_true rfl) ⟨Nat.le_of_ble_eq_true rfl, Nat.le_of_ble_eq_true rfl⟩ ⟨Nat.le_of_ble_eq_true rfl, Nat.le_of_ble_eq_true rfl⟩ dL_law_17) hW (fun r17 G17 X17 H locs hp17 hW => ?_)
    obtain ⟨hl17, ⟨out17, hG⟩, rfl⟩ := hp17
    refine z_if_eq (tgt := 42) hx hb dL_law_20 (by decide) (by decide) (fun c_2 => ?_) (fun c_2 => ?_)
    · skip
      exfalso; omega
    · skip
      refine lv_aload_n hx hb dL_law_23 rfl (lv_at hl 0 rfl) ?_
      refine z_cGXi hC (z_frS (rest := []) (As := [.ref ob]) (n := 1) hC hW.gx (lm_issues l D cs (zfA (zun G17 X17) _) G17 X17 ob N ([] : List Int) ([] : List Int) out17 c0 hs (1 + dC cs 0 % 5).toNat hW.dgx hlt hG hn5 hdj) gs_L_251 he_L_issues rfl hl rfl (Nat.le_of_ble_eq_true rfl) ⟨Nat.le_of_ble_eq_true rfl, Nat.le_of_ble_eq_true rfl⟩ ⟨Nat.le_of_ble_eq_true rfl, Nat.le_of_ble_eq_true rfl⟩ dL_law_24) hW (fun r24 G24 X24 H locs hp24 hW => ?_)
      obtain ⟨hl24, ⟨out24, hG⟩, rfl⟩ := hp24
      refine z_if_eq (tgt := 42) hx hb dL_law_27 (by decide) (by decide) (fun c_3 => ?_) (fun c_3 => ?_)
      · skip
        exfalso; omega
      · skip
        refine lv_aload_n hx hb dL_law_30 rfl (lv_at hl 1 rfl) ?_
        refine lv_aload_n hx hb dL_law_31 rfl (lv_at hl 0 rfl) ?_
        refine z_cGXi hC (z_frS (rest := []) (As := [.ref (cs 98), .ref ob]) (n := 2) hC hW.gx (lm_undone l D cs (zfA (zun G24 X24) _) G24 X24 ob N ([] : List Int) out24 c0 hs hW.dgx hlt hG hL hN) gs_L_254 he_L_undone rfl hl rfl (Nat.le_of_ble_eq_true rfl) ⟨Nat.le_of_ble_eq_true rfl, Nat.le_of_ble_eq_true rfl⟩ ⟨Nat.le_of_ble_eq_true rfl, Nat.le_of_ble_eq_true rfl⟩ dL_law_32) hW (fun r32 G32 X32 H locs hp32 hW => ?_)
        obtain rfl := hp32
        refine z_if_eq (tgt := 42) hx hb dL_law_35 (by decide) (by decide) (fun c_4 => ?_) (fun c_4 => ?_)
        · skip
          exfalso; omega
        · skip
          refine z_iconst hx hb dL_law_38 ?_
          refine lv_goto (tgt := 43) hx hb dL_law_39 (by decide) ?_
          refine va_forget (fun q hq => hW.g.2.2.2.2 q hq) ?_
          refine W.widen (k := 780716) (n := 6746061) (Nat.le_of_ble_eq_true rfl) (Nat.le_of_ble_eq_true rfl) ?_
          exact lw_ret (d0 := s.drawn) (Drawn.sameBut.refl s.drawn lw_cs) hx hb hr hlocks dL_law_43

