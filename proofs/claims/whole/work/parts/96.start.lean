theorem zun_n {F G : zF} {q : Nat} (h : zun F G q = none) : F q = none ∧ G q = none := by
  cases hF : F q with
  | some e => rw [zun_l hF] at h; cases h
  | none => rw [zun_r hF] at h; exact ⟨rfl, h⟩
theorem zVal_0 : zVal 0 mv0 mg0 [] [] [] cNew none [] (-1) (-1) := by
  obtain ⟨h1, h2, h3, h4, h5, h6, h7, h8⟩ := mIni_0
  refine ⟨h1, ⟨by decide, by decide, (fun a h => by cases h), List.Pairwise.nil, (fun a h => by cases h), List.Pairwise.nil, ⟨by decide, by decide⟩, ⟨by decide, by decide⟩, ⟨by decide, by decide⟩, ⟨by decide, by decide⟩, ⟨by decide, by decide⟩, ⟨by decide, by decide⟩, by decide, by decide⟩, h2, (fun a h => by cases h), h3, by decide, (fun a h => by cases h), h4, ⟨h5, by decide, (fun a h => by cases h)⟩, Or.inl ⟨h6, rfl⟩, h7, h8, ⟨by decide, by decide⟩, by decide, by decide⟩
set_option maxHeartbeats 4000000 in
set_option maxRecDepth 100000 in
theorem whole_start {p : Program} {e : Env} {s : State} {m : MethodId} {below : List Frame} {meth : Method} {c : Code} (l : Launch) (hflags : l.flags = flags0) {b L : Nat} {xs : Nat → Int32} (hL : L ≤ 2048) (C0 : lw_At p s m meth c b L xs) : W p l e room_1 s m #[Value.ref b] below meth c s.heap [] 0 0 (lw_Z below #[Value.ref b] s) (entryFrame m ([Value.ref b] : List Value).toArray 9) := by
  obtain ⟨hx, hb, hr, hml, hown, hts, hX, hbl, hlocks, hgv⟩ := id C0
  obtain ⟨D, cs, hK, hG, hNc⟩ := zg_start hts hgv
  have hlt : l.stackTraces = false := by
    show (!(l.flags.contains noTraceFlag)) = false
    rw [hflags]
    decide +kernel
  have hC : zC p s m #[Value.ref b] c cL_law 9 RL D cs (fun q : Nat => s.heap.size ≤ q) := ⟨⟨hx, hb, hml, hown, fun w hw => hts w (zall_tbl hw)⟩, hK, fun _ h => h, hG⟩
  have hbA : ¬ (fun q : Nat => s.heap.size ≤ q) b := Nat.not_le.mpr hbl
  have hZ0 : zS D (fun q : Nat => s.heap.size ≤ q) s (fun _ => none) s.heap [] := ⟨(fun a e h => by cases h), (fun a e h => by cases h), va_S.rf⟩
  have hl := lv_entry ([.ref b]) (n := 9) (Nat.le_of_ble_eq_true rfl)
  rw [lg_entry_eq]
  generalize (lg_sl ([.ref b]) ++ List.replicate (9 - (lg_sl ([.ref b])).length) Slot.unset).toArray = ls at hl ⊢
  have hl : lv_has ls 9 [(0, .ref b)] := hl
  refine z_new (T := TX12) (N := 11) (ci := 15) hC hZ0 tyX12 tyX12_ok in_X12 rfl qk_L_8 qx_X12 qn_X12 [.null, .null, .null, .null, .null, .null, .null, .null, .null, .int (iI 0), .int (iI 0)] df_X12 (Nat.le_of_ble_eq_true rfl) (Nat.le_of_ble_eq_true rfl) dL_law_0 (fun ob H hob hZ => ?_)
  refine lv_dup hx hb dL_law_3 rfl ?_
  refine z_callv (z_runI (rest := [.ref ob]) (As := []) (n := 0) hC hZ (met_X12_init l D cs (fun q : Nat => s.heap.size ≤ q) _ ob zup_s) qc_X12_init qn_X12 qm_L_157 qi_X12_init rfl he_X12_init rfl hl rfl (Nat.le_of_ble_eq_true rfl) ⟨Nat.le_of_ble_eq_true rfl, Nat.le_of_ble_eq_true rfl⟩ ⟨Nat.le_of_ble_eq_true rfl, Nat.le_of_ble_eq_true rfl⟩ dL_law_4) hZ (fun F1 H locs hp hZ1 => ?_)
  obtain ⟨g1, sa1, hko, hg⟩ := hp
  refine lv_astore_n (lv' := [(1, .ref ob), (0, .ref b)]) hx hb dL_law_7 rfl hl (by decide) rfl (fun ls hl => ?_)
  refine z_new (T := TX13) (N := 24) (ci := 16) hC hZ1 tyX13 tyX13_ok in_X13 rfl qk_L_158 qx_X13 qn_X13 [.null, .null, .null, .int (iI 0), .null, .int (iI 0), .int (iI 0), .null, .int (iI 0), .null, .null, .null, .int (iI 0), .null, .null, .int (iI 0), .null, .int (iI 0), .int (iI 0), .int (iI 0), .int (iI 0), .int (iI 0), .null, .int (iI 0)] df_X13 (Nat.le_of_ble_eq_true rfl) (Nat.le_of_ble_eq_true rfl) dL_law_8 (fun m0 H hm0 hZ2 => ?_)
  refine lv_dup hx hb dL_law_11 rfl ?_
  have hF1 : zS D (fun q : Nat => s.heap.size ≤ q) s F1 H locs := hZ2.sub (zle.fresh hm0.1)
  have hM1 : zS D (fun q : Nat => s.heap.size ≤ q) s (z1 m0 (.inr (16, [.null, .null, .null, .int (iI 0), .null, .int (iI 0), .int (iI 0), .null, .int (iI 0), .null, .null, .null, .int (iI 0), .null, .null, .int (iI 0), .null, .int (iI 0), .int (iI 0), .int (iI 0), .int (iI 0), .int (iI 0), .null, .int (iI 0)]))) H locs := hZ2.sub (fun q e h => by
    by_cases c9 : q = m0
    · subst c9; rw [z1_s] at h; cases h; exact zup_s
    · rw [z1_n c9] at h; cases h)
  refine z_fcall hC (z_frI (rest := [.ref m0]) (As := []) (n := 0) hC hM1 (met_X13_init l D cs (zfA _ H) _ m0 z1_s) qc_X13_init qn_X13 qm_L_160 qi_X13_init rfl he_X13_init rfl hl rfl (Nat.le_of_ble_eq_true rfl) ⟨Nat.le_of_ble_eq_true rfl, Nat.le_of_ble_eq_true rfl⟩ ⟨Nat.le_of_ble_eq_true rfl, Nat.le_of_ble_eq_true rfl⟩ dL_law_12) hM1 (fun vv F2 H locs hp hZ3 hfr => ?_)
  obtain ⟨rfl, ad, hD, hsub, -, -⟩ := hp
  obtain ⟨hF2, hdj⟩ := hfr F1 (zdj1 hm0.1).symm hF1
  have hMW : zS D (fun q : Nat => s.heap.size ≤ q) s (mW cs m0 ad mv0 mg0) H locs := hZ3.sub hsub
  have hdM : zdj F1 (mW cs m0 ad mv0 mg0) := fun q => by
    rcases hdj q with z | z
    · right
      cases hq : mW cs m0 ad mv0 mg0 q with
      | none => rfl
      | some e9 => rw [hsub q e9 hq] at z; cases z
    · exact Or.inl z
  refine lv_astore_n (lv' := [(2, .ref m0), (1, .ref ob), (0, .ref b)]) hx hb dL_law_15 rfl hl (by decide) rfl (fun ls hl => ?_)
  refine z_iconst hx hb dL_law_16 ?_
  refine z_newL hC (hF2.un hMW) (Nat.le_of_ble_eq_true rfl) (Nat.le_of_ble_eq_true rfl) dL_law_17 (fun ou H hou _ hZ4 _ => ?_)
  refine lv_astore_n (lv' := [(3, .ref ou), (2, .ref m0), (1, .ref ob), (0, .ref b)]) hx hb dL_law_19 rfl hl (by decide) rfl (fun ls hl => ?_)
  refine z_iconst hx hb dL_law_20 ?_
  refine z_newD hC hZ4 (Nat.le_of_ble_eq_true rfl) (Nat.le_of_ble_eq_true rfl) dL_law_21 (fun od H hod _ hZ5 _ => ?_)
  refine lv_astore (lv' := [(4, .ref od), (3, .ref ou), (2, .ref m0), (1, .ref ob), (0, .ref b)]) hx hb dL_law_23 hl (by decide) rfl (fun ls hl => ?_)
  refine z_iconst hx hb dL_law_25 ?_
  refine lv_istore (lv' := [(5, .int (iI 0)), (4, .ref od), (3, .ref ou), (2, .ref m0), (1, .ref ob), (0, .ref b)]) hx hb dL_law_26 hl (by decide) rfl (fun ls hl => ?_)
  have a1 := zun_n hou.1
  have a2 := zup_nn hod.1
  have a3 := zun_n a2.1
  have k1 : ∀ (q : Nat) (e : va_E), zun F1 (mW cs m0 ad mv0 mg0) q = some e → zup (zup (zun F1 (mW cs m0 ad mv0 mg0)) ou (zLa cs (fun _ => 0))) od (zDa cs (fun _ => 0)) q = some e := fun q e h => zup_k (zF_ne (zup_k (zF_ne h hou.1) h) hod.1) (zup_k (zF_ne h hou.1) h)
  have hS : zLS D cs (fun q : Nat => s.heap.size ≤ q) s H locs m0 ou od ad F1 mv0 mg0 (fun _ => 0) (fun _ => 0) := ⟨hZ5.sub (fun q e h => k1 q e (zun_l h)), hZ5.sub (fun q e h => k1 q e (by
    rcases hdM q with z | z
    · rw [zun_r z]; exact h
    · rw [z] at h; cases h)), hZ5.sub (fun q e h => by
    by_cases c9 : q = ou
    · subst c9; rw [z1_s] at h; cases h; exact zup_k a2.2 zup_s
    · rw [z1_n c9] at h; cases h), hZ5.sub (fun q e h => by
    by_cases c9 : q = od
    · subst c9; rw [z1_s] at h; cases h; exact zup_s
    · rw [z1_n c9] at h; cases h), hdM, a1.1, a3.1, a1.2, a3.2, a2.2⟩
  have hT : zT2 cs 0 F1 ob mv0 mg0 := ⟨g1, sa1, none, [], [], [], [], cNew, none, [], -1, -1, hg, zVal_0⟩
  have hB : lCx l room_1 D cs (fun q : Nat => s.heap.size ≤ q) p s m #[Value.ref b] c b L m0 xs ad := ⟨hC, hlt, hNc, hX, hbl, hbA, hL, hD, Nat.le_of_ble_eq_true rfl, Nat.le_of_ble_eq_true rfl⟩
  refine W.widen (k := 40 + 110 * 0) (n := 34000 + 1650 * 0) (Nat.le_of_ble_eq_true rfl) (Nat.le_of_ble_eq_true rfl) ?_
  refine law_loop (cb := 40) (sb := 34000) hB (Nat.le_of_ble_eq_true rfl) (Nat.le_of_ble_eq_true rfl) (fun H1 locs1 ls1 F9 hZ9 hl9 => ?_) (L + 1) 0 0 H locs F1 mv0 mg0 _ _ ls (by omega) (by decide) (by omega) (by decide) hS hT mOK_0 (lv_sub hl [0, 5, 4, 3, 2, 1] rfl)
  refine z_iconst hx hb dL_law_2904 ?_
  refine va_forget (fun q hq => hZ9.2.2.2.2 q hq) ?_
  refine W.widen (k := 603072) (n := 7182442) (Nat.le_of_ble_eq_true rfl) (Nat.le_of_ble_eq_true rfl) ?_
  exact lw_ret (d0 := s.drawn) (Drawn.sameBut.refl s.drawn lw_cs) hx hb hr hlocks dL_law_2905
