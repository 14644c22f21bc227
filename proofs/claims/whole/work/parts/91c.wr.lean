set_option maxHeartbeats 4000000 in
set_option maxRecDepth 100000 in
theorem wr_type (l : Launch) (D : va_G) (cs : Nat → ClassId) (A : Nat → Prop) (Fg : zF) (ob ou : Nat) (x0 : Int) (f0 : Nat → Int64) {fs : List Value} (hob : Fg ob = some (.inr (15, fs))) (hou : Fg ou = none) {post : Int → zF → Prop} {px : String → zF → Prop} (hM : ∀ A1 : Nat → Prop, zXM l D cs A1 yX12_type cX12_type 2 (some FieldType.int) 6 1 6 [.ref ob, .int (iI x0)] Fg (pI post) px) (hpx : ∀ (E : String) (F1 : zF), px E F1 → E = "java/lang/IllegalArgumentException" ∨ E = "java/lang/IllegalStateException") : zMW l D cs A yL_type cL_type 4 (some FieldType.int) [((0 : Nat), (9 : Nat), (12 : Nat), (13 : Nat)), ((0 : Nat), (9 : Nat), (15 : Nat), (15 : Nat))] 7 1 6 [.ref ob, .int (iI x0), .ref ou] (zun Fg (z1 ou (zLa cs f0))) (pI (wPL cs ou ["java/lang/IllegalArgumentException", "java/lang/IllegalStateException"] post px)) := by
  refine zW_of (own := RL) (by decide) rfl (Nat.le_of_ble_eq_true rfl) ?_
  intro p e s m below meth c hC hr hlk hT hNc hZ ls hl
  have hx := hC.x
  have hb := hC.b
  have hl : lv_has ls 4 [(0, .ref ob), (1, .int (iI x0)), (2, .ref ou)] := hl
  refine lv_aload_n hx hb dL_type_0 rfl (lv_at hl 2 rfl) ?_
  refine z_iconst hx hb dL_type_1 ?_
  refine lv_aload_n hx hb dL_type_2 rfl (lv_at hl 0 rfl) ?_
  refine lv_iload_n hx hb dL_type_3 rfl (lv_at hl 1 rfl) ?_
  have hZg : zS D A s Fg s.heap [] := hZ.ul
  refine z_fcallX hC (z_frX (rest := [.int (iI 0), .ref ou]) (As := [.int (iI x0)]) (n := 1) (ci := 15) hC hZg (hM (zfA Fg s.heap)) gv_L_7 hd_X12_type rfl hob rfl hl rfl (Nat.le_of_ble_eq_true rfl) ⟨Nat.le_of_ble_eq_true rfl, Nat.le_of_ble_eq_true rfl⟩ ⟨Nat.le_of_ble_eq_true rfl, Nat.le_of_ble_eq_true rfl⟩ dL_type_4) hZg (fun E ce q9 Fg1 H locs hpE hZg1 hfr hce hcv hcl => ?_) (fun v Fg1 H locs hpv hZg1 hfr => ?_)
  · skip
    obtain ⟨hZo1, hdj1⟩ := hfr _ (zdj1 hou) (hZ.ur (zdj1 hou))
    have hZ := hZg1.un hZo1
    have hou1 := zdj1_i hdj1
    rcases hpx E Fg1 hpE with rfl | rfl
    · skip
      refine vx_catch (name := "java/lang/IllegalArgumentException") hC.ow [] ⟨0, 9, 12, 13⟩ [⟨0, 9, 15, 15⟩] (hT.trans rfl) (fun z hz => absurd hz List.not_mem_nil) rfl (by decide) (hC.ts qk_L_13) (va_Nw.use rfl (hC.G.2.1 _ q_421)) hce hcv hcl ?_
      refine lv_astore_n (lv' := [(3, .ref q9), (0, .ref ob), (1, .int (iI x0)), (2, .ref ou)]) hx hb dL_type_12 rfl hl (by decide) rfl (fun ls hl => ?_)
      refine z_iconst hx hb dL_type_13 ?_
      exact z_iret hC hr hlk hZ (Nat.le_of_ble_eq_true rfl) (Nat.le_of_ble_eq_true rfl) ⟨Fg1, f0, rfl, hou1, Or.inr ⟨0, _, rfl, hpE, rfl⟩⟩ dL_type_14
    · skip
      refine vx_catch (name := "java/lang/IllegalStateException") hC.ow [⟨0, 9, 12, 13⟩] ⟨0, 9, 15, 15⟩ [] (hT.trans rfl) (fun z hz => by rw [List.mem_singleton.mp hz]; exact (Or.inr ⟨(by decide), "java/lang/IllegalArgumentException", hC.ts qk_L_13, hNc _ _ (by decide) (by decide) (by decide)⟩)) rfl (by decide) (hC.ts qk_L_15) (va_Nw.use rfl (hC.G.2.1 _ q_497)) hce hcv hcl ?_
      refine lv_astore_n (lv' := [(3, .ref q9), (0, .ref ob), (1, .int (iI x0)), (2, .ref ou)]) hx hb dL_type_15 rfl hl (by decide) rfl (fun ls hl => ?_)
      refine z_iconst hx hb dL_type_16 ?_
      exact z_iret hC hr hlk hZ (Nat.le_of_ble_eq_true rfl) (Nat.le_of_ble_eq_true rfl) ⟨Fg1, f0, rfl, hou1, Or.inr ⟨1, _, rfl, hpE, rfl⟩⟩ dL_type_17
  · skip
    obtain ⟨r, rfl, hpr⟩ := hpv
    obtain ⟨hZo1, hdj1⟩ := hfr _ (zdj1 hou) (hZ.ur (zdj1 hou))
    have hZ := hZg1.un hZo1
    have hou1 := zdj1_i hdj1
    refine lv_i2l hx hb dL_type_7 rfl ?_
    refine z_last hC hZ ((zun_r hou1).trans z1_s) dL_type_8 (fun H locs hZ => ?_)
    rw [zun_up hou1] at hZ
    refine lv_goto (tgt := 18) hx hb dL_type_9 (by decide) ?_
    refine z_iconst hx hb dL_type_18 ?_
    exact z_iret hC hr hlk hZ (Nat.le_of_ble_eq_true rfl) (Nat.le_of_ble_eq_true rfl) ⟨Fg1, _, rfl, hou1, Or.inl ⟨rfl, r, hpr, rfl⟩⟩ dL_type_19

set_option maxHeartbeats 4000000 in
set_option maxRecDepth 100000 in
theorem wr_addArticle (l : Launch) (D : va_G) (cs : Nat → ClassId) (A : Nat → Prop) (Fg : zF) (ob ou : Nat) (x0 : Int) (f0 : Nat → Int64) {fs : List Value} (hob : Fg ob = some (.inr (15, fs))) (hou : Fg ou = none) {post : Int → zF → Prop} {px : String → zF → Prop} (hM : ∀ A1 : Nat → Prop, zXM l D cs A1 yX12_addArticle cX12_addArticle 4 (some FieldType.int) 9 108 990 [.ref ob, .int (iI x0)] Fg (pI post) px) (hpx : ∀ (E : String) (F1 : zF), px E F1 → E = "java/lang/IllegalArgumentException" ∨ E = "java/lang/IllegalStateException" ∨ E = "java/lang/UnsupportedOperationException") : zMW l D cs A yL_addArticle cL_addArticle 4 (some FieldType.int) [((0 : Nat), (9 : Nat), (12 : Nat), (13 : Nat)), ((0 : Nat), (9 : Nat), (15 : Nat), (15 : Nat)), ((0 : Nat), (9 : Nat), (18 : Nat), (21 : Nat))] 10 108 990 [.ref ob, .int (iI x0), .ref ou] (zun Fg (z1 ou (zLa cs f0))) (pI (wPL cs ou ["java/lang/IllegalArgumentException", "java/lang/IllegalStateException", "java/lang/UnsupportedOperationException"] post px)) := by
  refine zW_of (own := RL) (by decide) rfl (Nat.le_of_ble_eq_true rfl) ?_
  intro p e s m below meth c hC hr hlk hT hNc hZ ls hl
  have hx := hC.x
  have hb := hC.b
  have hl : lv_has ls 4 [(0, .ref ob), (1, .int (iI x0)), (2, .ref ou)] := hl
  refine lv_aload_n hx hb dL_addArticle_0 rfl (lv_at hl 2 rfl) ?_
  refine z_iconst hx hb dL_addArticle_1 ?_
  refine lv_aload_n hx hb dL_addArticle_2 rfl (lv_at hl 0 rfl) ?_
  refine lv_iload_n hx hb dL_addArticle_3 rfl (lv_at hl 1 rfl) ?_
  have hZg : zS D A s Fg s.heap [] := hZ.ul
  refine z_fcallX hC (z_frX (rest := [.int (iI 0), .ref ou]) (As := [.int (iI x0)]) (n := 1) (ci := 15) hC hZg (hM (zfA Fg s.heap)) gv_L_17 hd_X12_addArticle rfl hob rfl hl rfl (Nat.le_of_ble_eq_true rfl) ⟨Nat.le_of_ble_eq_true rfl, Nat.le_of_ble_eq_true rfl⟩ ⟨Nat.le_of_ble_eq_true rfl, Nat.le_of_ble_eq_true rfl⟩ dL_addArticle_4) hZg (fun E ce q9 Fg1 H locs hpE hZg1 hfr hce hcv hcl => ?_) (fun v Fg1 H locs hpv hZg1 hfr => ?_)
  · skip
    obtain ⟨hZo1, hdj1⟩ := hfr _ (zdj1 hou) (hZ.ur (zdj1 hou))
    have hZ := hZg1.un hZo1
    have hou1 := zdj1_i hdj1
    rcases hpx E Fg1 hpE with rfl | rfl | rfl
    · skip
      refine vx_catch (name := "java/lang/IllegalArgumentException") hC.ow [] ⟨0, 9, 12, 13⟩ [⟨0, 9, 15, 15⟩, ⟨0, 9, 18, 21⟩] (hT.trans rfl) (fun z hz => absurd hz List.not_mem_nil) rfl (by decide) (hC.ts qk_L_13) (va_Nw.use rfl (hC.G.2.1 _ q_421)) hce hcv hcl ?_
      refine lv_astore_n (lv' := [(3, .ref q9), (0, .ref ob), (1, .int (iI x0)), (2, .ref ou)]) hx hb dL_addArticle_12 rfl hl (by decide) rfl (fun ls hl => ?_)
      refine z_iconst hx hb dL_addArticle_13 ?_
      exact z_iret hC hr hlk hZ (Nat.le_of_ble_eq_true rfl) (Nat.le_of_ble_eq_true rfl) ⟨Fg1, f0, rfl, hou1, Or.inr ⟨0, _, rfl, hpE, rfl⟩⟩ dL_addArticle_14
    · skip
      refine vx_catch (name := "java/lang/IllegalStateException") hC.ow [⟨0, 9, 12, 13⟩] ⟨0, 9, 15, 15⟩ [⟨0, 9, 18, 21⟩] (hT.trans rfl) (fun z hz => by rw [List.mem_singleton.mp hz]; exact (Or.inr ⟨(by decide), "java/lang/IllegalArgumentException", hC.ts qk_L_13, hNc _ _ (by decide) (by decide) (by decide)⟩)) rfl (by decide) (hC.ts qk_L_15) (va_Nw.use rfl (hC.G.2.1 _ q_497)) hce hcv hcl ?_
      refine lv_astore_n (lv' := [(3, .ref q9), (0, .ref ob), (1, .int (iI x0)), (2, .ref ou)]) hx hb dL_addArticle_15 rfl hl (by decide) rfl (fun ls hl => ?_)
      refine z_iconst hx hb dL_addArticle_16 ?_
      exact z_iret hC hr hlk hZ (Nat.le_of_ble_eq_true rfl) (Nat.le_of_ble_eq_true rfl) ⟨Fg1, f0, rfl, hou1, Or.inr ⟨1, _, rfl, hpE, rfl⟩⟩ dL_addArticle_17
    · skip
      refine vx_catch (name := "java/lang/UnsupportedOperationException") hC.ow [⟨0, 9, 12, 13⟩, ⟨0, 9, 15, 15⟩] ⟨0, 9, 18, 21⟩ [] (hT.trans rfl) (fun z hz => by
            rcases List.mem_cons.mp hz with rfl | hz
            · exact (Or.inr ⟨(by decide), "java/lang/IllegalArgumentException", hC.ts qk_L_13, hNc _ _ (by decide) (by decide) (by decide)⟩)
            · rw [List.mem_singleton.mp hz]; exact (Or.inr ⟨(by decide), "java/lang/IllegalStateException", hC.ts qk_L_15, hNc _ _ (by decide) (by decide) (by decide)⟩)) rfl (by decide) (hC.ts qk_L_21) (va_Nw.use rfl (hC.G.2.1 _ q_531)) hce hcv hcl ?_
      refine lv_astore_n (lv' := [(3, .ref q9), (0, .ref ob), (1, .int (iI x0)), (2, .ref ou)]) hx hb dL_addArticle_18 rfl hl (by decide) rfl (fun ls hl => ?_)
      refine z_iconst hx hb dL_addArticle_19 ?_
      exact z_iret hC hr hlk hZ (Nat.le_of_ble_eq_true rfl) (Nat.le_of_ble_eq_true rfl) ⟨Fg1, f0, rfl, hou1, Or.inr ⟨2, _, rfl, hpE, rfl⟩⟩ dL_addArticle_20
  · skip
    obtain ⟨r, rfl, hpr⟩ := hpv
    obtain ⟨hZo1, hdj1⟩ := hfr _ (zdj1 hou) (hZ.ur (zdj1 hou))
    have hZ := hZg1.un hZo1
    have hou1 := zdj1_i hdj1
    refine lv_i2l hx hb dL_addArticle_7 rfl ?_
    refine z_last hC hZ ((zun_r hou1).trans z1_s) dL_addArticle_8 (fun H locs hZ => ?_)
    rw [zun_up hou1] at hZ
    refine lv_goto (tgt := 21) hx hb dL_addArticle_9 (by decide) ?_
    refine z_iconst hx hb dL_addArticle_21 ?_
    exact z_iret hC hr hlk hZ (Nat.le_of_ble_eq_true rfl) (Nat.le_of_ble_eq_true rfl) ⟨Fg1, _, rfl, hou1, Or.inl ⟨rfl, r, hpr, rfl⟩⟩ dL_addArticle_22

set_option maxHeartbeats 4000000 in
set_option maxRecDepth 100000 in
theorem wr_removeArticle (l : Launch) (D : va_G) (cs : Nat → ClassId) (A : Nat → Prop) (Fg : zF) (ob ou : Nat) (x0 : Int) (f0 : Nat → Int64) {fs : List Value} (hob : Fg ob = some (.inr (15, fs))) (hou : Fg ou = none) {post : Int → zF → Prop} {px : String → zF → Prop} (hM : ∀ A1 : Nat → Prop, zXM l D cs A1 yX12_removeArticle cX12_removeArticle 3 (some FieldType.int) 9 14 131 [.ref ob, .int (iI x0)] Fg (pI post) px) (hpx : ∀ (E : String) (F1 : zF), px E F1 → E = "java/util/NoSuchElementException") : zMW l D cs A yL_removeArticle cL_removeArticle 4 (some FieldType.int) [((0 : Nat), (9 : Nat), (12 : Nat), (26 : Nat))] 10 14 131 [.ref ob, .int (iI x0), .ref ou] (zun Fg (z1 ou (zLa cs f0))) (pI (wPL cs ou ["java/util/NoSuchElementException"] post px)) := by
  refine zW_of (own := RL) (by decide) rfl (Nat.le_of_ble_eq_true rfl) ?_
  intro p e s m below meth c hC hr hlk hT hNc hZ ls hl
  have hx := hC.x
  have hb := hC.b
  have hl : lv_has ls 4 [(0, .ref ob), (1, .int (iI x0)), (2, .ref ou)] := hl
  refine lv_aload_n hx hb dL_removeArticle_0 rfl (lv_at hl 2 rfl) ?_
  refine z_iconst hx hb dL_removeArticle_1 ?_
  refine lv_aload_n hx hb dL_removeArticle_2 rfl (lv_at hl 0 rfl) ?_
  refine lv_iload_n hx hb dL_removeArticle_3 rfl (lv_at hl 1 rfl) ?_
  have hZg : zS D A s Fg s.heap [] := hZ.ul
  refine z_fcallX hC (z_frX (rest := [.int (iI 0), .ref ou]) (As := [.int (iI x0)]) (n := 1) (ci := 15) hC hZg (hM (zfA Fg s.heap)) gv_L_23 hd_X12_removeArticle rfl hob rfl hl rfl (Nat.le_of_ble_eq_true rfl) ⟨Nat.le_of_ble_eq_true rfl, Nat.le_of_ble_eq_true rfl⟩ ⟨Nat.le_of_ble_eq_true rfl, Nat.le_of_ble_eq_true rfl⟩ dL_removeArticle_4) hZg (fun E ce q9 Fg1 H locs hpE hZg1 hfr hce hcv hcl => ?_) (fun v Fg1 H locs hpv hZg1 hfr => ?_)
  · skip
    obtain ⟨hZo1, hdj1⟩ := hfr _ (zdj1 hou) (hZ.ur (zdj1 hou))
    have hZ := hZg1.un hZo1
    have hou1 := zdj1_i hdj1
    rcases hpx E Fg1 hpE with rfl
    refine vx_catch (name := "java/util/NoSuchElementException") hC.ow [] ⟨0, 9, 12, 26⟩ [] (hT.trans rfl) (fun z hz => absurd hz List.not_mem_nil) rfl (by decide) (hC.ts qk_L_26) (va_Nw.use rfl (hC.G.2.1 _ q_712)) hce hcv hcl ?_
    refine lv_astore_n (lv' := [(3, .ref q9), (0, .ref ob), (1, .int (iI x0)), (2, .ref ou)]) hx hb dL_removeArticle_12 rfl hl (by decide) rfl (fun ls hl => ?_)
    refine z_iconst hx hb dL_removeArticle_13 ?_
    exact z_iret hC hr hlk hZ (Nat.le_of_ble_eq_true rfl) (Nat.le_of_ble_eq_true rfl) ⟨Fg1, f0, rfl, hou1, Or.inr ⟨0, _, rfl, hpE, rfl⟩⟩ dL_removeArticle_14
  · skip
    obtain ⟨r, rfl, hpr⟩ := hpv
    obtain ⟨hZo1, hdj1⟩ := hfr _ (zdj1 hou) (hZ.ur (zdj1 hou))
    have hZ := hZg1.un hZo1
    have hou1 := zdj1_i hdj1
    refine lv_i2l hx hb dL_removeArticle_7 rfl ?_
    refine z_last hC hZ ((zun_r hou1).trans z1_s) dL_removeArticle_8 (fun H locs hZ => ?_)
    rw [zun_up hou1] at hZ
    refine lv_goto (tgt := 15) hx hb dL_removeArticle_9 (by decide) ?_
    refine z_iconst hx hb dL_removeArticle_15 ?_
    exact z_iret hC hr hlk hZ (Nat.le_of_ble_eq_true rfl) (Nat.le_of_ble_eq_true rfl) ⟨Fg1, _, rfl, hou1, Or.inl ⟨rfl, r, hpr, rfl⟩⟩ dL_removeArticle_16

set_option maxHeartbeats 4000000 in
set_option maxRecDepth 100000 in
theorem wr_correct (l : Launch) (D : va_G) (cs : Nat → ClassId) (A : Nat → Prop) (Fg : zF) (ob ou : Nat) (x0 : Int) (x1 : Int) (f0 : Nat → Int64) {fs : List Value} (hob : Fg ob = some (.inr (15, fs))) (hou : Fg ou = none) {post : Int → zF → Prop} {px : String → zF → Prop} (hM : ∀ A1 : Nat → Prop, zXM l D cs A1 yX12_correct cX12_correct 5 (some FieldType.int) 9 24 210 [.ref ob, .int (iI x0), .int (iI x1)] Fg (pI post) px) (hpx : ∀ (E : String) (F1 : zF), px E F1 → E = "java/util/NoSuchElementException" ∨ E = "java/lang/IndexOutOfBoundsException" ∨ E = "java/lang/UnsupportedOperationException") : zMW l D cs A yL_correct cL_correct 5 (some FieldType.int) [((0 : Nat), (10 : Nat), (13 : Nat), (26 : Nat)), ((0 : Nat), (10 : Nat), (17 : Nat), (32 : Nat)), ((0 : Nat), (10 : Nat), (21 : Nat), (21 : Nat))] 10 24 210 [.ref ob, .int (iI x0), .int (iI x1), .ref ou] (zun Fg (z1 ou (zLa cs f0))) (pI (wPL cs ou ["java/util/NoSuchElementException", "java/lang/IndexOutOfBoundsException", "java/lang/UnsupportedOperationException"] post px)) := by
  refine zW_of (own := RL) (by decide) rfl (Nat.le_of_ble_eq_true rfl) ?_
  intro p e s m below meth c hC hr hlk hT hNc hZ ls hl
  have hx := hC.x
  have hb := hC.b
  have hl : lv_has ls 5 [(0, .ref ob), (1, .int (iI x0)), (2, .int (iI x1)), (3, .ref ou)] := hl
  refine lv_aload_n hx hb dL_correct_0 rfl (lv_at hl 3 rfl) ?_
  refine z_iconst hx hb dL_correct_1 ?_
  refine lv_aload_n hx hb dL_correct_2 rfl (lv_at hl 0 rfl) ?_
  refine lv_iload_n hx hb dL_correct_3 rfl (lv_at hl 1 rfl) ?_
  refine lv_iload_n hx hb dL_correct_4 rfl (lv_at hl 2 rfl) ?_
  have hZg : zS D A s Fg s.heap [] := hZ.ul
  refine z_fcallX hC (z_frX (rest := [.int (iI 0), .ref ou]) (As := [.int (iI x0), .int (iI x1)]) (n := 2) (ci := 15) hC hZg (hM (zfA Fg s.heap)) gv_L_28 hd_X12_correct rfl hob rfl hl rfl (Nat.le_of_ble_eq_true rfl) ⟨Nat.le_of_ble_eq_true rfl, Nat.le_of_ble_eq_true rfl⟩ ⟨Nat.le_of_ble_eq_true rfl, Nat.le_of_ble_eq_true rfl⟩ dL_correct_5) hZg (fun E ce q9 Fg1 H locs hpE hZg1 hfr hce hcv hcl => ?_) (fun v Fg1 H locs hpv hZg1 hfr => ?_)
  · skip
    obtain ⟨hZo1, hdj1⟩ := hfr _ (zdj1 hou) (hZ.ur (zdj1 hou))
    have hZ := hZg1.un hZo1
    have hou1 := zdj1_i hdj1
    rcases hpx E Fg1 hpE with rfl | rfl | rfl
    · skip
      refine vx_catch (name := "java/util/NoSuchElementException") hC.ow [] ⟨0, 10, 13, 26⟩ [⟨0, 10, 17, 32⟩, ⟨0, 10, 21, 21⟩] (hT.trans rfl) (fun z hz => absurd hz List.not_mem_nil) rfl (by decide) (hC.ts qk_L_26) (va_Nw.use rfl (hC.G.2.1 _ q_712)) hce hcv hcl ?_
      refine lv_astore (lv' := [(4, .ref q9), (0, .ref ob), (1, .int (iI x0)), (2, .int (iI x1)), (3, .ref ou)]) hx hb dL_correct_13 hl (by decide) rfl (fun ls hl => ?_)
      refine z_iconst hx hb dL_correct_15 ?_
      exact z_iret hC hr hlk hZ (Nat.le_of_ble_eq_true rfl) (Nat.le_of_ble_eq_true rfl) ⟨Fg1, f0, rfl, hou1, Or.inr ⟨0, _, rfl, hpE, rfl⟩⟩ dL_correct_16
    · skip
      refine vx_catch (name := "java/lang/IndexOutOfBoundsException") hC.ow [⟨0, 10, 13, 26⟩] ⟨0, 10, 17, 32⟩ [⟨0, 10, 21, 21⟩] (hT.trans rfl) (fun z hz => by rw [List.mem_singleton.mp hz]; exact (Or.inr ⟨(by decide), "java/util/NoSuchElementException", hC.ts qk_L_26, hNc _ _ (by decide) (by decide) (by decide)⟩)) rfl (by decide) (hC.ts qk_L_32) (va_Nw.use rfl (hC.G.2.1 _ q_771)) hce hcv hcl ?_
      refine lv_astore (lv' := [(4, .ref q9), (0, .ref ob), (1, .int (iI x0)), (2, .int (iI x1)), (3, .ref ou)]) hx hb dL_correct_17 hl (by decide) rfl (fun ls hl => ?_)
      refine z_iconst hx hb dL_correct_19 ?_
      exact z_iret hC hr hlk hZ (Nat.le_of_ble_eq_true rfl) (Nat.le_of_ble_eq_true rfl) ⟨Fg1, f0, rfl, hou1, Or.inr ⟨1, _, rfl, hpE, rfl⟩⟩ dL_correct_20
    · skip
      refine vx_catch (name := "java/lang/UnsupportedOperationException") hC.ow [⟨0, 10, 13, 26⟩, ⟨0, 10, 17, 32⟩] ⟨0, 10, 21, 21⟩ [] (hT.trans rfl) (fun z hz => by
            rcases List.mem_cons.mp hz with rfl | hz
            · exact (Or.inr ⟨(by decide), "java/util/NoSuchElementException", hC.ts qk_L_26, hNc _ _ (by decide) (by decide) (by decide)⟩)
            · rw [List.mem_singleton.mp hz]; exact (Or.inr ⟨(by decide), "java/lang/IndexOutOfBoundsException", hC.ts qk_L_32, hNc _ _ (by decide) (by decide) (by decide)⟩)) rfl (by decide) (hC.ts qk_L_21) (va_Nw.use rfl (hC.G.2.1 _ q_531)) hce hcv hcl ?_
      refine lv_astore (lv' := [(4, .ref q9), (0, .ref ob), (1, .int (iI x0)), (2, .int (iI x1)), (3, .ref ou)]) hx hb dL_correct_21 hl (by decide) rfl (fun ls hl => ?_)
      refine z_iconst hx hb dL_correct_23 ?_
      exact z_iret hC hr hlk hZ (Nat.le_of_ble_eq_true rfl) (Nat.le_of_ble_eq_true rfl) ⟨Fg1, f0, rfl, hou1, Or.inr ⟨2, _, rfl, hpE, rfl⟩⟩ dL_correct_24
  · skip
    obtain ⟨r, rfl, hpr⟩ := hpv
    obtain ⟨hZo1, hdj1⟩ := hfr _ (zdj1 hou) (hZ.ur (zdj1 hou))
    have hZ := hZg1.un hZo1
    have hou1 := zdj1_i hdj1
    refine lv_i2l hx hb dL_correct_8 rfl ?_
    refine z_last hC hZ ((zun_r hou1).trans z1_s) dL_correct_9 (fun H locs hZ => ?_)
    rw [zun_up hou1] at hZ
    refine lv_goto (tgt := 25) hx hb dL_correct_10 (by decide) ?_
    refine z_iconst hx hb dL_correct_25 ?_
    exact z_iret hC hr hlk hZ (Nat.le_of_ble_eq_true rfl) (Nat.le_of_ble_eq_true rfl) ⟨Fg1, _, rfl, hou1, Or.inl ⟨rfl, r, hpr, rfl⟩⟩ dL_correct_26

set_option maxHeartbeats 4000000 in
set_option maxRecDepth 100000 in
theorem wr_article (l : Launch) (D : va_G) (cs : Nat → ClassId) (A : Nat → Prop) (Fg : zF) (ob ou : Nat) (x0 : Int) (f0 : Nat → Int64) {fs : List Value} (hob : Fg ob = some (.inr (15, fs))) (hou : Fg ou = none) {post : Int → zF → Prop} {px : String → zF → Prop} (hM : ∀ A1 : Nat → Prop, zXM l D cs A1 yX12_article cX12_article 2 (some FieldType.int) 6 1 6 [.ref ob, .int (iI x0)] Fg (pI post) px) (hpx : ∀ (E : String) (F1 : zF), px E F1 → E = "java/lang/IndexOutOfBoundsException") : zMW l D cs A yL_article cL_article 4 (some FieldType.int) [((0 : Nat), (9 : Nat), (12 : Nat), (32 : Nat))] 7 1 6 [.ref ob, .int (iI x0), .ref ou] (zun Fg (z1 ou (zLa cs f0))) (pI (wPL cs ou ["java/lang/IndexOutOfBoundsException"] post px)) := by
  refine zW_of (own := RL) (by decide) rfl (Nat.le_of_ble_eq_true rfl) ?_
  intro p e s m below meth c hC hr hlk hT hNc hZ ls hl
  have hx := hC.x
  have hb := hC.b
  have hl : lv_has ls 4 [(0, .ref ob), (1, .int (iI x0)), (2, .ref ou)] := hl
  refine lv_aload_n hx hb dL_article_0 rfl (lv_at hl 2 rfl) ?_
  refine z_iconst hx hb dL_article_1 ?_
  refine lv_aload_n hx hb dL_article_2 rfl (lv_at hl 0 rfl) ?_
  refine lv_iload_n hx hb dL_article_3 rfl (lv_at hl 1 rfl) ?_
  have hZg : zS D A s Fg s.heap [] := hZ.ul
  refine z_fcallX hC (z_frX (rest := [.int (iI 0), .ref ou]) (As := [.int (iI x0)]) (n := 1) (ci := 15) hC hZg (hM (zfA Fg s.heap)) gv_L_34 hd_X12_article rfl hob rfl hl rfl (Nat.le_of_ble_eq_true rfl) ⟨Nat.le_of_ble_eq_true rfl, Nat.le_of_ble_eq_true rfl⟩ ⟨Nat.le_of_ble_eq_true rfl, Nat.le_of_ble_eq_true rfl⟩ dL_article_4) hZg (fun E ce q9 Fg1 H locs hpE hZg1 hfr hce hcv hcl => ?_) (fun v Fg1 H locs hpv hZg1 hfr => ?_)
  · skip
    obtain ⟨hZo1, hdj1⟩ := hfr _ (zdj1 hou) (hZ.ur (zdj1 hou))
    have hZ := hZg1.un hZo1
    have hou1 := zdj1_i hdj1
    rcases hpx E Fg1 hpE with rfl
    refine vx_catch (name := "java/lang/IndexOutOfBoundsException") hC.ow [] ⟨0, 9, 12, 32⟩ [] (hT.trans rfl) (fun z hz => absurd hz List.not_mem_nil) rfl (by decide) (hC.ts qk_L_32) (va_Nw.use rfl (hC.G.2.1 _ q_771)) hce hcv hcl ?_
    refine lv_astore_n (lv' := [(3, .ref q9), (0, .ref ob), (1, .int (iI x0)), (2, .ref ou)]) hx hb dL_article_12 rfl hl (by decide) rfl (fun ls hl => ?_)
    refine z_iconst hx hb dL_article_13 ?_
    exact z_iret hC hr hlk hZ (Nat.le_of_ble_eq_true rfl) (Nat.le_of_ble_eq_true rfl) ⟨Fg1, f0, rfl, hou1, Or.inr ⟨0, _, rfl, hpE, rfl⟩⟩ dL_article_14
  · skip
    obtain ⟨r, rfl, hpr⟩ := hpv
    obtain ⟨hZo1, hdj1⟩ := hfr _ (zdj1 hou) (hZ.ur (zdj1 hou))
    have hZ := hZg1.un hZo1
    have hou1 := zdj1_i hdj1
    refine lv_i2l hx hb dL_article_7 rfl ?_
    refine z_last hC hZ ((zun_r hou1).trans z1_s) dL_article_8 (fun H locs hZ => ?_)
    rw [zun_up hou1] at hZ
    refine lv_goto (tgt := 15) hx hb dL_article_9 (by decide) ?_
    refine z_iconst hx hb dL_article_15 ?_
    exact z_iret hC hr hlk hZ (Nat.le_of_ble_eq_true rfl) (Nat.le_of_ble_eq_true rfl) ⟨Fg1, _, rfl, hou1, Or.inl ⟨rfl, r, hpr, rfl⟩⟩ dL_article_16

set_option maxHeartbeats 4000000 in
set_option maxRecDepth 100000 in
theorem wr_articleByPriority (l : Launch) (D : va_G) (cs : Nat → ClassId) (A : Nat → Prop) (Fg : zF) (ob ou : Nat) (x0 : Int) (f0 : Nat → Int64) {fs : List Value} (hob : Fg ob = some (.inr (15, fs))) (hou : Fg ou = none) {post : Int → zF → Prop} {px : String → zF → Prop} (hM : ∀ A1 : Nat → Prop, zXM l D cs A1 yX12_articleByPriority cX12_articleByPriority 3 (some FieldType.int) 6 1 6 [.ref ob, .int (iI x0)] Fg (pI post) px) (hpx : ∀ (E : String) (F1 : zF), px E F1 → E = "java/lang/IndexOutOfBoundsException") : zMW l D cs A yL_articleByPriority cL_articleByPriority 4 (some FieldType.int) [((0 : Nat), (9 : Nat), (12 : Nat), (32 : Nat))] 7 1 6 [.ref ob, .int (iI x0), .ref ou] (zun Fg (z1 ou (zLa cs f0))) (pI (wPL cs ou ["java/lang/IndexOutOfBoundsException"] post px)) := by
  refine zW_of (own := RL) (by decide) rfl (Nat.le_of_ble_eq_true rfl) ?_
  intro p e s m below meth c hC hr hlk hT hNc hZ ls hl
  have hx := hC.x
  have hb := hC.b
  have hl : lv_has ls 4 [(0, .ref ob), (1, .int (iI x0)), (2, .ref ou)] := hl
  refine lv_aload_n hx hb dL_articleByPriority_0 rfl (lv_at hl 2 rfl) ?_
  refine z_iconst hx hb dL_articleByPriority_1 ?_
  refine lv_aload_n hx hb dL_articleByPriority_2 rfl (lv_at hl 0 rfl) ?_
  refine lv_iload_n hx hb dL_articleByPriority_3 rfl (lv_at hl 1 rfl) ?_
  have hZg : zS D A s Fg s.heap [] := hZ.ul
  refine z_fcallX hC (z_frX (rest := [.int (iI 0), .ref ou]) (As := [.int (iI x0)]) (n := 1) (ci := 15) hC hZg (hM (zfA Fg s.heap)) gv_L_37 hd_X12_articleByPriority rfl hob rfl hl rfl (Nat.le_of_ble_eq_true rfl) ⟨Nat.le_of_ble_eq_true rfl, Nat.le_of_ble_eq_true rfl⟩ ⟨Nat.le_of_ble_eq_true rfl, Nat.le_of_ble_eq_true rfl⟩ dL_articleByPriority_4) hZg (fun E ce q9 Fg1 H locs hpE hZg1 hfr hce hcv hcl => ?_) (fun v Fg1 H locs hpv hZg1 hfr => ?_)
  · skip
    obtain ⟨hZo1, hdj1⟩ := hfr _ (zdj1 hou) (hZ.ur (zdj1 hou))
    have hZ := hZg1.un hZo1
    have hou1 := zdj1_i hdj1
    rcases hpx E Fg1 hpE with rfl
    refine vx_catch (name := "java/lang/IndexOutOfBoundsException") hC.ow [] ⟨0, 9, 12, 32⟩ [] (hT.trans rfl) (fun z hz => absurd hz List.not_mem_nil) rfl (by decide) (hC.ts qk_L_32) (va_Nw.use rfl (hC.G.2.1 _ q_771)) hce hcv hcl ?_
    refine lv_astore_n (lv' := [(3, .ref q9), (0, .ref ob), (1, .int (iI x0)), (2, .ref ou)]) hx hb dL_articleByPriority_12 rfl hl (by decide) rfl (fun ls hl => ?_)
    refine z_iconst hx hb dL_articleByPriority_13 ?_
    exact z_iret hC hr hlk hZ (Nat.le_of_ble_eq_true rfl) (Nat.le_of_ble_eq_true rfl) ⟨Fg1, f0, rfl, hou1, Or.inr ⟨0, _, rfl, hpE, rfl⟩⟩ dL_articleByPriority_14
  · skip
    obtain ⟨r, rfl, hpr⟩ := hpv
    obtain ⟨hZo1, hdj1⟩ := hfr _ (zdj1 hou) (hZ.ur (zdj1 hou))
    have hZ := hZg1.un hZo1
    have hou1 := zdj1_i hdj1
    refine lv_i2l hx hb dL_articleByPriority_7 rfl ?_
    refine z_last hC hZ ((zun_r hou1).trans z1_s) dL_articleByPriority_8 (fun H locs hZ => ?_)
    rw [zun_up hou1] at hZ
    refine lv_goto (tgt := 15) hx hb dL_articleByPriority_9 (by decide) ?_
    refine z_iconst hx hb dL_articleByPriority_15 ?_
    exact z_iret hC hr hlk hZ (Nat.le_of_ble_eq_true rfl) (Nat.le_of_ble_eq_true rfl) ⟨Fg1, _, rfl, hou1, Or.inl ⟨rfl, r, hpr, rfl⟩⟩ dL_articleByPriority_16

set_option maxHeartbeats 4000000 in
set_option maxRecDepth 100000 in
theorem wr_priority (l : Launch) (D : va_G) (cs : Nat → ClassId) (A : Nat → Prop) (Fg : zF) (ob ou : Nat) (x0 : Int) (f0 : Nat → Int64) {fs : List Value} (hob : Fg ob = some (.inr (15, fs))) (hou : Fg ou = none) {post : Int → zF → Prop} {px : String → zF → Prop} (hM : ∀ A1 : Nat → Prop, zXM l D cs A1 yX12_priority cX12_priority 2 (some FieldType.int) 7 1 6 [.ref ob, .int (iI x0)] Fg (pI post) px) (hpx : ∀ (E : String) (F1 : zF), px E F1 → E = "java/util/NoSuchElementException") : zMW l D cs A yL_priority cL_priority 4 (some FieldType.int) [((0 : Nat), (9 : Nat), (12 : Nat), (26 : Nat))] 8 1 6 [.ref ob, .int (iI x0), .ref ou] (zun Fg (z1 ou (zLa cs f0))) (pI (wPL cs ou ["java/util/NoSuchElementException"] post px)) := by
  refine zW_of (own := RL) (by decide) rfl (Nat.le_of_ble_eq_true rfl) ?_
  intro p e s m below meth c hC hr hlk hT hNc hZ ls hl
  have hx := hC.x
  have hb := hC.b
  have hl : lv_has ls 4 [(0, .ref ob), (1, .int (iI x0)), (2, .ref ou)] := hl
  refine lv_aload_n hx hb dL_priority_0 rfl (lv_at hl 2 rfl) ?_
  refine z_iconst hx hb dL_priority_1 ?_
  refine lv_aload_n hx hb dL_priority_2 rfl (lv_at hl 0 rfl) ?_
  refine lv_iload_n hx hb dL_priority_3 rfl (lv_at hl 1 rfl) ?_
  have hZg : zS D A s Fg s.heap [] := hZ.ul
  refine z_fcallX hC (z_frX (rest := [.int (iI 0), .ref ou]) (As := [.int (iI x0)]) (n := 1) (ci := 15) hC hZg (hM (zfA Fg s.heap)) gv_L_40 hd_X12_priority rfl hob rfl hl rfl (Nat.le_of_ble_eq_true rfl) ⟨Nat.le_of_ble_eq_true rfl, Nat.le_of_ble_eq_true rfl⟩ ⟨Nat.le_of_ble_eq_true rfl, Nat.le_of_ble_eq_true rfl⟩ dL_priority_4) hZg (fun E ce q9 Fg1 H locs hpE hZg1 hfr hce hcv hcl => ?_) (fun v Fg1 H locs hpv hZg1 hfr => ?_)
  · skip
    obtain ⟨hZo1, hdj1⟩ := hfr _ (zdj1 hou) (hZ.ur (zdj1 hou))
    have hZ := hZg1.un hZo1
    have hou1 := zdj1_i hdj1
    rcases hpx E Fg1 hpE with rfl
    refine vx_catch (name := "java/util/NoSuchElementException") hC.ow [] ⟨0, 9, 12, 26⟩ [] (hT.trans rfl) (fun z hz => absurd hz List.not_mem_nil) rfl (by decide) (hC.ts qk_L_26) (va_Nw.use rfl (hC.G.2.1 _ q_712)) hce hcv hcl ?_
    refine lv_astore_n (lv' := [(3, .ref q9), (0, .ref ob), (1, .int (iI x0)), (2, .ref ou)]) hx hb dL_priority_12 rfl hl (by decide) rfl (fun ls hl => ?_)
    refine z_iconst hx hb dL_priority_13 ?_
    exact z_iret hC hr hlk hZ (Nat.le_of_ble_eq_true rfl) (Nat.le_of_ble_eq_true rfl) ⟨Fg1, f0, rfl, hou1, Or.inr ⟨0, _, rfl, hpE, rfl⟩⟩ dL_priority_14
  · skip
    obtain ⟨r, rfl, hpr⟩ := hpv
    obtain ⟨hZo1, hdj1⟩ := hfr _ (zdj1 hou) (hZ.ur (zdj1 hou))
    have hZ := hZg1.un hZo1
    have hou1 := zdj1_i hdj1
    refine lv_i2l hx hb dL_priority_7 rfl ?_
    refine z_last hC hZ ((zun_r hou1).trans z1_s) dL_priority_8 (fun H locs hZ => ?_)
    rw [zun_up hou1] at hZ
    refine lv_goto (tgt := 15) hx hb dL_priority_9 (by decide) ?_
    refine z_iconst hx hb dL_priority_15 ?_
    exact z_iret hC hr hlk hZ (Nat.le_of_ble_eq_true rfl) (Nat.le_of_ble_eq_true rfl) ⟨Fg1, _, rfl, hou1, Or.inl ⟨rfl, r, hpr, rfl⟩⟩ dL_priority_16

set_option maxHeartbeats 4000000 in
set_option maxRecDepth 100000 in
theorem wr_wordCount (l : Launch) (D : va_G) (cs : Nat → ClassId) (A : Nat → Prop) (Fg : zF) (ob ou : Nat) (x0 : Int) (f0 : Nat → Int64) {fs : List Value} (hob : Fg ob = some (.inr (15, fs))) (hou : Fg ou = none) {post : Int → zF → Prop} {px : String → zF → Prop} (hM : ∀ A1 : Nat → Prop, zXM l D cs A1 yX12_wordCount cX12_wordCount 2 (some FieldType.int) 7 1 6 [.ref ob, .int (iI x0)] Fg (pI post) px) (hpx : ∀ (E : String) (F1 : zF), px E F1 → E = "java/util/NoSuchElementException") : zMW l D cs A yL_wordCount cL_wordCount 4 (some FieldType.int) [((0 : Nat), (9 : Nat), (12 : Nat), (26 : Nat))] 8 1 6 [.ref ob, .int (iI x0), .ref ou] (zun Fg (z1 ou (zLa cs f0))) (pI (wPL cs ou ["java/util/NoSuchElementException"] post px)) := by
  refine zW_of (own := RL) (by decide) rfl (Nat.le_of_ble_eq_true rfl) ?_
  intro p e s m below meth c hC hr hlk hT hNc hZ ls hl
  have hx := hC.x
  have hb := hC.b
  have hl : lv_has ls 4 [(0, .ref ob), (1, .int (iI x0)), (2, .ref ou)] := hl
  refine lv_aload_n hx hb dL_wordCount_0 rfl (lv_at hl 2 rfl) ?_
  refine z_iconst hx hb dL_wordCount_1 ?_
  refine lv_aload_n hx hb dL_wordCount_2 rfl (lv_at hl 0 rfl) ?_
  refine lv_iload_n hx hb dL_wordCount_3 rfl (lv_at hl 1 rfl) ?_
  have hZg : zS D A s Fg s.heap [] := hZ.ul
  refine z_fcallX hC (z_frX (rest := [.int (iI 0), .ref ou]) (As := [.int (iI x0)]) (n := 1) (ci := 15) hC hZg (hM (zfA Fg s.heap)) gv_L_43 hd_X12_wordCount rfl hob rfl hl rfl (Nat.le_of_ble_eq_true rfl) ⟨Nat.le_of_ble_eq_true rfl, Nat.le_of_ble_eq_true rfl⟩ ⟨Nat.le_of_ble_eq_true rfl, Nat.le_of_ble_eq_true rfl⟩ dL_wordCount_4) hZg (fun E ce q9 Fg1 H locs hpE hZg1 hfr hce hcv hcl => ?_) (fun v Fg1 H locs hpv hZg1 hfr => ?_)
  · skip
    obtain ⟨hZo1, hdj1⟩ := hfr _ (zdj1 hou) (hZ.ur (zdj1 hou))
    have hZ := hZg1.un hZo1
    have hou1 := zdj1_i hdj1
    rcases hpx E Fg1 hpE with rfl
    refine vx_catch (name := "java/util/NoSuchElementException") hC.ow [] ⟨0, 9, 12, 26⟩ [] (hT.trans rfl) (fun z hz => absurd hz List.not_mem_nil) rfl (by decide) (hC.ts qk_L_26) (va_Nw.use rfl (hC.G.2.1 _ q_712)) hce hcv hcl ?_
    refine lv_astore_n (lv' := [(3, .ref q9), (0, .ref ob), (1, .int (iI x0)), (2, .ref ou)]) hx hb dL_wordCount_12 rfl hl (by decide) rfl (fun ls hl => ?_)
    refine z_iconst hx hb dL_wordCount_13 ?_
    exact z_iret hC hr hlk hZ (Nat.le_of_ble_eq_true rfl) (Nat.le_of_ble_eq_true rfl) ⟨Fg1, f0, rfl, hou1, Or.inr ⟨0, _, rfl, hpE, rfl⟩⟩ dL_wordCount_14
  · skip
    obtain ⟨r, rfl, hpr⟩ := hpv
    obtain ⟨hZo1, hdj1⟩ := hfr _ (zdj1 hou) (hZ.ur (zdj1 hou))
    have hZ := hZg1.un hZo1
    have hou1 := zdj1_i hdj1
    refine lv_i2l hx hb dL_wordCount_7 rfl ?_
    refine z_last hC hZ ((zun_r hou1).trans z1_s) dL_wordCount_8 (fun H locs hZ => ?_)
    rw [zun_up hou1] at hZ
    refine lv_goto (tgt := 15) hx hb dL_wordCount_9 (by decide) ?_
    refine z_iconst hx hb dL_wordCount_15 ?_
    exact z_iret hC hr hlk hZ (Nat.le_of_ble_eq_true rfl) (Nat.le_of_ble_eq_true rfl) ⟨Fg1, _, rfl, hou1, Or.inl ⟨rfl, r, hpr, rfl⟩⟩ dL_wordCount_16

set_option maxHeartbeats 4000000 in
set_option maxRecDepth 100000 in
theorem wr_wordLength (l : Launch) (D : va_G) (cs : Nat → ClassId) (A : Nat → Prop) (Fg : zF) (ob ou : Nat) (x0 : Int) (x1 : Int) (f0 : Nat → Int64) {fs : List Value} (hob : Fg ob = some (.inr (15, fs))) (hou : Fg ou = none) {post : Int → zF → Prop} {px : String → zF → Prop} (hM : ∀ A1 : Nat → Prop, zXM l D cs A1 yX12_wordLength cX12_wordLength 3 (some FieldType.int) 8 2 12 [.ref ob, .int (iI x0), .int (iI x1)] Fg (pI post) px) (hpx : ∀ (E : String) (F1 : zF), px E F1 → E = "java/util/NoSuchElementException" ∨ E = "java/lang/IndexOutOfBoundsException") : zMW l D cs A yL_wordLength cL_wordLength 5 (some FieldType.int) [((0 : Nat), (10 : Nat), (13 : Nat), (26 : Nat)), ((0 : Nat), (10 : Nat), (17 : Nat), (32 : Nat))] 9 2 12 [.ref ob, .int (iI x0), .int (iI x1), .ref ou] (zun Fg (z1 ou (zLa cs f0))) (pI (wPL cs ou ["java/util/NoSuchElementException", "java/lang/IndexOutOfBoundsException"] post px)) := by
  refine zW_of (own := RL) (by decide) rfl (Nat.le_of_ble_eq_true rfl) ?_
  intro p e s m below meth c hC hr hlk hT hNc hZ ls hl
  have hx := hC.x
  have hb := hC.b
  have hl : lv_has ls 5 [(0, .ref ob), (1, .int (iI x0)), (2, .int (iI x1)), (3, .ref ou)] := hl
  refine lv_aload_n hx hb dL_wordLength_0 rfl (lv_at hl 3 rfl) ?_
  refine z_iconst hx hb dL_wordLength_1 ?_
  refine lv_aload_n hx hb dL_wordLength_2 rfl (lv_at hl 0 rfl) ?_
  refine lv_iload_n hx hb dL_wordLength_3 rfl (lv_at hl 1 rfl) ?_
  refine lv_iload_n hx hb dL_wordLength_4 rfl (lv_at hl 2 rfl) ?_
  have hZg : zS D A s Fg s.heap [] := hZ.ul
  refine z_fcallX hC (z_frX (rest := [.int (iI 0), .ref ou]) (As := [.int (iI x0), .int (iI x1)]) (n := 2) (ci := 15) hC hZg (hM (zfA Fg s.heap)) gv_L_46 hd_X12_wordLength rfl hob rfl hl rfl (Nat.le_of_ble_eq_true rfl) ⟨Nat.le_of_ble_eq_true rfl, Nat.le_of_ble_eq_true rfl⟩ ⟨Nat.le_of_ble_eq_true rfl, Nat.le_of_ble_eq_true rfl⟩ dL_wordLength_5) hZg (fun E ce q9 Fg1 H locs hpE hZg1 hfr hce hcv hcl => ?_) (fun v Fg1 H locs hpv hZg1 hfr => ?_)
  · skip
    obtain ⟨hZo1, hdj1⟩ := hfr _ (zdj1 hou) (hZ.ur (zdj1 hou))
    have hZ := hZg1.un hZo1
    have hou1 := zdj1_i hdj1
    rcases hpx E Fg1 hpE with rfl | rfl
    · skip
      refine vx_catch (name := "java/util/NoSuchElementException") hC.ow [] ⟨0, 10, 13, 26⟩ [⟨0, 10, 17, 32⟩] (hT.trans rfl) (fun z hz => absurd hz List.not_mem_nil) rfl (by decide) (hC.ts qk_L_26) (va_Nw.use rfl (hC.G.2.1 _ q_712)) hce hcv hcl ?_
      refine lv_astore (lv' := [(4, .ref q9), (0, .ref ob), (1, .int (iI x0)), (2, .int (iI x1)), (3, .ref ou)]) hx hb dL_wordLength_13 hl (by decide) rfl (fun ls hl => ?_)
      refine z_iconst hx hb dL_wordLength_15 ?_
      exact z_iret hC hr hlk hZ (Nat.le_of_ble_eq_true rfl) (Nat.le_of_ble_eq_true rfl) ⟨Fg1, f0, rfl, hou1, Or.inr ⟨0, _, rfl, hpE, rfl⟩⟩ dL_wordLength_16
    · skip
      refine vx_catch (name := "java/lang/IndexOutOfBoundsException") hC.ow [⟨0, 10, 13, 26⟩] ⟨0, 10, 17, 32⟩ [] (hT.trans rfl) (fun z hz => by rw [List.mem_singleton.mp hz]; exact (Or.inr ⟨(by decide), "java/util/NoSuchElementException", hC.ts qk_L_26, hNc _ _ (by decide) (by decide) (by decide)⟩)) rfl (by decide) (hC.ts qk_L_32) (va_Nw.use rfl (hC.G.2.1 _ q_771)) hce hcv hcl ?_
      refine lv_astore (lv' := [(4, .ref q9), (0, .ref ob), (1, .int (iI x0)), (2, .int (iI x1)), (3, .ref ou)]) hx hb dL_wordLength_17 hl (by decide) rfl (fun ls hl => ?_)
      refine z_iconst hx hb dL_wordLength_19 ?_
      exact z_iret hC hr hlk hZ (Nat.le_of_ble_eq_true rfl) (Nat.le_of_ble_eq_true rfl) ⟨Fg1, f0, rfl, hou1, Or.inr ⟨1, _, rfl, hpE, rfl⟩⟩ dL_wordLength_20
  · skip
    obtain ⟨r, rfl, hpr⟩ := hpv
    obtain ⟨hZo1, hdj1⟩ := hfr _ (zdj1 hou) (hZ.ur (zdj1 hou))
    have hZ := hZg1.un hZo1
    have hou1 := zdj1_i hdj1
    refine lv_i2l hx hb dL_wordLength_8 rfl ?_
    refine z_last hC hZ ((zun_r hou1).trans z1_s) dL_wordLength_9 (fun H locs hZ => ?_)
    rw [zun_up hou1] at hZ
    refine lv_goto (tgt := 21) hx hb dL_wordLength_10 (by decide) ?_
    refine z_iconst hx hb dL_wordLength_21 ?_
    exact z_iret hC hr hlk hZ (Nat.le_of_ble_eq_true rfl) (Nat.le_of_ble_eq_true rfl) ⟨Fg1, _, rfl, hou1, Or.inl ⟨rfl, r, hpr, rfl⟩⟩ dL_wordLength_22

set_option maxHeartbeats 4000000 in
set_option maxRecDepth 100000 in
theorem wr_divisions (l : Launch) (D : va_G) (cs : Nat → ClassId) (A : Nat → Prop) (Fg : zF) (ob ou : Nat) (x0 : Int) (x1 : Int) (f0 : Nat → Int64) {fs : List Value} (hob : Fg ob = some (.inr (15, fs))) (hou : Fg ou = none) {post : Int → zF → Prop} {px : String → zF → Prop} (hM : ∀ A1 : Nat → Prop, zXM l D cs A1 yX12_divisions cX12_divisions 3 (some FieldType.int) 8 2 12 [.ref ob, .int (iI x0), .int (iI x1)] Fg (pI post) px) (hpx : ∀ (E : String) (F1 : zF), px E F1 → E = "java/util/NoSuchElementException" ∨ E = "java/lang/IndexOutOfBoundsException") : zMW l D cs A yL_divisions cL_divisions 5 (some FieldType.int) [((0 : Nat), (10 : Nat), (13 : Nat), (26 : Nat)), ((0 : Nat), (10 : Nat), (17 : Nat), (32 : Nat))] 9 2 12 [.ref ob, .int (iI x0), .int (iI x1), .ref ou] (zun Fg (z1 ou (zLa cs f0))) (pI (wPL cs ou ["java/util/NoSuchElementException", "java/lang/IndexOutOfBoundsException"] post px)) := by
  refine zW_of (own := RL) (by decide) rfl (Nat.le_of_ble_eq_true rfl) ?_
  intro p e s m below meth c hC hr hlk hT hNc hZ ls hl
  have hx := hC.x
  have hb := hC.b
  have hl : lv_has ls 5 [(0, .ref ob), (1, .int (iI x0)), (2, .int (iI x1)), (3, .ref ou)] := hl
  refine lv_aload_n hx hb dL_divisions_0 rfl (lv_at hl 3 rfl) ?_
  refine z_iconst hx hb dL_divisions_1 ?_
  refine lv_aload_n hx hb dL_divisions_2 rfl (lv_at hl 0 rfl) ?_
  refine lv_iload_n hx hb dL_divisions_3 rfl (lv_at hl 1 rfl) ?_
  refine lv_iload_n hx hb dL_divisions_4 rfl (lv_at hl 2 rfl) ?_
  have hZg : zS D A s Fg s.heap [] := hZ.ul
  refine z_fcallX hC (z_frX (rest := [.int (iI 0), .ref ou]) (As := [.int (iI x0), .int (iI x1)]) (n := 2) (ci := 15) hC hZg (hM (zfA Fg s.heap)) gv_L_49 hd_X12_divisions rfl hob rfl hl rfl (Nat.le_of_ble_eq_true rfl) ⟨Nat.le_of_ble_eq_true rfl, Nat.le_of_ble_eq_true rfl⟩ ⟨Nat.le_of_ble_eq_true rfl, Nat.le_of_ble_eq_true rfl⟩ dL_divisions_5) hZg (fun E ce q9 Fg1 H locs hpE hZg1 hfr hce hcv hcl => ?_) (fun v Fg1 H locs hpv hZg1 hfr => ?_)
  · skip
    obtain ⟨hZo1, hdj1⟩ := hfr _ (zdj1 hou) (hZ.ur (zdj1 hou))
    have hZ := hZg1.un hZo1
    have hou1 := zdj1_i hdj1
    rcases hpx E Fg1 hpE with rfl | rfl
    · skip
      refine vx_catch (name := "java/util/NoSuchElementException") hC.ow [] ⟨0, 10, 13, 26⟩ [⟨0, 10, 17, 32⟩] (hT.trans rfl) (fun z hz => absurd hz List.not_mem_nil) rfl (by decide) (hC.ts qk_L_26) (va_Nw.use rfl (hC.G.2.1 _ q_712)) hce hcv hcl ?_
      refine lv_astore (lv' := [(4, .ref q9), (0, .ref ob), (1, .int (iI x0)), (2, .int (iI x1)), (3, .ref ou)]) hx hb dL_divisions_13 hl (by decide) rfl (fun ls hl => ?_)
      refine z_iconst hx hb dL_divisions_15 ?_
      exact z_iret hC hr hlk hZ (Nat.le_of_ble_eq_true rfl) (Nat.le_of_ble_eq_true rfl) ⟨Fg1, f0, rfl, hou1, Or.inr ⟨0, _, rfl, hpE, rfl⟩⟩ dL_divisions_16
    · skip
      refine vx_catch (name := "java/lang/IndexOutOfBoundsException") hC.ow [⟨0, 10, 13, 26⟩] ⟨0, 10, 17, 32⟩ [] (hT.trans rfl) (fun z hz => by rw [List.mem_singleton.mp hz]; exact (Or.inr ⟨(by decide), "java/util/NoSuchElementException", hC.ts qk_L_26, hNc _ _ (by decide) (by decide) (by decide)⟩)) rfl (by decide) (hC.ts qk_L_32) (va_Nw.use rfl (hC.G.2.1 _ q_771)) hce hcv hcl ?_
      refine lv_astore (lv' := [(4, .ref q9), (0, .ref ob), (1, .int (iI x0)), (2, .int (iI x1)), (3, .ref ou)]) hx hb dL_divisions_17 hl (by decide) rfl (fun ls hl => ?_)
      refine z_iconst hx hb dL_divisions_19 ?_
      exact z_iret hC hr hlk hZ (Nat.le_of_ble_eq_true rfl) (Nat.le_of_ble_eq_true rfl) ⟨Fg1, f0, rfl, hou1, Or.inr ⟨1, _, rfl, hpE, rfl⟩⟩ dL_divisions_20
  · skip
    obtain ⟨r, rfl, hpr⟩ := hpv
    obtain ⟨hZo1, hdj1⟩ := hfr _ (zdj1 hou) (hZ.ur (zdj1 hou))
    have hZ := hZg1.un hZo1
    have hou1 := zdj1_i hdj1
    refine lv_i2l hx hb dL_divisions_8 rfl ?_
    refine z_last hC hZ ((zun_r hou1).trans z1_s) dL_divisions_9 (fun H locs hZ => ?_)
    rw [zun_up hou1] at hZ
    refine lv_goto (tgt := 21) hx hb dL_divisions_10 (by decide) ?_
    refine z_iconst hx hb dL_divisions_21 ?_
    exact z_iret hC hr hlk hZ (Nat.le_of_ble_eq_true rfl) (Nat.le_of_ble_eq_true rfl) ⟨Fg1, _, rfl, hou1, Or.inl ⟨rfl, r, hpr, rfl⟩⟩ dL_divisions_22

set_option maxHeartbeats 4000000 in
set_option maxRecDepth 100000 in
theorem wr_canDivide (l : Launch) (D : va_G) (cs : Nat → ClassId) (A : Nat → Prop) (Fg : zF) (ob ou : Nat) (x0 : Int) (x1 : Int) (x2 : Int) (f0 : Nat → Int64) {fs : List Value} (hob : Fg ob = some (.inr (15, fs))) (hou : Fg ou = none) {post : Int → zF → Prop} {px : String → zF → Prop} (hM : ∀ A1 : Nat → Prop, zXM l D cs A1 yX12_canDivide cX12_canDivide 4 (some FieldType.boolean) 8 2 12 [.ref ob, .int (iI x0), .int (iI x1), .int (iI x2)] Fg (pI post) px) (hpx : ∀ (E : String) (F1 : zF), px E F1 → E = "java/util/NoSuchElementException" ∨ E = "java/lang/IndexOutOfBoundsException") (h01 : ∀ (r : Int) (F1 : zF), post r F1 → r = 0 ∨ r = 1) : zMW l D cs A yL_canDivide cL_canDivide 6 (some FieldType.int) [((0 : Nat), (19 : Nat), (22 : Nat), (26 : Nat)), ((0 : Nat), (19 : Nat), (26 : Nat), (32 : Nat))] 9 2 12 [.ref ob, .int (iI x0), .int (iI x1), .int (iI x2), .ref ou] (zun Fg (z1 ou (zLa cs f0))) (pI (wPL cs ou ["java/util/NoSuchElementException", "java/lang/IndexOutOfBoundsException"] post px)) := by
  refine zW_of (own := RL) (by decide) rfl (Nat.le_of_ble_eq_true rfl) ?_
  intro p e s m below meth c hC hr hlk hT hNc hZ ls hl
  have hx := hC.x
  have hb := hC.b
  have hl : lv_has ls 6 [(0, .ref ob), (1, .int (iI x0)), (2, .int (iI x1)), (3, .int (iI x2)), (4, .ref ou)] := hl
  refine lv_aload hx hb dL_canDivide_0 (lv_at hl 4 rfl) ?_
  refine z_iconst hx hb dL_canDivide_2 ?_
  refine lv_aload_n hx hb dL_canDivide_3 rfl (lv_at hl 0 rfl) ?_
  refine lv_iload_n hx hb dL_canDivide_4 rfl (lv_at hl 1 rfl) ?_
  refine lv_iload_n hx hb dL_canDivide_5 rfl (lv_at hl 2 rfl) ?_
  refine lv_iload_n hx hb dL_canDivide_6 rfl (lv_at hl 3 rfl) ?_
  have hZg : zS D A s Fg s.heap [] := hZ.ul
  refine z_fcallX hC (z_frX (rest := [.int (iI 0), .ref ou]) (As := [.int (iI x0), .int (iI x1), .int (iI x2)]) (n := 3) (ci := 15) hC hZg (hM (zfA Fg s.heap)) gv_L_52 hd_X12_canDivide rfl hob rfl hl rfl (Nat.le_of_ble_eq_true rfl) ⟨Nat.le_of_ble_eq_true rfl, Nat.le_of_ble_eq_true rfl⟩ ⟨Nat.le_of_ble_eq_true rfl, Nat.le_of_ble_eq_true rfl⟩ dL_canDivide_7) hZg (fun E ce q9 Fg1 H locs hpE hZg1 hfr hce hcv hcl => ?_) (fun v Fg1 H locs hpv hZg1 hfr => ?_)
  · skip
    obtain ⟨hZo1, hdj1⟩ := hfr _ (zdj1 hou) (hZ.ur (zdj1 hou))
    have hZ := hZg1.un hZo1
    have hou1 := zdj1_i hdj1
    rcases hpx E Fg1 hpE with rfl | rfl
    · skip
      refine vx_catch (name := "java/util/NoSuchElementException") hC.ow [] ⟨0, 19, 22, 26⟩ [⟨0, 19, 26, 32⟩] (hT.trans rfl) (fun z hz => absurd hz List.not_mem_nil) rfl (by decide) (hC.ts qk_L_26) (va_Nw.use rfl (hC.G.2.1 _ q_712)) hce hcv hcl ?_
      refine lv_astore (lv' := [(5, .ref q9), (0, .ref ob), (1, .int (iI x0)), (2, .int (iI x1)), (3, .int (iI x2)), (4, .ref ou)]) hx hb dL_canDivide_22 hl (by decide) rfl (fun ls hl => ?_)
      refine z_iconst hx hb dL_canDivide_24 ?_
      exact z_iret hC hr hlk hZ (Nat.le_of_ble_eq_true rfl) (Nat.le_of_ble_eq_true rfl) ⟨Fg1, f0, rfl, hou1, Or.inr ⟨0, _, rfl, hpE, rfl⟩⟩ dL_canDivide_25
    · skip
      refine vx_catch (name := "java/lang/IndexOutOfBoundsException") hC.ow [⟨0, 19, 22, 26⟩] ⟨0, 19, 26, 32⟩ [] (hT.trans rfl) (fun z hz => by rw [List.mem_singleton.mp hz]; exact (Or.inr ⟨(by decide), "java/util/NoSuchElementException", hC.ts qk_L_26, hNc _ _ (by decide) (by decide) (by decide)⟩)) rfl (by decide) (hC.ts qk_L_32) (va_Nw.use rfl (hC.G.2.1 _ q_771)) hce hcv hcl ?_
      refine lv_astore (lv' := [(5, .ref q9), (0, .ref ob), (1, .int (iI x0)), (2, .int (iI x1)), (3, .int (iI x2)), (4, .ref ou)]) hx hb dL_canDivide_26 hl (by decide) rfl (fun ls hl => ?_)
      refine z_iconst hx hb dL_canDivide_28 ?_
      exact z_iret hC hr hlk hZ (Nat.le_of_ble_eq_true rfl) (Nat.le_of_ble_eq_true rfl) ⟨Fg1, f0, rfl, hou1, Or.inr ⟨1, _, rfl, hpE, rfl⟩⟩ dL_canDivide_29
  · skip
    obtain ⟨r, rfl, hpr⟩ := hpv
    obtain ⟨hZo1, hdj1⟩ := hfr _ (zdj1 hou) (hZ.ur (zdj1 hou))
    have hZ := hZg1.un hZo1
    have hou1 := zdj1_i hdj1
    rcases h01 r Fg1 hpr with rfl | rfl
    · skip
      refine z_if_eq (tgt := 17) hx hb dL_canDivide_10 (by decide) (by decide) (fun c9 => ?_) (fun c9 => ?_)
      · skip
        refine lv_lconst hx hb dL_canDivide_17 rfl ?_
        refine z_last hC hZ ((zun_r hou1).trans z1_s) dL_canDivide_18 (fun H locs hZ => ?_)
        rw [zun_up hou1] at hZ
        refine lv_goto (tgt := 30) hx hb dL_canDivide_19 (by decide) ?_
        refine z_iconst hx hb dL_canDivide_30 ?_
        exact z_iret hC hr hlk hZ (Nat.le_of_ble_eq_true rfl) (Nat.le_of_ble_eq_true rfl) ⟨Fg1, _, rfl, hou1, Or.inl ⟨rfl, 0, hpr, rfl⟩⟩ dL_canDivide_31
      · skip
        exact absurd rfl c9
    · skip
      refine z_if_eq (tgt := 17) hx hb dL_canDivide_10 (by decide) (by decide) (fun c9 => ?_) (fun c9 => ?_)
      · skip
        exact absurd c9 (by decide)
      · skip
        refine lv_lconst hx hb dL_canDivide_13 rfl ?_
        refine lv_goto (tgt := 18) hx hb dL_canDivide_14 (by decide) ?_
        refine z_last hC hZ ((zun_r hou1).trans z1_s) dL_canDivide_18 (fun H locs hZ => ?_)
        rw [zun_up hou1] at hZ
        refine lv_goto (tgt := 30) hx hb dL_canDivide_19 (by decide) ?_
        refine z_iconst hx hb dL_canDivide_30 ?_
        exact z_iret hC hr hlk hZ (Nat.le_of_ble_eq_true rfl) (Nat.le_of_ble_eq_true rfl) ⟨Fg1, _, rfl, hou1, Or.inl ⟨rfl, 1, hpr, rfl⟩⟩ dL_canDivide_31

set_option maxHeartbeats 4000000 in
set_option maxRecDepth 100000 in
theorem wr_setWidth (l : Launch) (D : va_G) (cs : Nat → ClassId) (A : Nat → Prop) (Fg : zF) (ob ou : Nat) (x0 : Int) (f0 : Nat → Int64) {fs : List Value} (hob : Fg ob = some (.inr (15, fs))) (hou : Fg ou = none) {post : Int → zF → Prop} {px : String → zF → Prop} (hM : ∀ A1 : Nat → Prop, zXM l D cs A1 yX12_setWidth cX12_setWidth 4 (some FieldType.int) 9 14 131 [.ref ob, .int (iI x0)] Fg (pI post) px) (hpx : ∀ (E : String) (F1 : zF), px E F1 → E = "java/lang/IllegalArgumentException") : zMW l D cs A yL_setWidth cL_setWidth 4 (some FieldType.int) [((0 : Nat), (9 : Nat), (12 : Nat), (13 : Nat))] 10 14 131 [.ref ob, .int (iI x0), .ref ou] (zun Fg (z1 ou (zLa cs f0))) (pI (wPL cs ou ["java/lang/IllegalArgumentException"] post px)) := by
  refine zW_of (own := RL) (by decide) rfl (Nat.le_of_ble_eq_true rfl) ?_
  intro p e s m below meth c hC hr hlk hT hNc hZ ls hl
  have hx := hC.x
  have hb := hC.b
  have hl : lv_has ls 4 [(0, .ref ob), (1, .int (iI x0)), (2, .ref ou)] := hl
  refine lv_aload_n hx hb dL_setWidth_0 rfl (lv_at hl 2 rfl) ?_
  refine z_iconst hx hb dL_setWidth_1 ?_
  refine lv_aload_n hx hb dL_setWidth_2 rfl (lv_at hl 0 rfl) ?_
  refine lv_iload_n hx hb dL_setWidth_3 rfl (lv_at hl 1 rfl) ?_
  have hZg : zS D A s Fg s.heap [] := hZ.ul
  refine z_fcallX hC (z_frX (rest := [.int (iI 0), .ref ou]) (As := [.int (iI x0)]) (n := 1) (ci := 15) hC hZg (hM (zfA Fg s.heap)) gv_L_56 hd_X12_setWidth rfl hob rfl hl rfl (Nat.le_of_ble_eq_true rfl) ⟨Nat.le_of_ble_eq_true rfl, Nat.le_of_ble_eq_true rfl⟩ ⟨Nat.le_of_ble_eq_true rfl, Nat.le_of_ble_eq_true rfl⟩ dL_setWidth_4) hZg (fun E ce q9 Fg1 H locs hpE hZg1 hfr hce hcv hcl => ?_) (fun v Fg1 H locs hpv hZg1 hfr => ?_)
  · skip
    obtain ⟨hZo1, hdj1⟩ := hfr _ (zdj1 hou) (hZ.ur (zdj1 hou))
    have hZ := hZg1.un hZo1
    have hou1 := zdj1_i hdj1
    rcases hpx E Fg1 hpE with rfl
    refine vx_catch (name := "java/lang/IllegalArgumentException") hC.ow [] ⟨0, 9, 12, 13⟩ [] (hT.trans rfl) (fun z hz => absurd hz List.not_mem_nil) rfl (by decide) (hC.ts qk_L_13) (va_Nw.use rfl (hC.G.2.1 _ q_421)) hce hcv hcl ?_
    refine lv_astore_n (lv' := [(3, .ref q9), (0, .ref ob), (1, .int (iI x0)), (2, .ref ou)]) hx hb dL_setWidth_12 rfl hl (by decide) rfl (fun ls hl => ?_)
    refine z_iconst hx hb dL_setWidth_13 ?_
    exact z_iret hC hr hlk hZ (Nat.le_of_ble_eq_true rfl) (Nat.le_of_ble_eq_true rfl) ⟨Fg1, f0, rfl, hou1, Or.inr ⟨0, _, rfl, hpE, rfl⟩⟩ dL_setWidth_14
  · skip
    obtain ⟨r, rfl, hpr⟩ := hpv
    obtain ⟨hZo1, hdj1⟩ := hfr _ (zdj1 hou) (hZ.ur (zdj1 hou))
    have hZ := hZg1.un hZo1
    have hou1 := zdj1_i hdj1
    refine lv_i2l hx hb dL_setWidth_7 rfl ?_
    refine z_last hC hZ ((zun_r hou1).trans z1_s) dL_setWidth_8 (fun H locs hZ => ?_)
    rw [zun_up hou1] at hZ
    refine lv_goto (tgt := 15) hx hb dL_setWidth_9 (by decide) ?_
    refine z_iconst hx hb dL_setWidth_15 ?_
    exact z_iret hC hr hlk hZ (Nat.le_of_ble_eq_true rfl) (Nat.le_of_ble_eq_true rfl) ⟨Fg1, _, rfl, hou1, Or.inl ⟨rfl, r, hpr, rfl⟩⟩ dL_setWidth_16

set_option maxHeartbeats 4000000 in
set_option maxRecDepth 100000 in
theorem wr_canBeSet (l : Launch) (D : va_G) (cs : Nat → ClassId) (A : Nat → Prop) (Fg : zF) (ob ou : Nat) (x0 : Int) (f0 : Nat → Int64) {fs : List Value} (hob : Fg ob = some (.inr (15, fs))) (hou : Fg ou = none) {post : Int → zF → Prop} {px : String → zF → Prop} (hM : ∀ A1 : Nat → Prop, zXM l D cs A1 yX12_canBeSet cX12_canBeSet 2 (some FieldType.boolean) 7 1 6 [.ref ob, .int (iI x0)] Fg (pI post) px) (hpx : ∀ (E : String) (F1 : zF), px E F1 → E = "java/util/NoSuchElementException") (h01 : ∀ (r : Int) (F1 : zF), post r F1 → r = 0 ∨ r = 1) : zMW l D cs A yL_canBeSet cL_canBeSet 4 (some FieldType.int) [((0 : Nat), (16 : Nat), (19 : Nat), (26 : Nat))] 8 1 6 [.ref ob, .int (iI x0), .ref ou] (zun Fg (z1 ou (zLa cs f0))) (pI (wPL cs ou ["java/util/NoSuchElementException"] post px)) := by
  refine zW_of (own := RL) (by decide) rfl (Nat.le_of_ble_eq_true rfl) ?_
  intro p e s m below meth c hC hr hlk hT hNc hZ ls hl
  have hx := hC.x
  have hb := hC.b
  have hl : lv_has ls 4 [(0, .ref ob), (1, .int (iI x0)), (2, .ref ou)] := hl
  refine lv_aload_n hx hb dL_canBeSet_0 rfl (lv_at hl 2 rfl) ?_
  refine z_iconst hx hb dL_canBeSet_1 ?_
  refine lv_aload_n hx hb dL_canBeSet_2 rfl (lv_at hl 0 rfl) ?_
  refine lv_iload_n hx hb dL_canBeSet_3 rfl (lv_at hl 1 rfl) ?_
  have hZg : zS D A s Fg s.heap [] := hZ.ul
  refine z_fcallX hC (z_frX (rest := [.int (iI 0), .ref ou]) (As := [.int (iI x0)]) (n := 1) (ci := 15) hC hZg (hM (zfA Fg s.heap)) gv_L_59 hd_X12_canBeSet rfl hob rfl hl rfl (Nat.le_of_ble_eq_true rfl) ⟨Nat.le_of_ble_eq_true rfl, Nat.le_of_ble_eq_true rfl⟩ ⟨Nat.le_of_ble_eq_true rfl, Nat.le_of_ble_eq_true rfl⟩ dL_canBeSet_4) hZg (fun E ce q9 Fg1 H locs hpE hZg1 hfr hce hcv hcl => ?_) (fun v Fg1 H locs hpv hZg1 hfr => ?_)
  · skip
    obtain ⟨hZo1, hdj1⟩ := hfr _ (zdj1 hou) (hZ.ur (zdj1 hou))
    have hZ := hZg1.un hZo1
    have hou1 := zdj1_i hdj1
    rcases hpx E Fg1 hpE with rfl
    refine vx_catch (name := "java/util/NoSuchElementException") hC.ow [] ⟨0, 16, 19, 26⟩ [] (hT.trans rfl) (fun z hz => absurd hz List.not_mem_nil) rfl (by decide) (hC.ts qk_L_26) (va_Nw.use rfl (hC.G.2.1 _ q_712)) hce hcv hcl ?_
    refine lv_astore_n (lv' := [(3, .ref q9), (0, .ref ob), (1, .int (iI x0)), (2, .ref ou)]) hx hb dL_canBeSet_19 rfl hl (by decide) rfl (fun ls hl => ?_)
    refine z_iconst hx hb dL_canBeSet_20 ?_
    exact z_iret hC hr hlk hZ (Nat.le_of_ble_eq_true rfl) (Nat.le_of_ble_eq_true rfl) ⟨Fg1, f0, rfl, hou1, Or.inr ⟨0, _, rfl, hpE, rfl⟩⟩ dL_canBeSet_21
  · skip
    obtain ⟨r, rfl, hpr⟩ := hpv
    obtain ⟨hZo1, hdj1⟩ := hfr _ (zdj1 hou) (hZ.ur (zdj1 hou))
    have hZ := hZg1.un hZo1
    have hou1 := zdj1_i hdj1
    rcases h01 r Fg1 hpr with rfl | rfl
    · skip
      refine z_if_eq (tgt := 14) hx hb dL_canBeSet_7 (by decide) (by decide) (fun c9 => ?_) (fun c9 => ?_)
      · skip
        refine lv_lconst hx hb dL_canBeSet_14 rfl ?_
        refine z_last hC hZ ((zun_r hou1).trans z1_s) dL_canBeSet_15 (fun H locs hZ => ?_)
        rw [zun_up hou1] at hZ
        refine lv_goto (tgt := 22) hx hb dL_canBeSet_16 (by decide) ?_
        refine z_iconst hx hb dL_canBeSet_22 ?_
        exact z_iret hC hr hlk hZ (Nat.le_of_ble_eq_true rfl) (Nat.le_of_ble_eq_true rfl) ⟨Fg1, _, rfl, hou1, Or.inl ⟨rfl, 0, hpr, rfl⟩⟩ dL_canBeSet_23
      · skip
        exact absurd rfl c9
    · skip
      refine z_if_eq (tgt := 14) hx hb dL_canBeSet_7 (by decide) (by decide) (fun c9 => ?_) (fun c9 => ?_)
      · skip
        exact absurd c9 (by decide)
      · skip
        refine lv_lconst hx hb dL_canBeSet_10 rfl ?_
        refine lv_goto (tgt := 15) hx hb dL_canBeSet_11 (by decide) ?_
        refine z_last hC hZ ((zun_r hou1).trans z1_s) dL_canBeSet_15 (fun H locs hZ => ?_)
        rw [zun_up hou1] at hZ
        refine lv_goto (tgt := 22) hx hb dL_canBeSet_16 (by decide) ?_
        refine z_iconst hx hb dL_canBeSet_22 ?_
        exact z_iret hC hr hlk hZ (Nat.le_of_ble_eq_true rfl) (Nat.le_of_ble_eq_true rfl) ⟨Fg1, _, rfl, hou1, Or.inl ⟨rfl, 1, hpr, rfl⟩⟩ dL_canBeSet_23

set_option maxHeartbeats 4000000 in
set_option maxRecDepth 100000 in
theorem wr_lineCount (l : Launch) (D : va_G) (cs : Nat → ClassId) (A : Nat → Prop) (Fg : zF) (ob ou : Nat) (x0 : Int) (f0 : Nat → Int64) {fs : List Value} (hob : Fg ob = some (.inr (15, fs))) (hou : Fg ou = none) {post : Int → zF → Prop} {px : String → zF → Prop} (hM : ∀ A1 : Nat → Prop, zXM l D cs A1 yX12_lineCount cX12_lineCount 2 (some FieldType.int) 8 2 12 [.ref ob, .int (iI x0)] Fg (pI post) px) (hpx : ∀ (E : String) (F1 : zF), px E F1 → E = "java/util/NoSuchElementException" ∨ E = "java/lang/UnsupportedOperationException") : zMW l D cs A yL_lineCount cL_lineCount 4 (some FieldType.int) [((0 : Nat), (9 : Nat), (12 : Nat), (26 : Nat)), ((0 : Nat), (9 : Nat), (15 : Nat), (21 : Nat))] 9 2 12 [.ref ob, .int (iI x0), .ref ou] (zun Fg (z1 ou (zLa cs f0))) (pI (wPL cs ou ["java/util/NoSuchElementException", "java/lang/UnsupportedOperationException"] post px)) := by
  refine zW_of (own := RL) (by decide) rfl (Nat.le_of_ble_eq_true rfl) ?_
  intro p e s m below meth c hC hr hlk hT hNc hZ ls hl
  have hx := hC.x
  have hb := hC.b
  have hl : lv_has ls 4 [(0, .ref ob), (1, .int (iI x0)), (2, .ref ou)] := hl
  refine lv_aload_n hx hb dL_lineCount_0 rfl (lv_at hl 2 rfl) ?_
  refine z_iconst hx hb dL_lineCount_1 ?_
  refine lv_aload_n hx hb dL_lineCount_2 rfl (lv_at hl 0 rfl) ?_
  refine lv_iload_n hx hb dL_lineCount_3 rfl (lv_at hl 1 rfl) ?_
  have hZg : zS D A s Fg s.heap [] := hZ.ul
  refine z_fcallX hC (z_frX (rest := [.int (iI 0), .ref ou]) (As := [.int (iI x0)]) (n := 1) (ci := 15) hC hZg (hM (zfA Fg s.heap)) gv_L_63 hd_X12_lineCount rfl hob rfl hl rfl (Nat.le_of_ble_eq_true rfl) ⟨Nat.le_of_ble_eq_true rfl, Nat.le_of_ble_eq_true rfl⟩ ⟨Nat.le_of_ble_eq_true rfl, Nat.le_of_ble_eq_true rfl⟩ dL_lineCount_4) hZg (fun E ce q9 Fg1 H locs hpE hZg1 hfr hce hcv hcl => ?_) (fun v Fg1 H locs hpv hZg1 hfr => ?_)
  · skip
    obtain ⟨hZo1, hdj1⟩ := hfr _ (zdj1 hou) (hZ.ur (zdj1 hou))
    have hZ := hZg1.un hZo1
    have hou1 := zdj1_i hdj1
    rcases hpx E Fg1 hpE with rfl | rfl
    · skip
      refine vx_catch (name := "java/util/NoSuchElementException") hC.ow [] ⟨0, 9, 12, 26⟩ [⟨0, 9, 15, 21⟩] (hT.trans rfl) (fun z hz => absurd hz List.not_mem_nil) rfl (by decide) (hC.ts qk_L_26) (va_Nw.use rfl (hC.G.2.1 _ q_712)) hce hcv hcl ?_
      refine lv_astore_n (lv' := [(3, .ref q9), (0, .ref ob), (1, .int (iI x0)), (2, .ref ou)]) hx hb dL_lineCount_12 rfl hl (by decide) rfl (fun ls hl => ?_)
      refine z_iconst hx hb dL_lineCount_13 ?_
      exact z_iret hC hr hlk hZ (Nat.le_of_ble_eq_true rfl) (Nat.le_of_ble_eq_true rfl) ⟨Fg1, f0, rfl, hou1, Or.inr ⟨0, _, rfl, hpE, rfl⟩⟩ dL_lineCount_14
    · skip
      refine vx_catch (name := "java/lang/UnsupportedOperationException") hC.ow [⟨0, 9, 12, 26⟩] ⟨0, 9, 15, 21⟩ [] (hT.trans rfl) (fun z hz => by rw [List.mem_singleton.mp hz]; exact (Or.inr ⟨(by decide), "java/util/NoSuchElementException", hC.ts qk_L_26, hNc _ _ (by decide) (by decide) (by decide)⟩)) rfl (by decide) (hC.ts qk_L_21) (va_Nw.use rfl (hC.G.2.1 _ q_531)) hce hcv hcl ?_
      refine lv_astore_n (lv' := [(3, .ref q9), (0, .ref ob), (1, .int (iI x0)), (2, .ref ou)]) hx hb dL_lineCount_15 rfl hl (by decide) rfl (fun ls hl => ?_)
      refine z_iconst hx hb dL_lineCount_16 ?_
      exact z_iret hC hr hlk hZ (Nat.le_of_ble_eq_true rfl) (Nat.le_of_ble_eq_true rfl) ⟨Fg1, f0, rfl, hou1, Or.inr ⟨1, _, rfl, hpE, rfl⟩⟩ dL_lineCount_17
  · skip
    obtain ⟨r, rfl, hpr⟩ := hpv
    obtain ⟨hZo1, hdj1⟩ := hfr _ (zdj1 hou) (hZ.ur (zdj1 hou))
    have hZ := hZg1.un hZo1
    have hou1 := zdj1_i hdj1
    refine lv_i2l hx hb dL_lineCount_7 rfl ?_
    refine z_last hC hZ ((zun_r hou1).trans z1_s) dL_lineCount_8 (fun H locs hZ => ?_)
    rw [zun_up hou1] at hZ
    refine lv_goto (tgt := 18) hx hb dL_lineCount_9 (by decide) ?_
    refine z_iconst hx hb dL_lineCount_18 ?_
    exact z_iret hC hr hlk hZ (Nat.le_of_ble_eq_true rfl) (Nat.le_of_ble_eq_true rfl) ⟨Fg1, _, rfl, hou1, Or.inl ⟨rfl, r, hpr, rfl⟩⟩ dL_lineCount_19

set_option maxHeartbeats 4000000 in
set_option maxRecDepth 100000 in
theorem wr_lineLength (l : Launch) (D : va_G) (cs : Nat → ClassId) (A : Nat → Prop) (Fg : zF) (ob ou : Nat) (x0 : Int) (x1 : Int) (f0 : Nat → Int64) {fs : List Value} (hob : Fg ob = some (.inr (15, fs))) (hou : Fg ou = none) {post : Int → zF → Prop} {px : String → zF → Prop} (hM : ∀ A1 : Nat → Prop, zXM l D cs A1 yX12_lineLength cX12_lineLength 3 (some FieldType.int) 9 3 18 [.ref ob, .int (iI x0), .int (iI x1)] Fg (pI post) px) (hpx : ∀ (E : String) (F1 : zF), px E F1 → E = "java/util/NoSuchElementException" ∨ E = "java/lang/UnsupportedOperationException" ∨ E = "java/lang/IndexOutOfBoundsException") : zMW l D cs A yL_lineLength cL_lineLength 5 (some FieldType.int) [((0 : Nat), (10 : Nat), (13 : Nat), (26 : Nat)), ((0 : Nat), (10 : Nat), (17 : Nat), (21 : Nat)), ((0 : Nat), (10 : Nat), (21 : Nat), (32 : Nat))] 10 3 18 [.ref ob, .int (iI x0), .int (iI x1), .ref ou] (zun Fg (z1 ou (zLa cs f0))) (pI (wPL cs ou ["java/util/NoSuchElementException", "java/lang/UnsupportedOperationException", "java/lang/IndexOutOfBoundsException"] post px)) := by
  refine zW_of (own := RL) (by decide) rfl (Nat.le_of_ble_eq_true rfl) ?_
  intro p e s m below meth c hC hr hlk hT hNc hZ ls hl
  have hx := hC.x
  have hb := hC.b
  have hl : lv_has ls 5 [(0, .ref ob), (1, .int (iI x0)), (2, .int (iI x1)), (3, .ref ou)] := hl
  refine lv_aload_n hx hb dL_lineLength_0 rfl (lv_at hl 3 rfl) ?_
  refine z_iconst hx hb dL_lineLength_1 ?_
  refine lv_aload_n hx hb dL_lineLength_2 rfl (lv_at hl 0 rfl) ?_
  refine lv_iload_n hx hb dL_lineLength_3 rfl (lv_at hl 1 rfl) ?_
  refine lv_iload_n hx hb dL_lineLength_4 rfl (lv_at hl 2 rfl) ?_
  have hZg : zS D A s Fg s.heap [] := hZ.ul
  refine z_fcallX hC (z_frX (rest := [.int (iI 0), .ref ou]) (As := [.int (iI x0), .int (iI x1)]) (n := 2) (ci := 15) hC hZg (hM (zfA Fg s.heap)) gv_L_66 hd_X12_lineLength rfl hob rfl hl rfl (Nat.le_of_ble_eq_true rfl) ⟨Nat.le_of_ble_eq_true rfl, Nat.le_of_ble_eq_true rfl⟩ ⟨Nat.le_of_ble_eq_true rfl, Nat.le_of_ble_eq_true rfl⟩ dL_lineLength_5) hZg (fun E ce q9 Fg1 H locs hpE hZg1 hfr hce hcv hcl => ?_) (fun v Fg1 H locs hpv hZg1 hfr => ?_)
  · skip
    obtain ⟨hZo1, hdj1⟩ := hfr _ (zdj1 hou) (hZ.ur (zdj1 hou))
    have hZ := hZg1.un hZo1
    have hou1 := zdj1_i hdj1
    rcases hpx E Fg1 hpE with rfl | rfl | rfl
    · skip
      refine vx_catch (name := "java/util/NoSuchElementException") hC.ow [] ⟨0, 10, 13, 26⟩ [⟨0, 10, 17, 21⟩, ⟨0, 10, 21, 32⟩] (hT.trans rfl) (fun z hz => absurd hz List.not_mem_nil) rfl (by decide) (hC.ts qk_L_26) (va_Nw.use rfl (hC.G.2.1 _ q_712)) hce hcv hcl ?_
      refine lv_astore (lv' := [(4, .ref q9), (0, .ref ob), (1, .int (iI x0)), (2, .int (iI x1)), (3, .ref ou)]) hx hb dL_lineLength_13 hl (by decide) rfl (fun ls hl => ?_)
      refine z_iconst hx hb dL_lineLength_15 ?_
      exact z_iret hC hr hlk hZ (Nat.le_of_ble_eq_true rfl) (Nat.le_of_ble_eq_true rfl) ⟨Fg1, f0, rfl, hou1, Or.inr ⟨0, _, rfl, hpE, rfl⟩⟩ dL_lineLength_16
    · skip
      refine vx_catch (name := "java/lang/UnsupportedOperationException") hC.ow [⟨0, 10, 13, 26⟩] ⟨0, 10, 17, 21⟩ [⟨0, 10, 21, 32⟩] (hT.trans rfl) (fun z hz => by rw [List.mem_singleton.mp hz]; exact (Or.inr ⟨(by decide), "java/util/NoSuchElementException", hC.ts qk_L_26, hNc _ _ (by decide) (by decide) (by decide)⟩)) rfl (by decide) (hC.ts qk_L_21) (va_Nw.use rfl (hC.G.2.1 _ q_531)) hce hcv hcl ?_
      refine lv_astore (lv' := [(4, .ref q9), (0, .ref ob), (1, .int (iI x0)), (2, .int (iI x1)), (3, .ref ou)]) hx hb dL_lineLength_17 hl (by decide) rfl (fun ls hl => ?_)
      refine z_iconst hx hb dL_lineLength_19 ?_
      exact z_iret hC hr hlk hZ (Nat.le_of_ble_eq_true rfl) (Nat.le_of_ble_eq_true rfl) ⟨Fg1, f0, rfl, hou1, Or.inr ⟨1, _, rfl, hpE, rfl⟩⟩ dL_lineLength_20
    · skip
      refine vx_catch (name := "java/lang/IndexOutOfBoundsException") hC.ow [⟨0, 10, 13, 26⟩, ⟨0, 10, 17, 21⟩] ⟨0, 10, 21, 32⟩ [] (hT.trans rfl) (fun z hz => by
            rcases List.mem_cons.mp hz with rfl | hz
            · exact (Or.inr ⟨(by decide), "java/util/NoSuchElementException", hC.ts qk_L_26, hNc _ _ (by decide) (by decide) (by decide)⟩)
            · rw [List.mem_singleton.mp hz]; exact (Or.inr ⟨(by decide), "java/lang/UnsupportedOperationException", hC.ts qk_L_21, hNc _ _ (by decide) (by decide) (by decide)⟩)) rfl (by decide) (hC.ts qk_L_32) (va_Nw.use rfl (hC.G.2.1 _ q_771)) hce hcv hcl ?_
      refine lv_astore (lv' := [(4, .ref q9), (0, .ref ob), (1, .int (iI x0)), (2, .int (iI x1)), (3, .ref ou)]) hx hb dL_lineLength_21 hl (by decide) rfl (fun ls hl => ?_)
      refine z_iconst hx hb dL_lineLength_23 ?_
      exact z_iret hC hr hlk hZ (Nat.le_of_ble_eq_true rfl) (Nat.le_of_ble_eq_true rfl) ⟨Fg1, f0, rfl, hou1, Or.inr ⟨2, _, rfl, hpE, rfl⟩⟩ dL_lineLength_24
  · skip
    obtain ⟨r, rfl, hpr⟩ := hpv
    obtain ⟨hZo1, hdj1⟩ := hfr _ (zdj1 hou) (hZ.ur (zdj1 hou))
    have hZ := hZg1.un hZo1
    have hou1 := zdj1_i hdj1
    refine lv_i2l hx hb dL_lineLength_8 rfl ?_
    refine z_last hC hZ ((zun_r hou1).trans z1_s) dL_lineLength_9 (fun H locs hZ => ?_)
    rw [zun_up hou1] at hZ
    refine lv_goto (tgt := 25) hx hb dL_lineLength_10 (by decide) ?_
    refine z_iconst hx hb dL_lineLength_25 ?_
    exact z_iret hC hr hlk hZ (Nat.le_of_ble_eq_true rfl) (Nat.le_of_ble_eq_true rfl) ⟨Fg1, _, rfl, hou1, Or.inl ⟨rfl, r, hpr, rfl⟩⟩ dL_lineLength_26

set_option maxHeartbeats 4000000 in
set_option maxRecDepth 100000 in
theorem wr_hyphenCount (l : Launch) (D : va_G) (cs : Nat → ClassId) (A : Nat → Prop) (Fg : zF) (ob ou : Nat) (x0 : Int) (f0 : Nat → Int64) {fs : List Value} (hob : Fg ob = some (.inr (15, fs))) (hou : Fg ou = none) {post : Int → zF → Prop} {px : String → zF → Prop} (hM : ∀ A1 : Nat → Prop, zXM l D cs A1 yX12_hyphenCount cX12_hyphenCount 2 (some FieldType.int) 8 2 12 [.ref ob, .int (iI x0)] Fg (pI post) px) (hpx : ∀ (E : String) (F1 : zF), px E F1 → E = "java/util/NoSuchElementException" ∨ E = "java/lang/UnsupportedOperationException") : zMW l D cs A yL_hyphenCount cL_hyphenCount 4 (some FieldType.int) [((0 : Nat), (9 : Nat), (12 : Nat), (26 : Nat)), ((0 : Nat), (9 : Nat), (15 : Nat), (21 : Nat))] 9 2 12 [.ref ob, .int (iI x0), .ref ou] (zun Fg (z1 ou (zLa cs f0))) (pI (wPL cs ou ["java/util/NoSuchElementException", "java/lang/UnsupportedOperationException"] post px)) := by
  refine zW_of (own := RL) (by decide) rfl (Nat.le_of_ble_eq_true rfl) ?_
  intro p e s m below meth c hC hr hlk hT hNc hZ ls hl
  have hx := hC.x
  have hb := hC.b
  have hl : lv_has ls 4 [(0, .ref ob), (1, .int (iI x0)), (2, .ref ou)] := hl
  refine lv_aload_n hx hb dL_hyphenCount_0 rfl (lv_at hl 2 rfl) ?_
  refine z_iconst hx hb dL_hyphenCount_1 ?_
  refine lv_aload_n hx hb dL_hyphenCount_2 rfl (lv_at hl 0 rfl) ?_
  refine lv_iload_n hx hb dL_hyphenCount_3 rfl (lv_at hl 1 rfl) ?_
  have hZg : zS D A s Fg s.heap [] := hZ.ul
  refine z_fcallX hC (z_frX (rest := [.int (iI 0), .ref ou]) (As := [.int (iI x0)]) (n := 1) (ci := 15) hC hZg (hM (zfA Fg s.heap)) gv_L_69 hd_X12_hyphenCount rfl hob rfl hl rfl (Nat.le_of_ble_eq_true rfl) ⟨Nat.le_of_ble_eq_true rfl, Nat.le_of_ble_eq_true rfl⟩ ⟨Nat.le_of_ble_eq_true rfl, Nat.le_of_ble_eq_true rfl⟩ dL_hyphenCount_4) hZg (fun E ce q9 Fg1 H locs hpE hZg1 hfr hce hcv hcl => ?_) (fun v Fg1 H locs hpv hZg1 hfr => ?_)
  · skip
    obtain ⟨hZo1, hdj1⟩ := hfr _ (zdj1 hou) (hZ.ur (zdj1 hou))
    have hZ := hZg1.un hZo1
    have hou1 := zdj1_i hdj1
    rcases hpx E Fg1 hpE with rfl | rfl
    · skip
      refine vx_catch (name := "java/util/NoSuchElementException") hC.ow [] ⟨0, 9, 12, 26⟩ [⟨0, 9, 15, 21⟩] (hT.trans rfl) (fun z hz => absurd hz List.not_mem_nil) rfl (by decide) (hC.ts qk_L_26) (va_Nw.use rfl (hC.G.2.1 _ q_712)) hce hcv hcl ?_
      refine lv_astore_n (lv' := [(3, .ref q9), (0, .ref ob), (1, .int (iI x0)), (2, .ref ou)]) hx hb dL_hyphenCount_12 rfl hl (by decide) rfl (fun ls hl => ?_)
      refine z_iconst hx hb dL_hyphenCount_13 ?_
      exact z_iret hC hr hlk hZ (Nat.le_of_ble_eq_true rfl) (Nat.le_of_ble_eq_true rfl) ⟨Fg1, f0, rfl, hou1, Or.inr ⟨0, _, rfl, hpE, rfl⟩⟩ dL_hyphenCount_14
    · skip
      refine vx_catch (name := "java/lang/UnsupportedOperationException") hC.ow [⟨0, 9, 12, 26⟩] ⟨0, 9, 15, 21⟩ [] (hT.trans rfl) (fun z hz => by rw [List.mem_singleton.mp hz]; exact (Or.inr ⟨(by decide), "java/util/NoSuchElementException", hC.ts qk_L_26, hNc _ _ (by decide) (by decide) (by decide)⟩)) rfl (by decide) (hC.ts qk_L_21) (va_Nw.use rfl (hC.G.2.1 _ q_531)) hce hcv hcl ?_
      refine lv_astore_n (lv' := [(3, .ref q9), (0, .ref ob), (1, .int (iI x0)), (2, .ref ou)]) hx hb dL_hyphenCount_15 rfl hl (by decide) rfl (fun ls hl => ?_)
      refine z_iconst hx hb dL_hyphenCount_16 ?_
      exact z_iret hC hr hlk hZ (Nat.le_of_ble_eq_true rfl) (Nat.le_of_ble_eq_true rfl) ⟨Fg1, f0, rfl, hou1, Or.inr ⟨1, _, rfl, hpE, rfl⟩⟩ dL_hyphenCount_17
  · skip
    obtain ⟨r, rfl, hpr⟩ := hpv
    obtain ⟨hZo1, hdj1⟩ := hfr _ (zdj1 hou) (hZ.ur (zdj1 hou))
    have hZ := hZg1.un hZo1
    have hou1 := zdj1_i hdj1
    refine lv_i2l hx hb dL_hyphenCount_7 rfl ?_
    refine z_last hC hZ ((zun_r hou1).trans z1_s) dL_hyphenCount_8 (fun H locs hZ => ?_)
    rw [zun_up hou1] at hZ
    refine lv_goto (tgt := 18) hx hb dL_hyphenCount_9 (by decide) ?_
    refine z_iconst hx hb dL_hyphenCount_18 ?_
    exact z_iret hC hr hlk hZ (Nat.le_of_ble_eq_true rfl) (Nat.le_of_ble_eq_true rfl) ⟨Fg1, _, rfl, hou1, Or.inl ⟨rfl, r, hpr, rfl⟩⟩ dL_hyphenCount_19

set_option maxHeartbeats 4000000 in
set_option maxRecDepth 100000 in
theorem wr_writeLine (l : Launch) (D : va_G) (cs : Nat → ClassId) (A : Nat → Prop) (Fg : zF) (ob ou : Nat) (x0 : Int) (x1 : Int) (f0 : Nat → Int64) {fs : List Value} (hob : Fg ob = some (.inr (15, fs))) (hou : Fg ou = none) {post : Int → zF → Prop} {px : String → zF → Prop} (hM : ∀ A1 : Nat → Prop, zXM l D cs A1 yX12_writeLine cX12_writeLine 3 (some FieldType.int) 24 4 58 [.ref ob, .int (iI x0), .int (iI x1)] Fg (pI post) px) (hpx : ∀ (E : String) (F1 : zF), px E F1 → E = "java/util/NoSuchElementException" ∨ E = "java/lang/UnsupportedOperationException" ∨ E = "java/lang/IndexOutOfBoundsException") : zMW l D cs A yL_writeLine cL_writeLine 5 (some FieldType.int) [((0 : Nat), (10 : Nat), (13 : Nat), (26 : Nat)), ((0 : Nat), (10 : Nat), (17 : Nat), (21 : Nat)), ((0 : Nat), (10 : Nat), (21 : Nat), (32 : Nat))] 25 4 58 [.ref ob, .int (iI x0), .int (iI x1), .ref ou] (zun Fg (z1 ou (zLa cs f0))) (pI (wPL cs ou ["java/util/NoSuchElementException", "java/lang/UnsupportedOperationException", "java/lang/IndexOutOfBoundsException"] post px)) := by
  refine zW_of (own := RL) (by decide) rfl (Nat.le_of_ble_eq_true rfl) ?_
  intro p e s m below meth c hC hr hlk hT hNc hZ ls hl
  have hx := hC.x
  have hb := hC.b
  have hl : lv_has ls 5 [(0, .ref ob), (1, .int (iI x0)), (2, .int (iI x1)), (3, .ref ou)] := hl
  refine lv_aload_n hx hb dL_writeLine_0 rfl (lv_at hl 3 rfl) ?_
  refine z_iconst hx hb dL_writeLine_1 ?_
  refine lv_aload_n hx hb dL_writeLine_2 rfl (lv_at hl 0 rfl) ?_
  refine lv_iload_n hx hb dL_writeLine_3 rfl (lv_at hl 1 rfl) ?_
  refine lv_iload_n hx hb dL_writeLine_4 rfl (lv_at hl 2 rfl) ?_
  have hZg : zS D A s Fg s.heap [] := hZ.ul
  refine z_fcallX hC (z_frX (rest := [.int (iI 0), .ref ou]) (As := [.int (iI x0), .int (iI x1)]) (n := 2) (ci := 15) hC hZg (hM (zfA Fg s.heap)) gv_L_72 hd_X12_writeLine rfl hob rfl hl rfl (Nat.le_of_ble_eq_true rfl) ⟨Nat.le_of_ble_eq_true rfl, Nat.le_of_ble_eq_true rfl⟩ ⟨Nat.le_of_ble_eq_true rfl, Nat.le_of_ble_eq_true rfl⟩ dL_writeLine_5) hZg (fun E ce q9 Fg1 H locs hpE hZg1 hfr hce hcv hcl => ?_) (fun v Fg1 H locs hpv hZg1 hfr => ?_)
  · skip
    obtain ⟨hZo1, hdj1⟩ := hfr _ (zdj1 hou) (hZ.ur (zdj1 hou))
    have hZ := hZg1.un hZo1
    have hou1 := zdj1_i hdj1
    rcases hpx E Fg1 hpE with rfl | rfl | rfl
    · skip
      refine vx_catch (name := "java/util/NoSuchElementException") hC.ow [] ⟨0, 10, 13, 26⟩ [⟨0, 10, 17, 21⟩, ⟨0, 10, 21, 32⟩] (hT.trans rfl) (fun z hz => absurd hz List.not_mem_nil) rfl (by decide) (hC.ts qk_L_26) (va_Nw.use rfl (hC.G.2.1 _ q_712)) hce hcv hcl ?_
      refine lv_astore (lv' := [(4, .ref q9), (0, .ref ob), (1, .int (iI x0)), (2, .int (iI x1)), (3, .ref ou)]) hx hb dL_writeLine_13 hl (by decide) rfl (fun ls hl => ?_)
      refine z_iconst hx hb dL_writeLine_15 ?_
      exact z_iret hC hr hlk hZ (Nat.le_of_ble_eq_true rfl) (Nat.le_of_ble_eq_true rfl) ⟨Fg1, f0, rfl, hou1, Or.inr ⟨0, _, rfl, hpE, rfl⟩⟩ dL_writeLine_16
    · skip
      refine vx_catch (name := "java/lang/UnsupportedOperationException") hC.ow [⟨0, 10, 13, 26⟩] ⟨0, 10, 17, 21⟩ [⟨0, 10, 21, 32⟩] (hT.trans rfl) (fun z hz => by rw [List.mem_singleton.mp hz]; exact (Or.inr ⟨(by decide), "java/util/NoSuchElementException", hC.ts qk_L_26, hNc _ _ (by decide) (by decide) (by decide)⟩)) rfl (by decide) (hC.ts qk_L_21) (va_Nw.use rfl (hC.G.2.1 _ q_531)) hce hcv hcl ?_
      refine lv_astore (lv' := [(4, .ref q9), (0, .ref ob), (1, .int (iI x0)), (2, .int (iI x1)), (3, .ref ou)]) hx hb dL_writeLine_17 hl (by decide) rfl (fun ls hl => ?_)
      refine z_iconst hx hb dL_writeLine_19 ?_
      exact z_iret hC hr hlk hZ (Nat.le_of_ble_eq_true rfl) (Nat.le_of_ble_eq_true rfl) ⟨Fg1, f0, rfl, hou1, Or.inr ⟨1, _, rfl, hpE, rfl⟩⟩ dL_writeLine_20
    · skip
      refine vx_catch (name := "java/lang/IndexOutOfBoundsException") hC.ow [⟨0, 10, 13, 26⟩, ⟨0, 10, 17, 21⟩] ⟨0, 10, 21, 32⟩ [] (hT.trans rfl) (fun z hz => by
            rcases List.mem_cons.mp hz with rfl | hz
            · exact (Or.inr ⟨(by decide), "java/util/NoSuchElementException", hC.ts qk_L_26, hNc _ _ (by decide) (by decide) (by decide)⟩)
            · rw [List.mem_singleton.mp hz]; exact (Or.inr ⟨(by decide), "java/lang/UnsupportedOperationException", hC.ts qk_L_21, hNc _ _ (by decide) (by decide) (by decide)⟩)) rfl (by decide) (hC.ts qk_L_32) (va_Nw.use rfl (hC.G.2.1 _ q_771)) hce hcv hcl ?_
      refine lv_astore (lv' := [(4, .ref q9), (0, .ref ob), (1, .int (iI x0)), (2, .int (iI x1)), (3, .ref ou)]) hx hb dL_writeLine_21 hl (by decide) rfl (fun ls hl => ?_)
      refine z_iconst hx hb dL_writeLine_23 ?_
      exact z_iret hC hr hlk hZ (Nat.le_of_ble_eq_true rfl) (Nat.le_of_ble_eq_true rfl) ⟨Fg1, f0, rfl, hou1, Or.inr ⟨2, _, rfl, hpE, rfl⟩⟩ dL_writeLine_24
  · skip
    obtain ⟨r, rfl, hpr⟩ := hpv
    obtain ⟨hZo1, hdj1⟩ := hfr _ (zdj1 hou) (hZ.ur (zdj1 hou))
    have hZ := hZg1.un hZo1
    have hou1 := zdj1_i hdj1
    refine lv_i2l hx hb dL_writeLine_8 rfl ?_
    refine z_last hC hZ ((zun_r hou1).trans z1_s) dL_writeLine_9 (fun H locs hZ => ?_)
    rw [zun_up hou1] at hZ
    refine lv_goto (tgt := 25) hx hb dL_writeLine_10 (by decide) ?_
    refine z_iconst hx hb dL_writeLine_25 ?_
    exact z_iret hC hr hlk hZ (Nat.le_of_ble_eq_true rfl) (Nat.le_of_ble_eq_true rfl) ⟨Fg1, _, rfl, hou1, Or.inl ⟨rfl, r, hpr, rfl⟩⟩ dL_writeLine_26

set_option maxHeartbeats 4000000 in
set_option maxRecDepth 100000 in
theorem wr_smallestWidth (l : Launch) (D : va_G) (cs : Nat → ClassId) (A : Nat → Prop) (Fg : zF) (ob ou : Nat) (x0 : Int) (f0 : Nat → Int64) {fs : List Value} (hob : Fg ob = some (.inr (15, fs))) (hou : Fg ou = none) {post : Int → zF → Prop} {px : String → zF → Prop} (hM : ∀ A1 : Nat → Prop, zXM l D cs A1 yX12_smallestWidth cX12_smallestWidth 4 (some FieldType.int) 7 1 6 [.ref ob, .int (iI x0)] Fg (pI post) px) (hpx : ∀ (E : String) (F1 : zF), px E F1 → E = "java/util/NoSuchElementException") : zMW l D cs A yL_smallestWidth cL_smallestWidth 4 (some FieldType.int) [((0 : Nat), (9 : Nat), (12 : Nat), (26 : Nat))] 8 1 6 [.ref ob, .int (iI x0), .ref ou] (zun Fg (z1 ou (zLa cs f0))) (pI (wPL cs ou ["java/util/NoSuchElementException"] post px)) := by
  refine zW_of (own := RL) (by decide) rfl (Nat.le_of_ble_eq_true rfl) ?_
  intro p e s m below meth c hC hr hlk hT hNc hZ ls hl
  have hx := hC.x
  have hb := hC.b
  have hl : lv_has ls 4 [(0, .ref ob), (1, .int (iI x0)), (2, .ref ou)] := hl
  refine lv_aload_n hx hb dL_smallestWidth_0 rfl (lv_at hl 2 rfl) ?_
  refine z_iconst hx hb dL_smallestWidth_1 ?_
  refine lv_aload_n hx hb dL_smallestWidth_2 rfl (lv_at hl 0 rfl) ?_
  refine lv_iload_n hx hb dL_smallestWidth_3 rfl (lv_at hl 1 rfl) ?_
  have hZg : zS D A s Fg s.heap [] := hZ.ul
  refine z_fcallX hC (z_frX (rest := [.int (iI 0), .ref ou]) (As := [.int (iI x0)]) (n := 1) (ci := 15) hC hZg (hM (zfA Fg s.heap)) gv_L_75 hd_X12_smallestWidth rfl hob rfl hl rfl (Nat.le_of_ble_eq_true rfl) ⟨Nat.le_of_ble_eq_true rfl, Nat.le_of_ble_eq_true rfl⟩ ⟨Nat.le_of_ble_eq_true rfl, Nat.le_of_ble_eq_true rfl⟩ dL_smallestWidth_4) hZg (fun E ce q9 Fg1 H locs hpE hZg1 hfr hce hcv hcl => ?_) (fun v Fg1 H locs hpv hZg1 hfr => ?_)
  · skip
    obtain ⟨hZo1, hdj1⟩ := hfr _ (zdj1 hou) (hZ.ur (zdj1 hou))
    have hZ := hZg1.un hZo1
    have hou1 := zdj1_i hdj1
    rcases hpx E Fg1 hpE with rfl
    refine vx_catch (name := "java/util/NoSuchElementException") hC.ow [] ⟨0, 9, 12, 26⟩ [] (hT.trans rfl) (fun z hz => absurd hz List.not_mem_nil) rfl (by decide) (hC.ts qk_L_26) (va_Nw.use rfl (hC.G.2.1 _ q_712)) hce hcv hcl ?_
    refine lv_astore_n (lv' := [(3, .ref q9), (0, .ref ob), (1, .int (iI x0)), (2, .ref ou)]) hx hb dL_smallestWidth_12 rfl hl (by decide) rfl (fun ls hl => ?_)
    refine z_iconst hx hb dL_smallestWidth_13 ?_
    exact z_iret hC hr hlk hZ (Nat.le_of_ble_eq_true rfl) (Nat.le_of_ble_eq_true rfl) ⟨Fg1, f0, rfl, hou1, Or.inr ⟨0, _, rfl, hpE, rfl⟩⟩ dL_smallestWidth_14
  · skip
    obtain ⟨r, rfl, hpr⟩ := hpv
    obtain ⟨hZo1, hdj1⟩ := hfr _ (zdj1 hou) (hZ.ur (zdj1 hou))
    have hZ := hZg1.un hZo1
    have hou1 := zdj1_i hdj1
    refine lv_i2l hx hb dL_smallestWidth_7 rfl ?_
    refine z_last hC hZ ((zun_r hou1).trans z1_s) dL_smallestWidth_8 (fun H locs hZ => ?_)
    rw [zun_up hou1] at hZ
    refine lv_goto (tgt := 15) hx hb dL_smallestWidth_9 (by decide) ?_
    refine z_iconst hx hb dL_smallestWidth_15 ?_
    exact z_iret hC hr hlk hZ (Nat.le_of_ble_eq_true rfl) (Nat.le_of_ble_eq_true rfl) ⟨Fg1, _, rfl, hou1, Or.inl ⟨rfl, r, hpr, rfl⟩⟩ dL_smallestWidth_16

set_option maxHeartbeats 4000000 in
set_option maxRecDepth 100000 in
theorem wr_leastBadness (l : Launch) (D : va_G) (cs : Nat → ClassId) (A : Nat → Prop) (Fg : zF) (ob ou : Nat) (x0 : Int) (f0 : Nat → Int64) {fs : List Value} (hob : Fg ob = some (.inr (15, fs))) (hou : Fg ou = none) {post : Int → zF → Prop} {px : String → zF → Prop} (hM : ∀ A1 : Nat → Prop, zXM l D cs A1 yX12_leastBadness cX12_leastBadness 2 (some FieldType.int) 8 2 12 [.ref ob, .int (iI x0)] Fg (pI post) px) (hpx : ∀ (E : String) (F1 : zF), px E F1 → E = "java/util/NoSuchElementException" ∨ E = "java/lang/UnsupportedOperationException") : zMW l D cs A yL_leastBadness cL_leastBadness 4 (some FieldType.int) [((0 : Nat), (9 : Nat), (12 : Nat), (26 : Nat)), ((0 : Nat), (9 : Nat), (15 : Nat), (21 : Nat))] 9 2 12 [.ref ob, .int (iI x0), .ref ou] (zun Fg (z1 ou (zLa cs f0))) (pI (wPL cs ou ["java/util/NoSuchElementException", "java/lang/UnsupportedOperationException"] post px)) := by
  refine zW_of (own := RL) (by decide) rfl (Nat.le_of_ble_eq_true rfl) ?_
  intro p e s m below meth c hC hr hlk hT hNc hZ ls hl
  have hx := hC.x
  have hb := hC.b
  have hl : lv_has ls 4 [(0, .ref ob), (1, .int (iI x0)), (2, .ref ou)] := hl
  refine lv_aload_n hx hb dL_leastBadness_0 rfl (lv_at hl 2 rfl) ?_
  refine z_iconst hx hb dL_leastBadness_1 ?_
  refine lv_aload_n hx hb dL_leastBadness_2 rfl (lv_at hl 0 rfl) ?_
  refine lv_iload_n hx hb dL_leastBadness_3 rfl (lv_at hl 1 rfl) ?_
  have hZg : zS D A s Fg s.heap [] := hZ.ul
  refine z_fcallX hC (z_frX (rest := [.int (iI 0), .ref ou]) (As := [.int (iI x0)]) (n := 1) (ci := 15) hC hZg (hM (zfA Fg s.heap)) gv_L_78 hd_X12_leastBadness rfl hob rfl hl rfl (Nat.le_of_ble_eq_true rfl) ⟨Nat.le_of_ble_eq_true rfl, Nat.le_of_ble_eq_true rfl⟩ ⟨Nat.le_of_ble_eq_true rfl, Nat.le_of_ble_eq_true rfl⟩ dL_leastBadness_4) hZg (fun E ce q9 Fg1 H locs hpE hZg1 hfr hce hcv hcl => ?_) (fun v Fg1 H locs hpv hZg1 hfr => ?_)
  · skip
    obtain ⟨hZo1, hdj1⟩ := hfr _ (zdj1 hou) (hZ.ur (zdj1 hou))
    have hZ := hZg1.un hZo1
    have hou1 := zdj1_i hdj1
    rcases hpx E Fg1 hpE with rfl | rfl
    · skip
      refine vx_catch (name := "java/util/NoSuchElementException") hC.ow [] ⟨0, 9, 12, 26⟩ [⟨0, 9, 15, 21⟩] (hT.trans rfl) (fun z hz => absurd hz List.not_mem_nil) rfl (by decide) (hC.ts qk_L_26) (va_Nw.use rfl (hC.G.2.1 _ q_712)) hce hcv hcl ?_
      refine lv_astore_n (lv' := [(3, .ref q9), (0, .ref ob), (1, .int (iI x0)), (2, .ref ou)]) hx hb dL_leastBadness_12 rfl hl (by decide) rfl (fun ls hl => ?_)
      refine z_iconst hx hb dL_leastBadness_13 ?_
      exact z_iret hC hr hlk hZ (Nat.le_of_ble_eq_true rfl) (Nat.le_of_ble_eq_true rfl) ⟨Fg1, f0, rfl, hou1, Or.inr ⟨0, _, rfl, hpE, rfl⟩⟩ dL_leastBadness_14
    · skip
      refine vx_catch (name := "java/lang/UnsupportedOperationException") hC.ow [⟨0, 9, 12, 26⟩] ⟨0, 9, 15, 21⟩ [] (hT.trans rfl) (fun z hz => by rw [List.mem_singleton.mp hz]; exact (Or.inr ⟨(by decide), "java/util/NoSuchElementException", hC.ts qk_L_26, hNc _ _ (by decide) (by decide) (by decide)⟩)) rfl (by decide) (hC.ts qk_L_21) (va_Nw.use rfl (hC.G.2.1 _ q_531)) hce hcv hcl ?_
      refine lv_astore_n (lv' := [(3, .ref q9), (0, .ref ob), (1, .int (iI x0)), (2, .ref ou)]) hx hb dL_leastBadness_15 rfl hl (by decide) rfl (fun ls hl => ?_)
      refine z_iconst hx hb dL_leastBadness_16 ?_
      exact z_iret hC hr hlk hZ (Nat.le_of_ble_eq_true rfl) (Nat.le_of_ble_eq_true rfl) ⟨Fg1, f0, rfl, hou1, Or.inr ⟨1, _, rfl, hpE, rfl⟩⟩ dL_leastBadness_17
  · skip
    obtain ⟨r, rfl, hpr⟩ := hpv
    obtain ⟨hZo1, hdj1⟩ := hfr _ (zdj1 hou) (hZ.ur (zdj1 hou))
    have hZ := hZg1.un hZo1
    have hou1 := zdj1_i hdj1
    refine lv_i2l hx hb dL_leastBadness_7 rfl ?_
    refine z_last hC hZ ((zun_r hou1).trans z1_s) dL_leastBadness_8 (fun H locs hZ => ?_)
    rw [zun_up hou1] at hZ
    refine lv_goto (tgt := 18) hx hb dL_leastBadness_9 (by decide) ?_
    refine z_iconst hx hb dL_leastBadness_18 ?_
    exact z_iret hC hr hlk hZ (Nat.le_of_ble_eq_true rfl) (Nat.le_of_ble_eq_true rfl) ⟨Fg1, _, rfl, hou1, Or.inl ⟨rfl, r, hpr, rfl⟩⟩ dL_leastBadness_19

set_option maxHeartbeats 4000000 in
set_option maxRecDepth 100000 in
theorem wr_leastBadnessForward (l : Launch) (D : va_G) (cs : Nat → ClassId) (A : Nat → Prop) (Fg : zF) (ob ou : Nat) (x0 : Int) (f0 : Nat → Int64) {fs : List Value} (hob : Fg ob = some (.inr (15, fs))) (hou : Fg ou = none) {post : Int → zF → Prop} {px : String → zF → Prop} (hM : ∀ A1 : Nat → Prop, zXM l D cs A1 yX12_leastBadnessForward cX12_leastBadnessForward 2 (some FieldType.int) 8 2 12 [.ref ob, .int (iI x0)] Fg (pI post) px) (hpx : ∀ (E : String) (F1 : zF), px E F1 → E = "java/util/NoSuchElementException" ∨ E = "java/lang/UnsupportedOperationException") : zMW l D cs A yL_leastBadnessForward cL_leastBadnessForward 4 (some FieldType.int) [((0 : Nat), (9 : Nat), (12 : Nat), (26 : Nat)), ((0 : Nat), (9 : Nat), (15 : Nat), (21 : Nat))] 9 2 12 [.ref ob, .int (iI x0), .ref ou] (zun Fg (z1 ou (zLa cs f0))) (pI (wPL cs ou ["java/util/NoSuchElementException", "java/lang/UnsupportedOperationException"] post px)) := by
  refine zW_of (own := RL) (by decide) rfl (Nat.le_of_ble_eq_true rfl) ?_
  intro p e s m below meth c hC hr hlk hT hNc hZ ls hl
  have hx := hC.x
  have hb := hC.b
  have hl : lv_has ls 4 [(0, .ref ob), (1, .int (iI x0)), (2, .ref ou)] := hl
  refine lv_aload_n hx hb dL_leastBadnessForward_0 rfl (lv_at hl 2 rfl) ?_
  refine z_iconst hx hb dL_leastBadnessForward_1 ?_
  refine lv_aload_n hx hb dL_leastBadnessForward_2 rfl (lv_at hl 0 rfl) ?_
  refine lv_iload_n hx hb dL_leastBadnessForward_3 rfl (lv_at hl 1 rfl) ?_
  have hZg : zS D A s Fg s.heap [] := hZ.ul
  refine z_fcallX hC (z_frX (rest := [.int (iI 0), .ref ou]) (As := [.int (iI x0)]) (n := 1) (ci := 15) hC hZg (hM (zfA Fg s.heap)) gv_L_81 hd_X12_leastBadnessForward rfl hob rfl hl rfl (Nat.le_of_ble_eq_true rfl) ⟨Nat.le_of_ble_eq_true rfl, Nat.le_of_ble_eq_true rfl⟩ ⟨Nat.le_of_ble_eq_true rfl, Nat.le_of_ble_eq_true rfl⟩ dL_leastBadnessForward_4) hZg (fun E ce q9 Fg1 H locs hpE hZg1 hfr hce hcv hcl => ?_) (fun v Fg1 H locs hpv hZg1 hfr => ?_)
  · skip
    obtain ⟨hZo1, hdj1⟩ := hfr _ (zdj1 hou) (hZ.ur (zdj1 hou))
    have hZ := hZg1.un hZo1
    have hou1 := zdj1_i hdj1
    rcases hpx E Fg1 hpE with rfl | rfl
    · skip
      refine vx_catch (name := "java/util/NoSuchElementException") hC.ow [] ⟨0, 9, 12, 26⟩ [⟨0, 9, 15, 21⟩] (hT.trans rfl) (fun z hz => absurd hz List.not_mem_nil) rfl (by decide) (hC.ts qk_L_26) (va_Nw.use rfl (hC.G.2.1 _ q_712)) hce hcv hcl ?_
      refine lv_astore_n (lv' := [(3, .ref q9), (0, .ref ob), (1, .int (iI x0)), (2, .ref ou)]) hx hb dL_leastBadnessForward_12 rfl hl (by decide) rfl (fun ls hl => ?_)
      refine z_iconst hx hb dL_leastBadnessForward_13 ?_
      exact z_iret hC hr hlk hZ (Nat.le_of_ble_eq_true rfl) (Nat.le_of_ble_eq_true rfl) ⟨Fg1, f0, rfl, hou1, Or.inr ⟨0, _, rfl, hpE, rfl⟩⟩ dL_leastBadnessForward_14
    · skip
      refine vx_catch (name := "java/lang/UnsupportedOperationException") hC.ow [⟨0, 9, 12, 26⟩] ⟨0, 9, 15, 21⟩ [] (hT.trans rfl) (fun z hz => by rw [List.mem_singleton.mp hz]; exact (Or.inr ⟨(by decide), "java/util/NoSuchElementException", hC.ts qk_L_26, hNc _ _ (by decide) (by decide) (by decide)⟩)) rfl (by decide) (hC.ts qk_L_21) (va_Nw.use rfl (hC.G.2.1 _ q_531)) hce hcv hcl ?_
      refine lv_astore_n (lv' := [(3, .ref q9), (0, .ref ob), (1, .int (iI x0)), (2, .ref ou)]) hx hb dL_leastBadnessForward_15 rfl hl (by decide) rfl (fun ls hl => ?_)
      refine z_iconst hx hb dL_leastBadnessForward_16 ?_
      exact z_iret hC hr hlk hZ (Nat.le_of_ble_eq_true rfl) (Nat.le_of_ble_eq_true rfl) ⟨Fg1, f0, rfl, hou1, Or.inr ⟨1, _, rfl, hpE, rfl⟩⟩ dL_leastBadnessForward_17
  · skip
    obtain ⟨r, rfl, hpr⟩ := hpv
    obtain ⟨hZo1, hdj1⟩ := hfr _ (zdj1 hou) (hZ.ur (zdj1 hou))
    have hZ := hZg1.un hZo1
    have hou1 := zdj1_i hdj1
    refine lv_i2l hx hb dL_leastBadnessForward_7 rfl ?_
    refine z_last hC hZ ((zun_r hou1).trans z1_s) dL_leastBadnessForward_8 (fun H locs hZ => ?_)
    rw [zun_up hou1] at hZ
    refine lv_goto (tgt := 18) hx hb dL_leastBadnessForward_9 (by decide) ?_
    refine z_iconst hx hb dL_leastBadnessForward_18 ?_
    exact z_iret hC hr hlk hZ (Nat.le_of_ble_eq_true rfl) (Nat.le_of_ble_eq_true rfl) ⟨Fg1, _, rfl, hou1, Or.inl ⟨rfl, r, hpr, rfl⟩⟩ dL_leastBadnessForward_19

set_option maxHeartbeats 4000000 in
set_option maxRecDepth 100000 in
theorem wr_setPage (l : Launch) (D : va_G) (cs : Nat → ClassId) (A : Nat → Prop) (Fg : zF) (ob ou : Nat) (x0 : Int) (x1 : Int) (f0 : Nat → Int64) {fs : List Value} (hob : Fg ob = some (.inr (15, fs))) (hou : Fg ou = none) {post : Int → zF → Prop} {px : String → zF → Prop} (hM : ∀ A1 : Nat → Prop, zXM l D cs A1 yX12_setPage cX12_setPage 4 (some FieldType.int) 9 14 131 [.ref ob, .int (iI x0), .int (iI x1)] Fg (pI post) px) (hpx : ∀ (E : String) (F1 : zF), px E F1 → E = "java/lang/IllegalArgumentException") : zMW l D cs A yL_setPage cL_setPage 5 (some FieldType.int) [((0 : Nat), (10 : Nat), (13 : Nat), (13 : Nat))] 10 14 131 [.ref ob, .int (iI x0), .int (iI x1), .ref ou] (zun Fg (z1 ou (zLa cs f0))) (pI (wPL cs ou ["java/lang/IllegalArgumentException"] post px)) := by
  refine zW_of (own := RL) (by decide) rfl (Nat.le_of_ble_eq_true rfl) ?_
  intro p e s m below meth c hC hr hlk hT hNc hZ ls hl
  have hx := hC.x
  have hb := hC.b
  have hl : lv_has ls 5 [(0, .ref ob), (1, .int (iI x0)), (2, .int (iI x1)), (3, .ref ou)] := hl
  refine lv_aload_n hx hb dL_setPage_0 rfl (lv_at hl 3 rfl) ?_
  refine z_iconst hx hb dL_setPage_1 ?_
  refine lv_aload_n hx hb dL_setPage_2 rfl (lv_at hl 0 rfl) ?_
  refine lv_iload_n hx hb dL_setPage_3 rfl (lv_at hl 1 rfl) ?_
  refine lv_iload_n hx hb dL_setPage_4 rfl (lv_at hl 2 rfl) ?_
  have hZg : zS D A s Fg s.heap [] := hZ.ul
  refine z_fcallX hC (z_frX (rest := [.int (iI 0), .ref ou]) (As := [.int (iI x0), .int (iI x1)]) (n := 2) (ci := 15) hC hZg (hM (zfA Fg s.heap)) gv_L_84 hd_X12_setPage rfl hob rfl hl rfl (Nat.le_of_ble_eq_true rfl) ⟨Nat.le_of_ble_eq_true rfl, Nat.le_of_ble_eq_true rfl⟩ ⟨Nat.le_of_ble_eq_true rfl, Nat.le_of_ble_eq_true rfl⟩ dL_setPage_5) hZg (fun E ce q9 Fg1 H locs hpE hZg1 hfr hce hcv hcl => ?_) (fun v Fg1 H locs hpv hZg1 hfr => ?_)
  · skip
    obtain ⟨hZo1, hdj1⟩ := hfr _ (zdj1 hou) (hZ.ur (zdj1 hou))
    have hZ := hZg1.un hZo1
    have hou1 := zdj1_i hdj1
    rcases hpx E Fg1 hpE with rfl
    refine vx_catch (name := "java/lang/IllegalArgumentException") hC.ow [] ⟨0, 10, 13, 13⟩ [] (hT.trans rfl) (fun z hz => absurd hz List.not_mem_nil) rfl (by decide) (hC.ts qk_L_13) (va_Nw.use rfl (hC.G.2.1 _ q_421)) hce hcv hcl ?_
    refine lv_astore (lv' := [(4, .ref q9), (0, .ref ob), (1, .int (iI x0)), (2, .int (iI x1)), (3, .ref ou)]) hx hb dL_setPage_13 hl (by decide) rfl (fun ls hl => ?_)
    refine z_iconst hx hb dL_setPage_15 ?_
    exact z_iret hC hr hlk hZ (Nat.le_of_ble_eq_true rfl) (Nat.le_of_ble_eq_true rfl) ⟨Fg1, f0, rfl, hou1, Or.inr ⟨0, _, rfl, hpE, rfl⟩⟩ dL_setPage_16
  · skip
    obtain ⟨r, rfl, hpr⟩ := hpv
    obtain ⟨hZo1, hdj1⟩ := hfr _ (zdj1 hou) (hZ.ur (zdj1 hou))
    have hZ := hZg1.un hZo1
    have hou1 := zdj1_i hdj1
    refine lv_i2l hx hb dL_setPage_8 rfl ?_
    refine z_last hC hZ ((zun_r hou1).trans z1_s) dL_setPage_9 (fun H locs hZ => ?_)
    rw [zun_up hou1] at hZ
    refine lv_goto (tgt := 17) hx hb dL_setPage_10 (by decide) ?_
    refine z_iconst hx hb dL_setPage_17 ?_
    exact z_iret hC hr hlk hZ (Nat.le_of_ble_eq_true rfl) (Nat.le_of_ble_eq_true rfl) ⟨Fg1, _, rfl, hou1, Or.inl ⟨rfl, r, hpr, rfl⟩⟩ dL_setPage_18

set_option maxHeartbeats 4000000 in
set_option maxRecDepth 100000 in
theorem wr_print (l : Launch) (D : va_G) (cs : Nat → ClassId) (A : Nat → Prop) (Fg : zF) (ob ou : Nat) (f0 : Nat → Int64) {fs : List Value} (hob : Fg ob = some (.inr (15, fs))) (hou : Fg ou = none) {post : Int → zF → Prop} {px : String → zF → Prop} (hM : ∀ A1 : Nat → Prop, zXM l D cs A1 yX12_print cX12_print 3 (some FieldType.int) 9 19 160 [.ref ob] Fg (pI post) px) (hpx : ∀ (E : String) (F1 : zF), px E F1 → E = "java/lang/IllegalStateException") : zMW l D cs A yL_print cL_print 3 (some FieldType.int) [((0 : Nat), (8 : Nat), (11 : Nat), (15 : Nat))] 10 19 160 [.ref ob, .ref ou] (zun Fg (z1 ou (zLa cs f0))) (pI (wPL cs ou ["java/lang/IllegalStateException"] post px)) := by
  refine zW_of (own := RL) (by decide) rfl (Nat.le_of_ble_eq_true rfl) ?_
  intro p e s m below meth c hC hr hlk hT hNc hZ ls hl
  have hx := hC.x
  have hb := hC.b
  have hl : lv_has ls 3 [(0, .ref ob), (1, .ref ou)] := hl
  refine lv_aload_n hx hb dL_print_0 rfl (lv_at hl 1 rfl) ?_
  refine z_iconst hx hb dL_print_1 ?_
  refine lv_aload_n hx hb dL_print_2 rfl (lv_at hl 0 rfl) ?_
  have hZg : zS D A s Fg s.heap [] := hZ.ul
  refine z_fcallX hC (z_frX (rest := [.int (iI 0), .ref ou]) (As := []) (n := 0) (ci := 15) hC hZg (hM (zfA Fg s.heap)) gv_L_87 hd_X12_print rfl hob rfl hl rfl (Nat.le_of_ble_eq_true rfl) ⟨Nat.le_of_ble_eq_true rfl, Nat.le_of_ble_eq_true rfl⟩ ⟨Nat.le_of_ble_eq_true rfl, Nat.le_of_ble_eq_true rfl⟩ dL_print_3) hZg (fun E ce q9 Fg1 H locs hpE hZg1 hfr hce hcv hcl => ?_) (fun v Fg1 H locs hpv hZg1 hfr => ?_)
  · skip
    obtain ⟨hZo1, hdj1⟩ := hfr _ (zdj1 hou) (hZ.ur (zdj1 hou))
    have hZ := hZg1.un hZo1
    have hou1 := zdj1_i hdj1
    rcases hpx E Fg1 hpE with rfl
    refine vx_catch (name := "java/lang/IllegalStateException") hC.ow [] ⟨0, 8, 11, 15⟩ [] (hT.trans rfl) (fun z hz => absurd hz List.not_mem_nil) rfl (by decide) (hC.ts qk_L_15) (va_Nw.use rfl (hC.G.2.1 _ q_497)) hce hcv hcl ?_
    refine lv_astore_n (lv' := [(2, .ref q9), (0, .ref ob), (1, .ref ou)]) hx hb dL_print_11 rfl hl (by decide) rfl (fun ls hl => ?_)
    refine z_iconst hx hb dL_print_12 ?_
    exact z_iret hC hr hlk hZ (Nat.le_of_ble_eq_true rfl) (Nat.le_of_ble_eq_true rfl) ⟨Fg1, f0, rfl, hou1, Or.inr ⟨0, _, rfl, hpE, rfl⟩⟩ dL_print_13
  · skip
    obtain ⟨r, rfl, hpr⟩ := hpv
    obtain ⟨hZo1, hdj1⟩ := hfr _ (zdj1 hou) (hZ.ur (zdj1 hou))
    have hZ := hZg1.un hZo1
    have hou1 := zdj1_i hdj1
    refine lv_i2l hx hb dL_print_6 rfl ?_
    refine z_last hC hZ ((zun_r hou1).trans z1_s) dL_print_7 (fun H locs hZ => ?_)
    rw [zun_up hou1] at hZ
    refine lv_goto (tgt := 14) hx hb dL_print_8 (by decide) ?_
    refine z_iconst hx hb dL_print_14 ?_
    exact z_iret hC hr hlk hZ (Nat.le_of_ble_eq_true rfl) (Nat.le_of_ble_eq_true rfl) ⟨Fg1, _, rfl, hou1, Or.inl ⟨rfl, r, hpr, rfl⟩⟩ dL_print_15

set_option maxHeartbeats 4000000 in
set_option maxRecDepth 100000 in
theorem wr_articlesIn (l : Launch) (D : va_G) (cs : Nat → ClassId) (A : Nat → Prop) (Fg : zF) (ob ou : Nat) (x0 : Int) (f0 : Nat → Int64) {fs : List Value} (hob : Fg ob = some (.inr (15, fs))) (hou : Fg ou = none) {post : Int → zF → Prop} {px : String → zF → Prop} (hM : ∀ A1 : Nat → Prop, zXM l D cs A1 yX12_articlesIn cX12_articlesIn 2 (some FieldType.int) 7 1 6 [.ref ob, .int (iI x0)] Fg (pI post) px) (hpx : ∀ (E : String) (F1 : zF), px E F1 → E = "java/util/NoSuchElementException") : zMW l D cs A yL_articlesIn cL_articlesIn 4 (some FieldType.int) [((0 : Nat), (9 : Nat), (12 : Nat), (26 : Nat))] 8 1 6 [.ref ob, .int (iI x0), .ref ou] (zun Fg (z1 ou (zLa cs f0))) (pI (wPL cs ou ["java/util/NoSuchElementException"] post px)) := by
  refine zW_of (own := RL) (by decide) rfl (Nat.le_of_ble_eq_true rfl) ?_
  intro p e s m below meth c hC hr hlk hT hNc hZ ls hl
  have hx := hC.x
  have hb := hC.b
  have hl : lv_has ls 4 [(0, .ref ob), (1, .int (iI x0)), (2, .ref ou)] := hl
  refine lv_aload_n hx hb dL_articlesIn_0 rfl (lv_at hl 2 rfl) ?_
  refine z_iconst hx hb dL_articlesIn_1 ?_
  refine lv_aload_n hx hb dL_articlesIn_2 rfl (lv_at hl 0 rfl) ?_
  refine lv_iload_n hx hb dL_articlesIn_3 rfl (lv_at hl 1 rfl) ?_
  have hZg : zS D A s Fg s.heap [] := hZ.ul
  refine z_fcallX hC (z_frX (rest := [.int (iI 0), .ref ou]) (As := [.int (iI x0)]) (n := 1) (ci := 15) hC hZg (hM (zfA Fg s.heap)) gv_L_91 hd_X12_articlesIn rfl hob rfl hl rfl (Nat.le_of_ble_eq_true rfl) ⟨Nat.le_of_ble_eq_true rfl, Nat.le_of_ble_eq_true rfl⟩ ⟨Nat.le_of_ble_eq_true rfl, Nat.le_of_ble_eq_true rfl⟩ dL_articlesIn_4) hZg (fun E ce q9 Fg1 H locs hpE hZg1 hfr hce hcv hcl => ?_) (fun v Fg1 H locs hpv hZg1 hfr => ?_)
  · skip
    obtain ⟨hZo1, hdj1⟩ := hfr _ (zdj1 hou) (hZ.ur (zdj1 hou))
    have hZ := hZg1.un hZo1
    have hou1 := zdj1_i hdj1
    rcases hpx E Fg1 hpE with rfl
    refine vx_catch (name := "java/util/NoSuchElementException") hC.ow [] ⟨0, 9, 12, 26⟩ [] (hT.trans rfl) (fun z hz => absurd hz List.not_mem_nil) rfl (by decide) (hC.ts qk_L_26) (va_Nw.use rfl (hC.G.2.1 _ q_712)) hce hcv hcl ?_
    refine lv_astore_n (lv' := [(3, .ref q9), (0, .ref ob), (1, .int (iI x0)), (2, .ref ou)]) hx hb dL_articlesIn_12 rfl hl (by decide) rfl (fun ls hl => ?_)
    refine z_iconst hx hb dL_articlesIn_13 ?_
    exact z_iret hC hr hlk hZ (Nat.le_of_ble_eq_true rfl) (Nat.le_of_ble_eq_true rfl) ⟨Fg1, f0, rfl, hou1, Or.inr ⟨0, _, rfl, hpE, rfl⟩⟩ dL_articlesIn_14
  · skip
    obtain ⟨r, rfl, hpr⟩ := hpv
    obtain ⟨hZo1, hdj1⟩ := hfr _ (zdj1 hou) (hZ.ur (zdj1 hou))
    have hZ := hZg1.un hZo1
    have hou1 := zdj1_i hdj1
    refine lv_i2l hx hb dL_articlesIn_7 rfl ?_
    refine z_last hC hZ ((zun_r hou1).trans z1_s) dL_articlesIn_8 (fun H locs hZ => ?_)
    rw [zun_up hou1] at hZ
    refine lv_goto (tgt := 15) hx hb dL_articlesIn_9 (by decide) ?_
    refine z_iconst hx hb dL_articlesIn_15 ?_
    exact z_iret hC hr hlk hZ (Nat.le_of_ble_eq_true rfl) (Nat.le_of_ble_eq_true rfl) ⟨Fg1, _, rfl, hou1, Or.inl ⟨rfl, r, hpr, rfl⟩⟩ dL_articlesIn_16

set_option maxHeartbeats 4000000 in
set_option maxRecDepth 100000 in
theorem wr_linesIn (l : Launch) (D : va_G) (cs : Nat → ClassId) (A : Nat → Prop) (Fg : zF) (ob ou : Nat) (x0 : Int) (f0 : Nat → Int64) {fs : List Value} (hob : Fg ob = some (.inr (15, fs))) (hou : Fg ou = none) {post : Int → zF → Prop} {px : String → zF → Prop} (hM : ∀ A1 : Nat → Prop, zXM l D cs A1 yX12_linesIn cX12_linesIn 2 (some FieldType.int) 7 1 6 [.ref ob, .int (iI x0)] Fg (pI post) px) (hpx : ∀ (E : String) (F1 : zF), px E F1 → E = "java/util/NoSuchElementException") : zMW l D cs A yL_linesIn cL_linesIn 4 (some FieldType.int) [((0 : Nat), (9 : Nat), (12 : Nat), (26 : Nat))] 8 1 6 [.ref ob, .int (iI x0), .ref ou] (zun Fg (z1 ou (zLa cs f0))) (pI (wPL cs ou ["java/util/NoSuchElementException"] post px)) := by
  refine zW_of (own := RL) (by decide) rfl (Nat.le_of_ble_eq_true rfl) ?_
  intro p e s m below meth c hC hr hlk hT hNc hZ ls hl
  have hx := hC.x
  have hb := hC.b
  have hl : lv_has ls 4 [(0, .ref ob), (1, .int (iI x0)), (2, .ref ou)] := hl
  refine lv_aload_n hx hb dL_linesIn_0 rfl (lv_at hl 2 rfl) ?_
  refine z_iconst hx hb dL_linesIn_1 ?_
  refine lv_aload_n hx hb dL_linesIn_2 rfl (lv_at hl 0 rfl) ?_
  refine lv_iload_n hx hb dL_linesIn_3 rfl (lv_at hl 1 rfl) ?_
  have hZg : zS D A s Fg s.heap [] := hZ.ul
  refine z_fcallX hC (z_frX (rest := [.int (iI 0), .ref ou]) (As := [.int (iI x0)]) (n := 1) (ci := 15) hC hZg (hM (zfA Fg s.heap)) gv_L_94 hd_X12_linesIn rfl hob rfl hl rfl (Nat.le_of_ble_eq_true rfl) ⟨Nat.le_of_ble_eq_true rfl, Nat.le_of_ble_eq_true rfl⟩ ⟨Nat.le_of_ble_eq_true rfl, Nat.le_of_ble_eq_true rfl⟩ dL_linesIn_4) hZg (fun E ce q9 Fg1 H locs hpE hZg1 hfr hce hcv hcl => ?_) (fun v Fg1 H locs hpv hZg1 hfr => ?_)
  · skip
    obtain ⟨hZo1, hdj1⟩ := hfr _ (zdj1 hou) (hZ.ur (zdj1 hou))
    have hZ := hZg1.un hZo1
    have hou1 := zdj1_i hdj1
    rcases hpx E Fg1 hpE with rfl
    refine vx_catch (name := "java/util/NoSuchElementException") hC.ow [] ⟨0, 9, 12, 26⟩ [] (hT.trans rfl) (fun z hz => absurd hz List.not_mem_nil) rfl (by decide) (hC.ts qk_L_26) (va_Nw.use rfl (hC.G.2.1 _ q_712)) hce hcv hcl ?_
    refine lv_astore_n (lv' := [(3, .ref q9), (0, .ref ob), (1, .int (iI x0)), (2, .ref ou)]) hx hb dL_linesIn_12 rfl hl (by decide) rfl (fun ls hl => ?_)
    refine z_iconst hx hb dL_linesIn_13 ?_
    exact z_iret hC hr hlk hZ (Nat.le_of_ble_eq_true rfl) (Nat.le_of_ble_eq_true rfl) ⟨Fg1, f0, rfl, hou1, Or.inr ⟨0, _, rfl, hpE, rfl⟩⟩ dL_linesIn_14
  · skip
    obtain ⟨r, rfl, hpr⟩ := hpv
    obtain ⟨hZo1, hdj1⟩ := hfr _ (zdj1 hou) (hZ.ur (zdj1 hou))
    have hZ := hZg1.un hZo1
    have hou1 := zdj1_i hdj1
    refine lv_i2l hx hb dL_linesIn_7 rfl ?_
    refine z_last hC hZ ((zun_r hou1).trans z1_s) dL_linesIn_8 (fun H locs hZ => ?_)
    rw [zun_up hou1] at hZ
    refine lv_goto (tgt := 15) hx hb dL_linesIn_9 (by decide) ?_
    refine z_iconst hx hb dL_linesIn_15 ?_
    exact z_iret hC hr hlk hZ (Nat.le_of_ble_eq_true rfl) (Nat.le_of_ble_eq_true rfl) ⟨Fg1, _, rfl, hou1, Or.inl ⟨rfl, r, hpr, rfl⟩⟩ dL_linesIn_16

set_option maxHeartbeats 4000000 in
set_option maxRecDepth 100000 in
theorem wr_columnOf (l : Launch) (D : va_G) (cs : Nat → ClassId) (A : Nat → Prop) (Fg : zF) (ob ou : Nat) (x0 : Int) (x1 : Int) (f0 : Nat → Int64) {fs : List Value} (hob : Fg ob = some (.inr (15, fs))) (hou : Fg ou = none) {post : Int → zF → Prop} {px : String → zF → Prop} (hM : ∀ A1 : Nat → Prop, zXM l D cs A1 yX12_columnOf cX12_columnOf 4 (some FieldType.int) 8 2 12 [.ref ob, .int (iI x0), .int (iI x1)] Fg (pI post) px) (hpx : ∀ (E : String) (F1 : zF), px E F1 → E = "java/util/NoSuchElementException") : zMW l D cs A yL_columnOf cL_columnOf 5 (some FieldType.int) [((0 : Nat), (10 : Nat), (13 : Nat), (26 : Nat))] 9 2 12 [.ref ob, .int (iI x0), .int (iI x1), .ref ou] (zun Fg (z1 ou (zLa cs f0))) (pI (wPL cs ou ["java/util/NoSuchElementException"] post px)) := by
  refine zW_of (own := RL) (by decide) rfl (Nat.le_of_ble_eq_true rfl) ?_
  intro p e s m below meth c hC hr hlk hT hNc hZ ls hl
  have hx := hC.x
  have hb := hC.b
  have hl : lv_has ls 5 [(0, .ref ob), (1, .int (iI x0)), (2, .int (iI x1)), (3, .ref ou)] := hl
  refine lv_aload_n hx hb dL_columnOf_0 rfl (lv_at hl 3 rfl) ?_
  refine z_iconst hx hb dL_columnOf_1 ?_
  refine lv_aload_n hx hb dL_columnOf_2 rfl (lv_at hl 0 rfl) ?_
  refine lv_iload_n hx hb dL_columnOf_3 rfl (lv_at hl 1 rfl) ?_
  refine lv_iload_n hx hb dL_columnOf_4 rfl (lv_at hl 2 rfl) ?_
  have hZg : zS D A s Fg s.heap [] := hZ.ul
  refine z_fcallX hC (z_frX (rest := [.int (iI 0), .ref ou]) (As := [.int (iI x0), .int (iI x1)]) (n := 2) (ci := 15) hC hZg (hM (zfA Fg s.heap)) gv_L_97 hd_X12_columnOf rfl hob rfl hl rfl (Nat.le_of_ble_eq_true rfl) ⟨Nat.le_of_ble_eq_true rfl, Nat.le_of_ble_eq_true rfl⟩ ⟨Nat.le_of_ble_eq_true rfl, Nat.le_of_ble_eq_true rfl⟩ dL_columnOf_5) hZg (fun E ce q9 Fg1 H locs hpE hZg1 hfr hce hcv hcl => ?_) (fun v Fg1 H locs hpv hZg1 hfr => ?_)
  · skip
    obtain ⟨hZo1, hdj1⟩ := hfr _ (zdj1 hou) (hZ.ur (zdj1 hou))
    have hZ := hZg1.un hZo1
    have hou1 := zdj1_i hdj1
    rcases hpx E Fg1 hpE with rfl
    refine vx_catch (name := "java/util/NoSuchElementException") hC.ow [] ⟨0, 10, 13, 26⟩ [] (hT.trans rfl) (fun z hz => absurd hz List.not_mem_nil) rfl (by decide) (hC.ts qk_L_26) (va_Nw.use rfl (hC.G.2.1 _ q_712)) hce hcv hcl ?_
    refine lv_astore (lv' := [(4, .ref q9), (0, .ref ob), (1, .int (iI x0)), (2, .int (iI x1)), (3, .ref ou)]) hx hb dL_columnOf_13 hl (by decide) rfl (fun ls hl => ?_)
    refine z_iconst hx hb dL_columnOf_15 ?_
    exact z_iret hC hr hlk hZ (Nat.le_of_ble_eq_true rfl) (Nat.le_of_ble_eq_true rfl) ⟨Fg1, f0, rfl, hou1, Or.inr ⟨0, _, rfl, hpE, rfl⟩⟩ dL_columnOf_16
  · skip
    obtain ⟨r, rfl, hpr⟩ := hpv
    obtain ⟨hZo1, hdj1⟩ := hfr _ (zdj1 hou) (hZ.ur (zdj1 hou))
    have hZ := hZg1.un hZo1
    have hou1 := zdj1_i hdj1
    refine lv_i2l hx hb dL_columnOf_8 rfl ?_
    refine z_last hC hZ ((zun_r hou1).trans z1_s) dL_columnOf_9 (fun H locs hZ => ?_)
    rw [zun_up hou1] at hZ
    refine lv_goto (tgt := 17) hx hb dL_columnOf_10 (by decide) ?_
    refine z_iconst hx hb dL_columnOf_17 ?_
    exact z_iret hC hr hlk hZ (Nat.le_of_ble_eq_true rfl) (Nat.le_of_ble_eq_true rfl) ⟨Fg1, _, rfl, hou1, Or.inl ⟨rfl, r, hpr, rfl⟩⟩ dL_columnOf_18

set_option maxHeartbeats 4000000 in
set_option maxRecDepth 100000 in
theorem wr_rowOf (l : Launch) (D : va_G) (cs : Nat → ClassId) (A : Nat → Prop) (Fg : zF) (ob ou : Nat) (x0 : Int) (x1 : Int) (f0 : Nat → Int64) {fs : List Value} (hob : Fg ob = some (.inr (15, fs))) (hou : Fg ou = none) {post : Int → zF → Prop} {px : String → zF → Prop} (hM : ∀ A1 : Nat → Prop, zXM l D cs A1 yX12_rowOf cX12_rowOf 4 (some FieldType.int) 8 2 12 [.ref ob, .int (iI x0), .int (iI x1)] Fg (pI post) px) (hpx : ∀ (E : String) (F1 : zF), px E F1 → E = "java/util/NoSuchElementException") : zMW l D cs A yL_rowOf cL_rowOf 5 (some FieldType.int) [((0 : Nat), (10 : Nat), (13 : Nat), (26 : Nat))] 9 2 12 [.ref ob, .int (iI x0), .int (iI x1), .ref ou] (zun Fg (z1 ou (zLa cs f0))) (pI (wPL cs ou ["java/util/NoSuchElementException"] post px)) := by
  refine zW_of (own := RL) (by decide) rfl (Nat.le_of_ble_eq_true rfl) ?_
  intro p e s m below meth c hC hr hlk hT hNc hZ ls hl
  have hx := hC.x
  have hb := hC.b
  have hl : lv_has ls 5 [(0, .ref ob), (1, .int (iI x0)), (2, .int (iI x1)), (3, .ref ou)] := hl
  refine lv_aload_n hx hb dL_rowOf_0 rfl (lv_at hl 3 rfl) ?_
  refine z_iconst hx hb dL_rowOf_1 ?_
  refine lv_aload_n hx hb dL_rowOf_2 rfl (lv_at hl 0 rfl) ?_
  refine lv_iload_n hx hb dL_rowOf_3 rfl (lv_at hl 1 rfl) ?_
  refine lv_iload_n hx hb dL_rowOf_4 rfl (lv_at hl 2 rfl) ?_
  have hZg : zS D A s Fg s.heap [] := hZ.ul
  refine z_fcallX hC (z_frX (rest := [.int (iI 0), .ref ou]) (As := [.int (iI x0), .int (iI x1)]) (n := 2) (ci := 15) hC hZg (hM (zfA Fg s.heap)) gv_L_100 hd_X12_rowOf rfl hob rfl hl rfl (Nat.le_of_ble_eq_true rfl) ⟨Nat.le_of_ble_eq_true rfl, Nat.le_of_ble_eq_true rfl⟩ ⟨Nat.le_of_ble_eq_true rfl, Nat.le_of_ble_eq_true rfl⟩ dL_rowOf_5) hZg (fun E ce q9 Fg1 H locs hpE hZg1 hfr hce hcv hcl => ?_) (fun v Fg1 H locs hpv hZg1 hfr => ?_)
  · skip
    obtain ⟨hZo1, hdj1⟩ := hfr _ (zdj1 hou) (hZ.ur (zdj1 hou))
    have hZ := hZg1.un hZo1
    have hou1 := zdj1_i hdj1
    rcases hpx E Fg1 hpE with rfl
    refine vx_catch (name := "java/util/NoSuchElementException") hC.ow [] ⟨0, 10, 13, 26⟩ [] (hT.trans rfl) (fun z hz => absurd hz List.not_mem_nil) rfl (by decide) (hC.ts qk_L_26) (va_Nw.use rfl (hC.G.2.1 _ q_712)) hce hcv hcl ?_
    refine lv_astore (lv' := [(4, .ref q9), (0, .ref ob), (1, .int (iI x0)), (2, .int (iI x1)), (3, .ref ou)]) hx hb dL_rowOf_13 hl (by decide) rfl (fun ls hl => ?_)
    refine z_iconst hx hb dL_rowOf_15 ?_
    exact z_iret hC hr hlk hZ (Nat.le_of_ble_eq_true rfl) (Nat.le_of_ble_eq_true rfl) ⟨Fg1, f0, rfl, hou1, Or.inr ⟨0, _, rfl, hpE, rfl⟩⟩ dL_rowOf_16
  · skip
    obtain ⟨r, rfl, hpr⟩ := hpv
    obtain ⟨hZo1, hdj1⟩ := hfr _ (zdj1 hou) (hZ.ur (zdj1 hou))
    have hZ := hZg1.un hZo1
    have hou1 := zdj1_i hdj1
    refine lv_i2l hx hb dL_rowOf_8 rfl ?_
    refine z_last hC hZ ((zun_r hou1).trans z1_s) dL_rowOf_9 (fun H locs hZ => ?_)
    rw [zun_up hou1] at hZ
    refine lv_goto (tgt := 17) hx hb dL_rowOf_10 (by decide) ?_
    refine z_iconst hx hb dL_rowOf_17 ?_
    exact z_iret hC hr hlk hZ (Nat.le_of_ble_eq_true rfl) (Nat.le_of_ble_eq_true rfl) ⟨Fg1, _, rfl, hou1, Or.inl ⟨rfl, r, hpr, rfl⟩⟩ dL_rowOf_18

set_option maxHeartbeats 4000000 in
set_option maxRecDepth 100000 in
theorem wr_coverage (l : Launch) (D : va_G) (cs : Nat → ClassId) (A : Nat → Prop) (Fg : zF) (ob ou : Nat) (x0 : Int) (f0 : Nat → UInt64) {fs : List Value} (hob : Fg ob = some (.inr (15, fs))) (hou : Fg ou = none) {post : UInt32 → zF → Prop} {px : String → zF → Prop} (hM : ∀ A1 : Nat → Prop, zXM l D cs A1 yX12_coverage cX12_coverage 2 (some FieldType.float) 7 1 6 [.ref ob, .int (iI x0)] Fg (pF post) px) (hpx : ∀ (E : String) (F1 : zF), px E F1 → E = "java/util/NoSuchElementException") (hfp : ∀ (r : UInt32) (F1 : zF), post r F1 → fP r) : zMW l D cs A yL_coverage cL_coverage 4 (some FieldType.int) [((0 : Nat), (9 : Nat), (12 : Nat), (26 : Nat))] 8 1 6 [.ref ob, .int (iI x0), .ref ou] (zun Fg (z1 ou (zDa cs f0))) (pI (wPD cs ou ["java/util/NoSuchElementException"] (fun y F => ∃ r : UInt32, post r F ∧ y = FP.f2d r) px)) := by
  refine zW_of (own := RL) (by decide) rfl (Nat.le_of_ble_eq_true rfl) ?_
  intro p e s m below meth c hC hr hlk hT hNc hZ ls hl
  have hx := hC.x
  have hb := hC.b
  have hl : lv_has ls 4 [(0, .ref ob), (1, .int (iI x0)), (2, .ref ou)] := hl
  refine lv_aload_n hx hb dL_coverage_0 rfl (lv_at hl 2 rfl) ?_
  refine z_iconst hx hb dL_coverage_1 ?_
  refine lv_aload_n hx hb dL_coverage_2 rfl (lv_at hl 0 rfl) ?_
  refine lv_iload_n hx hb dL_coverage_3 rfl (lv_at hl 1 rfl) ?_
  have hZg : zS D A s Fg s.heap [] := hZ.ul
  refine z_fcallX hC (z_frX (rest := [.int (iI 0), .ref ou]) (As := [.int (iI x0)]) (n := 1) (ci := 15) hC hZg (hM (zfA Fg s.heap)) gv_L_103 hd_X12_coverage rfl hob rfl hl rfl (Nat.le_of_ble_eq_true rfl) ⟨Nat.le_of_ble_eq_true rfl, Nat.le_of_ble_eq_true rfl⟩ ⟨Nat.le_of_ble_eq_true rfl, Nat.le_of_ble_eq_true rfl⟩ dL_coverage_4) hZg (fun E ce q9 Fg1 H locs hpE hZg1 hfr hce hcv hcl => ?_) (fun v Fg1 H locs hpv hZg1 hfr => ?_)
  · skip
    obtain ⟨hZo1, hdj1⟩ := hfr _ (zdj1 hou) (hZ.ur (zdj1 hou))
    have hZ := hZg1.un hZo1
    have hou1 := zdj1_i hdj1
    rcases hpx E Fg1 hpE with rfl
    refine vx_catch (name := "java/util/NoSuchElementException") hC.ow [] ⟨0, 9, 12, 26⟩ [] (hT.trans rfl) (fun z hz => absurd hz List.not_mem_nil) rfl (by decide) (hC.ts qk_L_26) (va_Nw.use rfl (hC.G.2.1 _ q_712)) hce hcv hcl ?_
    refine lv_astore_n (lv' := [(3, .ref q9), (0, .ref ob), (1, .int (iI x0)), (2, .ref ou)]) hx hb dL_coverage_12 rfl hl (by decide) rfl (fun ls hl => ?_)
    refine z_iconst hx hb dL_coverage_13 ?_
    exact z_iret hC hr hlk hZ (Nat.le_of_ble_eq_true rfl) (Nat.le_of_ble_eq_true rfl) ⟨Fg1, f0, rfl, hou1, Or.inr ⟨0, _, rfl, hpE, rfl⟩⟩ dL_coverage_14
  · skip
    obtain ⟨r, rfl, hpr⟩ := hpv
    obtain ⟨hZo1, hdj1⟩ := hfr _ (zdj1 hou) (hZ.ur (zdj1 hou))
    have hZ := hZg1.un hZo1
    have hou1 := zdj1_i hdj1
    refine lv_f2d hx hb dL_coverage_7 (vf_of64 (dQ_f2d (hfp r Fg1 hpr))) ?_
    refine z_dast hC hZ ((zun_r hou1).trans z1_s) dL_coverage_8 (fun H locs hZ => ?_)
    rw [zun_up hou1] at hZ
    refine lv_goto (tgt := 15) hx hb dL_coverage_9 (by decide) ?_
    refine z_iconst hx hb dL_coverage_15 ?_
    exact z_iret hC hr hlk hZ (Nat.le_of_ble_eq_true rfl) (Nat.le_of_ble_eq_true rfl) ⟨Fg1, _, rfl, hou1, Or.inl ⟨rfl, FP.f2d r, ⟨r, hpr, rfl⟩, rfl⟩⟩ dL_coverage_16

set_option maxHeartbeats 4000000 in
set_option maxRecDepth 100000 in
theorem wr_passDays (l : Launch) (D : va_G) (cs : Nat → ClassId) (A : Nat → Prop) (Fg : zF) (ob ou : Nat) (x0 : Int) (f0 : Nat → Int64) {fs : List Value} (hob : Fg ob = some (.inr (15, fs))) (hou : Fg ou = none) {post : Int → zF → Prop} {px : String → zF → Prop} (hM : ∀ A1 : Nat → Prop, zXM l D cs A1 yX12_passDays cX12_passDays 4 (some FieldType.int) 9 18 143 [.ref ob, .int (iI x0)] Fg (pI post) px) (hpx : ∀ (E : String) (F1 : zF), px E F1 → E = "java/lang/IllegalArgumentException") : zMW l D cs A yL_passDays cL_passDays 4 (some FieldType.int) [((0 : Nat), (9 : Nat), (12 : Nat), (13 : Nat))] 10 18 143 [.ref ob, .int (iI x0), .ref ou] (zun Fg (z1 ou (zLa cs f0))) (pI (wPL cs ou ["java/lang/IllegalArgumentException"] post px)) := by
  refine zW_of (own := RL) (by decide) rfl (Nat.le_of_ble_eq_true rfl) ?_
  intro p e s m below meth c hC hr hlk hT hNc hZ ls hl
  have hx := hC.x
  have hb := hC.b
  have hl : lv_has ls 4 [(0, .ref ob), (1, .int (iI x0)), (2, .ref ou)] := hl
  refine lv_aload_n hx hb dL_passDays_0 rfl (lv_at hl 2 rfl) ?_
  refine z_iconst hx hb dL_passDays_1 ?_
  refine lv_aload_n hx hb dL_passDays_2 rfl (lv_at hl 0 rfl) ?_
  refine lv_iload_n hx hb dL_passDays_3 rfl (lv_at hl 1 rfl) ?_
  have hZg : zS D A s Fg s.heap [] := hZ.ul
  refine z_fcallX hC (z_frX (rest := [.int (iI 0), .ref ou]) (As := [.int (iI x0)]) (n := 1) (ci := 15) hC hZg (hM (zfA Fg s.heap)) gv_L_107 hd_X12_passDays rfl hob rfl hl rfl (Nat.le_of_ble_eq_true rfl) ⟨Nat.le_of_ble_eq_true rfl, Nat.le_of_ble_eq_true rfl⟩ ⟨Nat.le_of_ble_eq_true rfl, Nat.le_of_ble_eq_true rfl⟩ dL_passDays_4) hZg (fun E ce q9 Fg1 H locs hpE hZg1 hfr hce hcv hcl => ?_) (fun v Fg1 H locs hpv hZg1 hfr => ?_)
  · skip
    obtain ⟨hZo1, hdj1⟩ := hfr _ (zdj1 hou) (hZ.ur (zdj1 hou))
    have hZ := hZg1.un hZo1
    have hou1 := zdj1_i hdj1
    rcases hpx E Fg1 hpE with rfl
    refine vx_catch (name := "java/lang/IllegalArgumentException") hC.ow [] ⟨0, 9, 12, 13⟩ [] (hT.trans rfl) (fun z hz => absurd hz List.not_mem_nil) rfl (by decide) (hC.ts qk_L_13) (va_Nw.use rfl (hC.G.2.1 _ q_421)) hce hcv hcl ?_
    refine lv_astore_n (lv' := [(3, .ref q9), (0, .ref ob), (1, .int (iI x0)), (2, .ref ou)]) hx hb dL_passDays_12 rfl hl (by decide) rfl (fun ls hl => ?_)
    refine z_iconst hx hb dL_passDays_13 ?_
    exact z_iret hC hr hlk hZ (Nat.le_of_ble_eq_true rfl) (Nat.le_of_ble_eq_true rfl) ⟨Fg1, f0, rfl, hou1, Or.inr ⟨0, _, rfl, hpE, rfl⟩⟩ dL_passDays_14
  · skip
    obtain ⟨r, rfl, hpr⟩ := hpv
    obtain ⟨hZo1, hdj1⟩ := hfr _ (zdj1 hou) (hZ.ur (zdj1 hou))
    have hZ := hZg1.un hZo1
    have hou1 := zdj1_i hdj1
    refine lv_i2l hx hb dL_passDays_7 rfl ?_
    refine z_last hC hZ ((zun_r hou1).trans z1_s) dL_passDays_8 (fun H locs hZ => ?_)
    rw [zun_up hou1] at hZ
    refine lv_goto (tgt := 15) hx hb dL_passDays_9 (by decide) ?_
    refine z_iconst hx hb dL_passDays_15 ?_
    exact z_iret hC hr hlk hZ (Nat.le_of_ble_eq_true rfl) (Nat.le_of_ble_eq_true rfl) ⟨Fg1, _, rfl, hou1, Or.inl ⟨rfl, r, hpr, rfl⟩⟩ dL_passDays_16

set_option maxHeartbeats 4000000 in
set_option maxRecDepth 100000 in
theorem wr_freshness (l : Launch) (D : va_G) (cs : Nat → ClassId) (A : Nat → Prop) (Fg : zF) (ob ou : Nat) (x0 : Int) (f0 : Nat → UInt64) {fs : List Value} (hob : Fg ob = some (.inr (15, fs))) (hou : Fg ou = none) {post : UInt32 → zF → Prop} {px : String → zF → Prop} (hM : ∀ A1 : Nat → Prop, zXM l D cs A1 yX12_freshness cX12_freshness 2 (some FieldType.float) 7 1 6 [.ref ob, .int (iI x0)] Fg (pF post) px) (hpx : ∀ (E : String) (F1 : zF), px E F1 → E = "java/util/NoSuchElementException") (hfp : ∀ (r : UInt32) (F1 : zF), post r F1 → fP r) : zMW l D cs A yL_freshness cL_freshness 4 (some FieldType.int) [((0 : Nat), (9 : Nat), (12 : Nat), (26 : Nat))] 8 1 6 [.ref ob, .int (iI x0), .ref ou] (zun Fg (z1 ou (zDa cs f0))) (pI (wPD cs ou ["java/util/NoSuchElementException"] (fun y F => ∃ r : UInt32, post r F ∧ y = FP.f2d r) px)) := by
  refine zW_of (own := RL) (by decide) rfl (Nat.le_of_ble_eq_true rfl) ?_
  intro p e s m below meth c hC hr hlk hT hNc hZ ls hl
  have hx := hC.x
  have hb := hC.b
  have hl : lv_has ls 4 [(0, .ref ob), (1, .int (iI x0)), (2, .ref ou)] := hl
  refine lv_aload_n hx hb dL_freshness_0 rfl (lv_at hl 2 rfl) ?_
  refine z_iconst hx hb dL_freshness_1 ?_
  refine lv_aload_n hx hb dL_freshness_2 rfl (lv_at hl 0 rfl) ?_
  refine lv_iload_n hx hb dL_freshness_3 rfl (lv_at hl 1 rfl) ?_
  have hZg : zS D A s Fg s.heap [] := hZ.ul
  refine z_fcallX hC (z_frX (rest := [.int (iI 0), .ref ou]) (As := [.int (iI x0)]) (n := 1) (ci := 15) hC hZg (hM (zfA Fg s.heap)) gv_L_110 hd_X12_freshness rfl hob rfl hl rfl (Nat.le_of_ble_eq_true rfl) ⟨Nat.le_of_ble_eq_true rfl, Nat.le_of_ble_eq_true rfl⟩ ⟨Nat.le_of_ble_eq_true rfl, Nat.le_of_ble_eq_true rfl⟩ dL_freshness_4) hZg (fun E ce q9 Fg1 H locs hpE hZg1 hfr hce hcv hcl => ?_) (fun v Fg1 H locs hpv hZg1 hfr => ?_)
  · skip
    obtain ⟨hZo1, hdj1⟩ := hfr _ (zdj1 hou) (hZ.ur (zdj1 hou))
    have hZ := hZg1.un hZo1
    have hou1 := zdj1_i hdj1
    rcases hpx E Fg1 hpE with rfl
    refine vx_catch (name := "java/util/NoSuchElementException") hC.ow [] ⟨0, 9, 12, 26⟩ [] (hT.trans rfl) (fun z hz => absurd hz List.not_mem_nil) rfl (by decide) (hC.ts qk_L_26) (va_Nw.use rfl (hC.G.2.1 _ q_712)) hce hcv hcl ?_
    refine lv_astore_n (lv' := [(3, .ref q9), (0, .ref ob), (1, .int (iI x0)), (2, .ref ou)]) hx hb dL_freshness_12 rfl hl (by decide) rfl (fun ls hl => ?_)
    refine z_iconst hx hb dL_freshness_13 ?_
    exact z_iret hC hr hlk hZ (Nat.le_of_ble_eq_true rfl) (Nat.le_of_ble_eq_true rfl) ⟨Fg1, f0, rfl, hou1, Or.inr ⟨0, _, rfl, hpE, rfl⟩⟩ dL_freshness_14
  · skip
    obtain ⟨r, rfl, hpr⟩ := hpv
    obtain ⟨hZo1, hdj1⟩ := hfr _ (zdj1 hou) (hZ.ur (zdj1 hou))
    have hZ := hZg1.un hZo1
    have hou1 := zdj1_i hdj1
    refine lv_f2d hx hb dL_freshness_7 (vf_of64 (dQ_f2d (hfp r Fg1 hpr))) ?_
    refine z_dast hC hZ ((zun_r hou1).trans z1_s) dL_freshness_8 (fun H locs hZ => ?_)
    rw [zun_up hou1] at hZ
    refine lv_goto (tgt := 15) hx hb dL_freshness_9 (by decide) ?_
    refine z_iconst hx hb dL_freshness_15 ?_
    exact z_iret hC hr hlk hZ (Nat.le_of_ble_eq_true rfl) (Nat.le_of_ble_eq_true rfl) ⟨Fg1, _, rfl, hou1, Or.inl ⟨rfl, FP.f2d r, ⟨r, hpr, rfl⟩, rfl⟩⟩ dL_freshness_16

set_option maxHeartbeats 4000000 in
set_option maxRecDepth 100000 in
theorem wr_freshnessBits (l : Launch) (D : va_G) (cs : Nat → ClassId) (A : Nat → Prop) (Fg : zF) (ob ou : Nat) (x0 : Int) (f0 : Nat → Int64) {fs : List Value} (hob : Fg ob = some (.inr (15, fs))) (hou : Fg ou = none) {post : Int → zF → Prop} {px : String → zF → Prop} (hM : ∀ A1 : Nat → Prop, zXM l D cs A1 yX12_freshnessBits cX12_freshnessBits 2 (some FieldType.int) 7 1 6 [.ref ob, .int (iI x0)] Fg (pI post) px) (hpx : ∀ (E : String) (F1 : zF), px E F1 → E = "java/util/NoSuchElementException") : zMW l D cs A yL_freshnessBits cL_freshnessBits 4 (some FieldType.int) [((0 : Nat), (9 : Nat), (12 : Nat), (26 : Nat))] 8 1 6 [.ref ob, .int (iI x0), .ref ou] (zun Fg (z1 ou (zLa cs f0))) (pI (wPL cs ou ["java/util/NoSuchElementException"] post px)) := by
  refine zW_of (own := RL) (by decide) rfl (Nat.le_of_ble_eq_true rfl) ?_
  intro p e s m below meth c hC hr hlk hT hNc hZ ls hl
  have hx := hC.x
  have hb := hC.b
  have hl : lv_has ls 4 [(0, .ref ob), (1, .int (iI x0)), (2, .ref ou)] := hl
  refine lv_aload_n hx hb dL_freshnessBits_0 rfl (lv_at hl 2 rfl) ?_
  refine z_iconst hx hb dL_freshnessBits_1 ?_
  refine lv_aload_n hx hb dL_freshnessBits_2 rfl (lv_at hl 0 rfl) ?_
  refine lv_iload_n hx hb dL_freshnessBits_3 rfl (lv_at hl 1 rfl) ?_
  have hZg : zS D A s Fg s.heap [] := hZ.ul
  refine z_fcallX hC (z_frX (rest := [.int (iI 0), .ref ou]) (As := [.int (iI x0)]) (n := 1) (ci := 15) hC hZg (hM (zfA Fg s.heap)) gv_L_113 hd_X12_freshnessBits rfl hob rfl hl rfl (Nat.le_of_ble_eq_true rfl) ⟨Nat.le_of_ble_eq_true rfl, Nat.le_of_ble_eq_true rfl⟩ ⟨Nat.le_of_ble_eq_true rfl, Nat.le_of_ble_eq_true rfl⟩ dL_freshnessBits_4) hZg (fun E ce q9 Fg1 H locs hpE hZg1 hfr hce hcv hcl => ?_) (fun v Fg1 H locs hpv hZg1 hfr => ?_)
  · skip
    obtain ⟨hZo1, hdj1⟩ := hfr _ (zdj1 hou) (hZ.ur (zdj1 hou))
    have hZ := hZg1.un hZo1
    have hou1 := zdj1_i hdj1
    rcases hpx E Fg1 hpE with rfl
    refine vx_catch (name := "java/util/NoSuchElementException") hC.ow [] ⟨0, 9, 12, 26⟩ [] (hT.trans rfl) (fun z hz => absurd hz List.not_mem_nil) rfl (by decide) (hC.ts qk_L_26) (va_Nw.use rfl (hC.G.2.1 _ q_712)) hce hcv hcl ?_
    refine lv_astore_n (lv' := [(3, .ref q9), (0, .ref ob), (1, .int (iI x0)), (2, .ref ou)]) hx hb dL_freshnessBits_12 rfl hl (by decide) rfl (fun ls hl => ?_)
    refine z_iconst hx hb dL_freshnessBits_13 ?_
    exact z_iret hC hr hlk hZ (Nat.le_of_ble_eq_true rfl) (Nat.le_of_ble_eq_true rfl) ⟨Fg1, f0, rfl, hou1, Or.inr ⟨0, _, rfl, hpE, rfl⟩⟩ dL_freshnessBits_14
  · skip
    obtain ⟨r, rfl, hpr⟩ := hpv
    obtain ⟨hZo1, hdj1⟩ := hfr _ (zdj1 hou) (hZ.ur (zdj1 hou))
    have hZ := hZg1.un hZo1
    have hou1 := zdj1_i hdj1
    refine lv_i2l hx hb dL_freshnessBits_7 rfl ?_
    refine z_last hC hZ ((zun_r hou1).trans z1_s) dL_freshnessBits_8 (fun H locs hZ => ?_)
    rw [zun_up hou1] at hZ
    refine lv_goto (tgt := 15) hx hb dL_freshnessBits_9 (by decide) ?_
    refine z_iconst hx hb dL_freshnessBits_15 ?_
    exact z_iret hC hr hlk hZ (Nat.le_of_ble_eq_true rfl) (Nat.le_of_ble_eq_true rfl) ⟨Fg1, _, rfl, hou1, Or.inl ⟨rfl, r, hpr, rfl⟩⟩ dL_freshnessBits_16

set_option maxHeartbeats 4000000 in
set_option maxRecDepth 100000 in
theorem wr_isReadable (l : Launch) (D : va_G) (cs : Nat → ClassId) (A : Nat → Prop) (Fg : zF) (ob ou : Nat) (x0 : Int) (f0 : Nat → Int64) {fs : List Value} (hob : Fg ob = some (.inr (15, fs))) (hou : Fg ou = none) {post : Int → zF → Prop} {px : String → zF → Prop} (hM : ∀ A1 : Nat → Prop, zXM l D cs A1 yX12_isReadable cX12_isReadable 2 (some FieldType.boolean) 7 1 6 [.ref ob, .int (iI x0)] Fg (pI post) px) (hpx : ∀ (E : String) (F1 : zF), px E F1 → E = "java/util/NoSuchElementException") (h01 : ∀ (r : Int) (F1 : zF), post r F1 → r = 0 ∨ r = 1) : zMW l D cs A yL_isReadable cL_isReadable 4 (some FieldType.int) [((0 : Nat), (16 : Nat), (19 : Nat), (26 : Nat))] 8 1 6 [.ref ob, .int (iI x0), .ref ou] (zun Fg (z1 ou (zLa cs f0))) (pI (wPL cs ou ["java/util/NoSuchElementException"] post px)) := by
  refine zW_of (own := RL) (by decide) rfl (Nat.le_of_ble_eq_true rfl) ?_
  intro p e s m below meth c hC hr hlk hT hNc hZ ls hl
  have hx := hC.x
  have hb := hC.b
  have hl : lv_has ls 4 [(0, .ref ob), (1, .int (iI x0)), (2, .ref ou)] := hl
  refine lv_aload_n hx hb dL_isReadable_0 rfl (lv_at hl 2 rfl) ?_
  refine z_iconst hx hb dL_isReadable_1 ?_
  refine lv_aload_n hx hb dL_isReadable_2 rfl (lv_at hl 0 rfl) ?_
  refine lv_iload_n hx hb dL_isReadable_3 rfl (lv_at hl 1 rfl) ?_
  have hZg : zS D A s Fg s.heap [] := hZ.ul
  refine z_fcallX hC (z_frX (rest := [.int (iI 0), .ref ou]) (As := [.int (iI x0)]) (n := 1) (ci := 15) hC hZg (hM (zfA Fg s.heap)) gv_L_116 hd_X12_isReadable rfl hob rfl hl rfl (Nat.le_of_ble_eq_true rfl) ⟨Nat.le_of_ble_eq_true rfl, Nat.le_of_ble_eq_true rfl⟩ ⟨Nat.le_of_ble_eq_true rfl, Nat.le_of_ble_eq_true rfl⟩ dL_isReadable_4) hZg (fun E ce q9 Fg1 H locs hpE hZg1 hfr hce hcv hcl => ?_) (fun v Fg1 H locs hpv hZg1 hfr => ?_)
  · skip
    obtain ⟨hZo1, hdj1⟩ := hfr _ (zdj1 hou) (hZ.ur (zdj1 hou))
    have hZ := hZg1.un hZo1
    have hou1 := zdj1_i hdj1
    rcases hpx E Fg1 hpE with rfl
    refine vx_catch (name := "java/util/NoSuchElementException") hC.ow [] ⟨0, 16, 19, 26⟩ [] (hT.trans rfl) (fun z hz => absurd hz List.not_mem_nil) rfl (by decide) (hC.ts qk_L_26) (va_Nw.use rfl (hC.G.2.1 _ q_712)) hce hcv hcl ?_
    refine lv_astore_n (lv' := [(3, .ref q9), (0, .ref ob), (1, .int (iI x0)), (2, .ref ou)]) hx hb dL_isReadable_19 rfl hl (by decide) rfl (fun ls hl => ?_)
    refine z_iconst hx hb dL_isReadable_20 ?_
    exact z_iret hC hr hlk hZ (Nat.le_of_ble_eq_true rfl) (Nat.le_of_ble_eq_true rfl) ⟨Fg1, f0, rfl, hou1, Or.inr ⟨0, _, rfl, hpE, rfl⟩⟩ dL_isReadable_21
  · skip
    obtain ⟨r, rfl, hpr⟩ := hpv
    obtain ⟨hZo1, hdj1⟩ := hfr _ (zdj1 hou) (hZ.ur (zdj1 hou))
    have hZ := hZg1.un hZo1
    have hou1 := zdj1_i hdj1
    rcases h01 r Fg1 hpr with rfl | rfl
    · skip
      refine z_if_eq (tgt := 14) hx hb dL_isReadable_7 (by decide) (by decide) (fun c9 => ?_) (fun c9 => ?_)
      · skip
        refine lv_lconst hx hb dL_isReadable_14 rfl ?_
        refine z_last hC hZ ((zun_r hou1).trans z1_s) dL_isReadable_15 (fun H locs hZ => ?_)
        rw [zun_up hou1] at hZ
        refine lv_goto (tgt := 22) hx hb dL_isReadable_16 (by decide) ?_
        refine z_iconst hx hb dL_isReadable_22 ?_
        exact z_iret hC hr hlk hZ (Nat.le_of_ble_eq_true rfl) (Nat.le_of_ble_eq_true rfl) ⟨Fg1, _, rfl, hou1, Or.inl ⟨rfl, 0, hpr, rfl⟩⟩ dL_isReadable_23
      · skip
        exact absurd rfl c9
    · skip
      refine z_if_eq (tgt := 14) hx hb dL_isReadable_7 (by decide) (by decide) (fun c9 => ?_) (fun c9 => ?_)
      · skip
        exact absurd c9 (by decide)
      · skip
        refine lv_lconst hx hb dL_isReadable_10 rfl ?_
        refine lv_goto (tgt := 15) hx hb dL_isReadable_11 (by decide) ?_
        refine z_last hC hZ ((zun_r hou1).trans z1_s) dL_isReadable_15 (fun H locs hZ => ?_)
        rw [zun_up hou1] at hZ
        refine lv_goto (tgt := 22) hx hb dL_isReadable_16 (by decide) ?_
        refine z_iconst hx hb dL_isReadable_22 ?_
        exact z_iret hC hr hlk hZ (Nat.le_of_ble_eq_true rfl) (Nat.le_of_ble_eq_true rfl) ⟨Fg1, _, rfl, hou1, Or.inl ⟨rfl, 1, hpr, rfl⟩⟩ dL_isReadable_23

set_option maxHeartbeats 4000000 in
set_option maxRecDepth 100000 in
theorem wr_daysUntilUnreadable (l : Launch) (D : va_G) (cs : Nat → ClassId) (A : Nat → Prop) (Fg : zF) (ob ou : Nat) (x0 : Int) (f0 : Nat → Int64) {fs : List Value} (hob : Fg ob = some (.inr (15, fs))) (hou : Fg ou = none) {post : Int → zF → Prop} {px : String → zF → Prop} (hM : ∀ A1 : Nat → Prop, zXM l D cs A1 yX12_daysUntilUnreadable cX12_daysUntilUnreadable 4 (some FieldType.int) 7 31 96 [.ref ob, .int (iI x0)] Fg (pI post) px) (hpx : ∀ (E : String) (F1 : zF), px E F1 → E = "java/util/NoSuchElementException") : zMW l D cs A yL_daysUntilUnreadable cL_daysUntilUnreadable 4 (some FieldType.int) [((0 : Nat), (9 : Nat), (12 : Nat), (26 : Nat))] 8 31 96 [.ref ob, .int (iI x0), .ref ou] (zun Fg (z1 ou (zLa cs f0))) (pI (wPL cs ou ["java/util/NoSuchElementException"] post px)) := by
  refine zW_of (own := RL) (by decide) rfl (Nat.le_of_ble_eq_true rfl) ?_
  intro p e s m below meth c hC hr hlk hT hNc hZ ls hl
  have hx := hC.x
  have hb := hC.b
  have hl : lv_has ls 4 [(0, .ref ob), (1, .int (iI x0)), (2, .ref ou)] := hl
  refine lv_aload_n hx hb dL_daysUntilUnreadable_0 rfl (lv_at hl 2 rfl) ?_
  refine z_iconst hx hb dL_daysUntilUnreadable_1 ?_
  refine lv_aload_n hx hb dL_daysUntilUnreadable_2 rfl (lv_at hl 0 rfl) ?_
  refine lv_iload_n hx hb dL_daysUntilUnreadable_3 rfl (lv_at hl 1 rfl) ?_
  have hZg : zS D A s Fg s.heap [] := hZ.ul
  refine z_fcallX hC (z_frX (rest := [.int (iI 0), .ref ou]) (As := [.int (iI x0)]) (n := 1) (ci := 15) hC hZg (hM (zfA Fg s.heap)) gv_L_119 hd_X12_daysUntilUnreadable rfl hob rfl hl rfl (Nat.le_of_ble_eq_true rfl) ⟨Nat.le_of_ble_eq_true rfl, Nat.le_of_ble_eq_true rfl⟩ ⟨Nat.le_of_ble_eq_true rfl, Nat.le_of_ble_eq_true rfl⟩ dL_daysUntilUnreadable_4) hZg (fun E ce q9 Fg1 H locs hpE hZg1 hfr hce hcv hcl => ?_) (fun v Fg1 H locs hpv hZg1 hfr => ?_)
  · skip
    obtain ⟨hZo1, hdj1⟩ := hfr _ (zdj1 hou) (hZ.ur (zdj1 hou))
    have hZ := hZg1.un hZo1
    have hou1 := zdj1_i hdj1
    rcases hpx E Fg1 hpE with rfl
    refine vx_catch (name := "java/util/NoSuchElementException") hC.ow [] ⟨0, 9, 12, 26⟩ [] (hT.trans rfl) (fun z hz => absurd hz List.not_mem_nil) rfl (by decide) (hC.ts qk_L_26) (va_Nw.use rfl (hC.G.2.1 _ q_712)) hce hcv hcl ?_
    refine lv_astore_n (lv' := [(3, .ref q9), (0, .ref ob), (1, .int (iI x0)), (2, .ref ou)]) hx hb dL_daysUntilUnreadable_12 rfl hl (by decide) rfl (fun ls hl => ?_)
    refine z_iconst hx hb dL_daysUntilUnreadable_13 ?_
    exact z_iret hC hr hlk hZ (Nat.le_of_ble_eq_true rfl) (Nat.le_of_ble_eq_true rfl) ⟨Fg1, f0, rfl, hou1, Or.inr ⟨0, _, rfl, hpE, rfl⟩⟩ dL_daysUntilUnreadable_14
  · skip
    obtain ⟨r, rfl, hpr⟩ := hpv
    obtain ⟨hZo1, hdj1⟩ := hfr _ (zdj1 hou) (hZ.ur (zdj1 hou))
    have hZ := hZg1.un hZo1
    have hou1 := zdj1_i hdj1
    refine lv_i2l hx hb dL_daysUntilUnreadable_7 rfl ?_
    refine z_last hC hZ ((zun_r hou1).trans z1_s) dL_daysUntilUnreadable_8 (fun H locs hZ => ?_)
    rw [zun_up hou1] at hZ
    refine lv_goto (tgt := 15) hx hb dL_daysUntilUnreadable_9 (by decide) ?_
    refine z_iconst hx hb dL_daysUntilUnreadable_15 ?_
    exact z_iret hC hr hlk hZ (Nat.le_of_ble_eq_true rfl) (Nat.le_of_ble_eq_true rfl) ⟨Fg1, _, rfl, hou1, Or.inl ⟨rfl, r, hpr, rfl⟩⟩ dL_daysUntilUnreadable_16

set_option maxHeartbeats 4000000 in
set_option maxRecDepth 100000 in
theorem wr_meanWordLength (l : Launch) (D : va_G) (cs : Nat → ClassId) (A : Nat → Prop) (Fg : zF) (ob ou : Nat) (f0 : Nat → UInt64) {fs : List Value} (hob : Fg ob = some (.inr (15, fs))) (hou : Fg ou = none) {post : UInt64 → zF → Prop} {px : String → zF → Prop} (hM : ∀ A1 : Nat → Prop, zXM l D cs A1 yX12_meanWordLength cX12_meanWordLength 5 (some FieldType.double) 6 1 6 [.ref ob] Fg (pD post) px) (hpx : ∀ (E : String) (F1 : zF), px E F1 → E = "java/lang/ArithmeticException") : zMW l D cs A yL_meanWordLength cL_meanWordLength 3 (some FieldType.int) [((0 : Nat), (7 : Nat), (10 : Nat), (126 : Nat))] 7 1 6 [.ref ob, .ref ou] (zun Fg (z1 ou (zDa cs f0))) (pI (wPD cs ou ["java/lang/ArithmeticException"] post px)) := by
  refine zW_of (own := RL) (by decide) rfl (Nat.le_of_ble_eq_true rfl) ?_
  intro p e s m below meth c hC hr hlk hT hNc hZ ls hl
  have hx := hC.x
  have hb := hC.b
  have hl : lv_has ls 3 [(0, .ref ob), (1, .ref ou)] := hl
  refine lv_aload_n hx hb dL_meanWordLength_0 rfl (lv_at hl 1 rfl) ?_
  refine z_iconst hx hb dL_meanWordLength_1 ?_
  refine lv_aload_n hx hb dL_meanWordLength_2 rfl (lv_at hl 0 rfl) ?_
  have hZg : zS D A s Fg s.heap [] := hZ.ul
  refine z_fcallX hC (z_frX (rest := [.int (iI 0), .ref ou]) (As := []) (n := 0) (ci := 15) hC hZg (hM (zfA Fg s.heap)) gv_L_122 hd_X12_meanWordLength rfl hob rfl hl rfl (Nat.le_of_ble_eq_true rfl) ⟨Nat.le_of_ble_eq_true rfl, Nat.le_of_ble_eq_true rfl⟩ ⟨Nat.le_of_ble_eq_true rfl, Nat.le_of_ble_eq_true rfl⟩ dL_meanWordLength_3) hZg (fun E ce q9 Fg1 H locs hpE hZg1 hfr hce hcv hcl => ?_) (fun v Fg1 H locs hpv hZg1 hfr => ?_)
  · skip
    obtain ⟨hZo1, hdj1⟩ := hfr _ (zdj1 hou) (hZ.ur (zdj1 hou))
    have hZ := hZg1.un hZo1
    have hou1 := zdj1_i hdj1
    rcases hpx E Fg1 hpE with rfl
    refine vx_catch (name := "java/lang/ArithmeticException") hC.ow [] ⟨0, 7, 10, 126⟩ [] (hT.trans rfl) (fun z hz => absurd hz List.not_mem_nil) rfl (by decide) (hC.ts qk_L_126) (va_Nw.use rfl (hC.G.2.1 _ q_1453)) hce hcv hcl ?_
    refine lv_astore_n (lv' := [(2, .ref q9), (0, .ref ob), (1, .ref ou)]) hx hb dL_meanWordLength_10 rfl hl (by decide) rfl (fun ls hl => ?_)
    refine z_iconst hx hb dL_meanWordLength_11 ?_
    exact z_iret hC hr hlk hZ (Nat.le_of_ble_eq_true rfl) (Nat.le_of_ble_eq_true rfl) ⟨Fg1, f0, rfl, hou1, Or.inr ⟨0, _, rfl, hpE, rfl⟩⟩ dL_meanWordLength_12
  · skip
    obtain ⟨r, rfl, hpr⟩ := hpv
    obtain ⟨hZo1, hdj1⟩ := hfr _ (zdj1 hou) (hZ.ur (zdj1 hou))
    have hZ := hZg1.un hZo1
    have hou1 := zdj1_i hdj1
    refine z_dast hC hZ ((zun_r hou1).trans z1_s) dL_meanWordLength_6 (fun H locs hZ => ?_)
    rw [zun_up hou1] at hZ
    refine lv_goto (tgt := 13) hx hb dL_meanWordLength_7 (by decide) ?_
    refine z_iconst hx hb dL_meanWordLength_13 ?_
    exact z_iret hC hr hlk hZ (Nat.le_of_ble_eq_true rfl) (Nat.le_of_ble_eq_true rfl) ⟨Fg1, _, rfl, hou1, Or.inl ⟨rfl, r, hpr, rfl⟩⟩ dL_meanWordLength_14

set_option maxHeartbeats 4000000 in
set_option maxRecDepth 100000 in
theorem wr_meanFreshness (l : Launch) (D : va_G) (cs : Nat → ClassId) (A : Nat → Prop) (Fg : zF) (ob ou : Nat) (f0 : Nat → UInt64) {fs : List Value} (hob : Fg ob = some (.inr (15, fs))) (hou : Fg ou = none) {post : UInt32 → zF → Prop} {px : String → zF → Prop} (hM : ∀ A1 : Nat → Prop, zXM l D cs A1 yX12_meanFreshness cX12_meanFreshness 4 (some FieldType.float) 6 1 6 [.ref ob] Fg (pF post) px) (hpx : ∀ (E : String) (F1 : zF), px E F1 → E = "java/lang/ArithmeticException") (hfp : ∀ (r : UInt32) (F1 : zF), post r F1 → fP r) : zMW l D cs A yL_meanFreshness cL_meanFreshness 3 (some FieldType.int) [((0 : Nat), (8 : Nat), (11 : Nat), (126 : Nat))] 7 1 6 [.ref ob, .ref ou] (zun Fg (z1 ou (zDa cs f0))) (pI (wPD cs ou ["java/lang/ArithmeticException"] (fun y F => ∃ r : UInt32, post r F ∧ y = FP.f2d r) px)) := by
  refine zW_of (own := RL) (by decide) rfl (Nat.le_of_ble_eq_true rfl) ?_
  intro p e s m below meth c hC hr hlk hT hNc hZ ls hl
  have hx := hC.x
  have hb := hC.b
  have hl : lv_has ls 3 [(0, .ref ob), (1, .ref ou)] := hl
  refine lv_aload_n hx hb dL_meanFreshness_0 rfl (lv_at hl 1 rfl) ?_
  refine z_iconst hx hb dL_meanFreshness_1 ?_
  refine lv_aload_n hx hb dL_meanFreshness_2 rfl (lv_at hl 0 rfl) ?_
  have hZg : zS D A s Fg s.heap [] := hZ.ul
  refine z_fcallX hC (z_frX (rest := [.int (iI 0), .ref ou]) (As := []) (n := 0) (ci := 15) hC hZg (hM (zfA Fg s.heap)) gv_L_128 hd_X12_meanFreshness rfl hob rfl hl rfl (Nat.le_of_ble_eq_true rfl) ⟨Nat.le_of_ble_eq_true rfl, Nat.le_of_ble_eq_true rfl⟩ ⟨Nat.le_of_ble_eq_true rfl, Nat.le_of_ble_eq_true rfl⟩ dL_meanFreshness_3) hZg (fun E ce q9 Fg1 H locs hpE hZg1 hfr hce hcv hcl => ?_) (fun v Fg1 H locs hpv hZg1 hfr => ?_)
  · skip
    obtain ⟨hZo1, hdj1⟩ := hfr _ (zdj1 hou) (hZ.ur (zdj1 hou))
    have hZ := hZg1.un hZo1
    have hou1 := zdj1_i hdj1
    rcases hpx E Fg1 hpE with rfl
    refine vx_catch (name := "java/lang/ArithmeticException") hC.ow [] ⟨0, 8, 11, 126⟩ [] (hT.trans rfl) (fun z hz => absurd hz List.not_mem_nil) rfl (by decide) (hC.ts qk_L_126) (va_Nw.use rfl (hC.G.2.1 _ q_1453)) hce hcv hcl ?_
    refine lv_astore_n (lv' := [(2, .ref q9), (0, .ref ob), (1, .ref ou)]) hx hb dL_meanFreshness_11 rfl hl (by decide) rfl (fun ls hl => ?_)
    refine z_iconst hx hb dL_meanFreshness_12 ?_
    exact z_iret hC hr hlk hZ (Nat.le_of_ble_eq_true rfl) (Nat.le_of_ble_eq_true rfl) ⟨Fg1, f0, rfl, hou1, Or.inr ⟨0, _, rfl, hpE, rfl⟩⟩ dL_meanFreshness_13
  · skip
    obtain ⟨r, rfl, hpr⟩ := hpv
    obtain ⟨hZo1, hdj1⟩ := hfr _ (zdj1 hou) (hZ.ur (zdj1 hou))
    have hZ := hZg1.un hZo1
    have hou1 := zdj1_i hdj1
    refine lv_f2d hx hb dL_meanFreshness_6 (vf_of64 (dQ_f2d (hfp r Fg1 hpr))) ?_
    refine z_dast hC hZ ((zun_r hou1).trans z1_s) dL_meanFreshness_7 (fun H locs hZ => ?_)
    rw [zun_up hou1] at hZ
    refine lv_goto (tgt := 14) hx hb dL_meanFreshness_8 (by decide) ?_
    refine z_iconst hx hb dL_meanFreshness_14 ?_
    exact z_iret hC hr hlk hZ (Nat.le_of_ble_eq_true rfl) (Nat.le_of_ble_eq_true rfl) ⟨Fg1, _, rfl, hou1, Or.inl ⟨rfl, FP.f2d r, ⟨r, hpr, rfl⟩, rfl⟩⟩ dL_meanFreshness_15

set_option maxHeartbeats 4000000 in
set_option maxRecDepth 100000 in
theorem wr_writeArticle (l : Launch) (D : va_G) (cs : Nat → ClassId) (A : Nat → Prop) (Fg : zF) (ob ou : Nat) (x0 : Int) (f0 : Nat → Int64) {fs : List Value} (hob : Fg ob = some (.inr (15, fs))) (hou : Fg ou = none) {post : Int → zF → Prop} {px : String → zF → Prop} (hM : ∀ A1 : Nat → Prop, zXM l D cs A1 yX12_writeArticle cX12_writeArticle 3 (some FieldType.int) 24 51 1606 [.ref ob, .int (iI x0)] Fg (pI post) px) (hpx : ∀ (E : String) (F1 : zF), px E F1 → E = "java/util/NoSuchElementException") : zMW l D cs A yL_writeArticle cL_writeArticle 4 (some FieldType.int) [((0 : Nat), (9 : Nat), (12 : Nat), (26 : Nat))] 25 51 1606 [.ref ob, .int (iI x0), .ref ou] (zun Fg (z1 ou (zLa cs f0))) (pI (wPL cs ou ["java/util/NoSuchElementException"] post px)) := by
  refine zW_of (own := RL) (by decide) rfl (Nat.le_of_ble_eq_true rfl) ?_
  intro p e s m below meth c hC hr hlk hT hNc hZ ls hl
  have hx := hC.x
  have hb := hC.b
  have hl : lv_has ls 4 [(0, .ref ob), (1, .int (iI x0)), (2, .ref ou)] := hl
  refine lv_aload_n hx hb dL_writeArticle_0 rfl (lv_at hl 2 rfl) ?_
  refine z_iconst hx hb dL_writeArticle_1 ?_
  refine lv_aload_n hx hb dL_writeArticle_2 rfl (lv_at hl 0 rfl) ?_
  refine lv_iload_n hx hb dL_writeArticle_3 rfl (lv_at hl 1 rfl) ?_
  have hZg : zS D A s Fg s.heap [] := hZ.ul
  refine z_fcallX hC (z_frX (rest := [.int (iI 0), .ref ou]) (As := [.int (iI x0)]) (n := 1) (ci := 15) hC hZg (hM (zfA Fg s.heap)) gv_L_132 hd_X12_writeArticle rfl hob rfl hl rfl (Nat.le_of_ble_eq_true rfl) ⟨Nat.le_of_ble_eq_true rfl, Nat.le_of_ble_eq_true rfl⟩ ⟨Nat.le_of_ble_eq_true rfl, Nat.le_of_ble_eq_true rfl⟩ dL_writeArticle_4) hZg (fun E ce q9 Fg1 H locs hpE hZg1 hfr hce hcv hcl => ?_) (fun v Fg1 H locs hpv hZg1 hfr => ?_)
  · skip
    obtain ⟨hZo1, hdj1⟩ := hfr _ (zdj1 hou) (hZ.ur (zdj1 hou))
    have hZ := hZg1.un hZo1
    have hou1 := zdj1_i hdj1
    rcases hpx E Fg1 hpE with rfl
    refine vx_catch (name := "java/util/NoSuchElementException") hC.ow [] ⟨0, 9, 12, 26⟩ [] (hT.trans rfl) (fun z hz => absurd hz List.not_mem_nil) rfl (by decide) (hC.ts qk_L_26) (va_Nw.use rfl (hC.G.2.1 _ q_712)) hce hcv hcl ?_
    refine lv_astore_n (lv' := [(3, .ref q9), (0, .ref ob), (1, .int (iI x0)), (2, .ref ou)]) hx hb dL_writeArticle_12 rfl hl (by decide) rfl (fun ls hl => ?_)
    refine z_iconst hx hb dL_writeArticle_13 ?_
    exact z_iret hC hr hlk hZ (Nat.le_of_ble_eq_true rfl) (Nat.le_of_ble_eq_true rfl) ⟨Fg1, f0, rfl, hou1, Or.inr ⟨0, _, rfl, hpE, rfl⟩⟩ dL_writeArticle_14
  · skip
    obtain ⟨r, rfl, hpr⟩ := hpv
    obtain ⟨hZo1, hdj1⟩ := hfr _ (zdj1 hou) (hZ.ur (zdj1 hou))
    have hZ := hZg1.un hZo1
    have hou1 := zdj1_i hdj1
    refine lv_i2l hx hb dL_writeArticle_7 rfl ?_
    refine z_last hC hZ ((zun_r hou1).trans z1_s) dL_writeArticle_8 (fun H locs hZ => ?_)
    rw [zun_up hou1] at hZ
    refine lv_goto (tgt := 15) hx hb dL_writeArticle_9 (by decide) ?_
    refine z_iconst hx hb dL_writeArticle_15 ?_
    exact z_iret hC hr hlk hZ (Nat.le_of_ble_eq_true rfl) (Nat.le_of_ble_eq_true rfl) ⟨Fg1, _, rfl, hou1, Or.inl ⟨rfl, r, hpr, rfl⟩⟩ dL_writeArticle_16

set_option maxHeartbeats 4000000 in
set_option maxRecDepth 100000 in
theorem wr_outputCharacter (l : Launch) (D : va_G) (cs : Nat → ClassId) (A : Nat → Prop) (Fg : zF) (ob ou : Nat) (x0 : Int) (f0 : Nat → Int64) {fs : List Value} (hob : Fg ob = some (.inr (15, fs))) (hou : Fg ou = none) {post : Int → zF → Prop} {px : String → zF → Prop} (hM : ∀ A1 : Nat → Prop, zXM l D cs A1 yX12_outputCharacter cX12_outputCharacter 2 (some FieldType.char) 6 1 6 [.ref ob, .int (iI x0)] Fg (pI post) px) (hpx : ∀ (E : String) (F1 : zF), px E F1 → E = "java/lang/IndexOutOfBoundsException") : zMW l D cs A yL_outputCharacter cL_outputCharacter 4 (some FieldType.int) [((0 : Nat), (9 : Nat), (12 : Nat), (32 : Nat))] 7 1 6 [.ref ob, .int (iI x0), .ref ou] (zun Fg (z1 ou (zLa cs f0))) (pI (wPL cs ou ["java/lang/IndexOutOfBoundsException"] post px)) := by
  refine zW_of (own := RL) (by decide) rfl (Nat.le_of_ble_eq_true rfl) ?_
  intro p e s m below meth c hC hr hlk hT hNc hZ ls hl
  have hx := hC.x
  have hb := hC.b
  have hl : lv_has ls 4 [(0, .ref ob), (1, .int (iI x0)), (2, .ref ou)] := hl
  refine lv_aload_n hx hb dL_outputCharacter_0 rfl (lv_at hl 2 rfl) ?_
  refine z_iconst hx hb dL_outputCharacter_1 ?_
  refine lv_aload_n hx hb dL_outputCharacter_2 rfl (lv_at hl 0 rfl) ?_
  refine lv_iload_n hx hb dL_outputCharacter_3 rfl (lv_at hl 1 rfl) ?_
  have hZg : zS D A s Fg s.heap [] := hZ.ul
  refine z_fcallX hC (z_frX (rest := [.int (iI 0), .ref ou]) (As := [.int (iI x0)]) (n := 1) (ci := 15) hC hZg (hM (zfA Fg s.heap)) gv_L_135 hd_X12_outputCharacter rfl hob rfl hl rfl (Nat.le_of_ble_eq_true rfl) ⟨Nat.le_of_ble_eq_true rfl, Nat.le_of_ble_eq_true rfl⟩ ⟨Nat.le_of_ble_eq_true rfl, Nat.le_of_ble_eq_true rfl⟩ dL_outputCharacter_4) hZg (fun E ce q9 Fg1 H locs hpE hZg1 hfr hce hcv hcl => ?_) (fun v Fg1 H locs hpv hZg1 hfr => ?_)
  · skip
    obtain ⟨hZo1, hdj1⟩ := hfr _ (zdj1 hou) (hZ.ur (zdj1 hou))
    have hZ := hZg1.un hZo1
    have hou1 := zdj1_i hdj1
    rcases hpx E Fg1 hpE with rfl
    refine vx_catch (name := "java/lang/IndexOutOfBoundsException") hC.ow [] ⟨0, 9, 12, 32⟩ [] (hT.trans rfl) (fun z hz => absurd hz List.not_mem_nil) rfl (by decide) (hC.ts qk_L_32) (va_Nw.use rfl (hC.G.2.1 _ q_771)) hce hcv hcl ?_
    refine lv_astore_n (lv' := [(3, .ref q9), (0, .ref ob), (1, .int (iI x0)), (2, .ref ou)]) hx hb dL_outputCharacter_12 rfl hl (by decide) rfl (fun ls hl => ?_)
    refine z_iconst hx hb dL_outputCharacter_13 ?_
    exact z_iret hC hr hlk hZ (Nat.le_of_ble_eq_true rfl) (Nat.le_of_ble_eq_true rfl) ⟨Fg1, f0, rfl, hou1, Or.inr ⟨0, _, rfl, hpE, rfl⟩⟩ dL_outputCharacter_14
  · skip
    obtain ⟨r, rfl, hpr⟩ := hpv
    obtain ⟨hZo1, hdj1⟩ := hfr _ (zdj1 hou) (hZ.ur (zdj1 hou))
    have hZ := hZg1.un hZo1
    have hou1 := zdj1_i hdj1
    refine lv_i2l hx hb dL_outputCharacter_7 rfl ?_
    refine z_last hC hZ ((zun_r hou1).trans z1_s) dL_outputCharacter_8 (fun H locs hZ => ?_)
    rw [zun_up hou1] at hZ
    refine lv_goto (tgt := 15) hx hb dL_outputCharacter_9 (by decide) ?_
    refine z_iconst hx hb dL_outputCharacter_15 ?_
    exact z_iret hC hr hlk hZ (Nat.le_of_ble_eq_true rfl) (Nat.le_of_ble_eq_true rfl) ⟨Fg1, _, rfl, hou1, Or.inl ⟨rfl, r, hpr, rfl⟩⟩ dL_outputCharacter_16

set_option maxHeartbeats 4000000 in
set_option maxRecDepth 100000 in
theorem wr_feed (l : Launch) (D : va_G) (cs : Nat → ClassId) (A : Nat → Prop) (Fg : zF) (ob ou : Nat) (x0 : Int) (f0 : Nat → Int64) {fs : List Value} (hob : Fg ob = some (.inr (15, fs))) (hou : Fg ou = none) {post : Int → zF → Prop} {px : String → zF → Prop} (hM : ∀ A1 : Nat → Prop, zXM l D cs A1 yX12_feed cX12_feed 2 (some FieldType.int) 6 1 6 [.ref ob, .int (iI x0)] Fg (pI post) px) (hpx : ∀ (E : String) (F1 : zF), px E F1 → E = "java/lang/IllegalStateException") : zMW l D cs A yL_feed cL_feed 4 (some FieldType.int) [((0 : Nat), (9 : Nat), (12 : Nat), (15 : Nat))] 7 1 6 [.ref ob, .int (iI x0), .ref ou] (zun Fg (z1 ou (zLa cs f0))) (pI (wPL cs ou ["java/lang/IllegalStateException"] post px)) := by
  refine zW_of (own := RL) (by decide) rfl (Nat.le_of_ble_eq_true rfl) ?_
  intro p e s m below meth c hC hr hlk hT hNc hZ ls hl
  have hx := hC.x
  have hb := hC.b
  have hl : lv_has ls 4 [(0, .ref ob), (1, .int (iI x0)), (2, .ref ou)] := hl
  refine lv_aload_n hx hb dL_feed_0 rfl (lv_at hl 2 rfl) ?_
  refine z_iconst hx hb dL_feed_1 ?_
  refine lv_aload_n hx hb dL_feed_2 rfl (lv_at hl 0 rfl) ?_
  refine lv_iload_n hx hb dL_feed_3 rfl (lv_at hl 1 rfl) ?_
  have hZg : zS D A s Fg s.heap [] := hZ.ul
  refine z_fcallX hC (z_frX (rest := [.int (iI 0), .ref ou]) (As := [.int (iI x0)]) (n := 1) (ci := 15) hC hZg (hM (zfA Fg s.heap)) gv_L_139 hd_X12_feed rfl hob rfl hl rfl (Nat.le_of_ble_eq_true rfl) ⟨Nat.le_of_ble_eq_true rfl, Nat.le_of_ble_eq_true rfl⟩ ⟨Nat.le_of_ble_eq_true rfl, Nat.le_of_ble_eq_true rfl⟩ dL_feed_4) hZg (fun E ce q9 Fg1 H locs hpE hZg1 hfr hce hcv hcl => ?_) (fun v Fg1 H locs hpv hZg1 hfr => ?_)
  · skip
    obtain ⟨hZo1, hdj1⟩ := hfr _ (zdj1 hou) (hZ.ur (zdj1 hou))
    have hZ := hZg1.un hZo1
    have hou1 := zdj1_i hdj1
    rcases hpx E Fg1 hpE with rfl
    refine vx_catch (name := "java/lang/IllegalStateException") hC.ow [] ⟨0, 9, 12, 15⟩ [] (hT.trans rfl) (fun z hz => absurd hz List.not_mem_nil) rfl (by decide) (hC.ts qk_L_15) (va_Nw.use rfl (hC.G.2.1 _ q_497)) hce hcv hcl ?_
    refine lv_astore_n (lv' := [(3, .ref q9), (0, .ref ob), (1, .int (iI x0)), (2, .ref ou)]) hx hb dL_feed_12 rfl hl (by decide) rfl (fun ls hl => ?_)
    refine z_iconst hx hb dL_feed_13 ?_
    exact z_iret hC hr hlk hZ (Nat.le_of_ble_eq_true rfl) (Nat.le_of_ble_eq_true rfl) ⟨Fg1, f0, rfl, hou1, Or.inr ⟨0, _, rfl, hpE, rfl⟩⟩ dL_feed_14
  · skip
    obtain ⟨r, rfl, hpr⟩ := hpv
    obtain ⟨hZo1, hdj1⟩ := hfr _ (zdj1 hou) (hZ.ur (zdj1 hou))
    have hZ := hZg1.un hZo1
    have hou1 := zdj1_i hdj1
    refine lv_i2l hx hb dL_feed_7 rfl ?_
    refine z_last hC hZ ((zun_r hou1).trans z1_s) dL_feed_8 (fun H locs hZ => ?_)
    rw [zun_up hou1] at hZ
    refine lv_goto (tgt := 15) hx hb dL_feed_9 (by decide) ?_
    refine z_iconst hx hb dL_feed_15 ?_
    exact z_iret hC hr hlk hZ (Nat.le_of_ble_eq_true rfl) (Nat.le_of_ble_eq_true rfl) ⟨Fg1, _, rfl, hou1, Or.inl ⟨rfl, r, hpr, rfl⟩⟩ dL_feed_16

set_option maxHeartbeats 4000000 in
set_option maxRecDepth 100000 in
theorem wr_execute (l : Launch) (D : va_G) (cs : Nat → ClassId) (A : Nat → Prop) (Fg : zF) (ob ou : Nat) (f0 : Nat → Int64) {fs : List Value} (hob : Fg ob = some (.inr (15, fs))) (hou : Fg ou = none) {post : Int → zF → Prop} {px : String → zF → Prop} (hM : ∀ A1 : Nat → Prop, zXM l D cs A1 yX12_execute cX12_execute 5 (some FieldType.int) 10 100 640 [.ref ob] Fg (pI post) px) (hpx : ∀ (E : String) (F1 : zF), px E F1 → E = "java/lang/IllegalArgumentException" ∨ E = "java/lang/UnsupportedOperationException") : zMW l D cs A yL_execute cL_execute 3 (some FieldType.int) [((0 : Nat), (8 : Nat), (11 : Nat), (13 : Nat)), ((0 : Nat), (8 : Nat), (14 : Nat), (21 : Nat))] 11 100 640 [.ref ob, .ref ou] (zun Fg (z1 ou (zLa cs f0))) (pI (wPL cs ou ["java/lang/IllegalArgumentException", "java/lang/UnsupportedOperationException"] post px)) := by
  refine zW_of (own := RL) (by decide) rfl (Nat.le_of_ble_eq_true rfl) ?_
  intro p e s m below meth c hC hr hlk hT hNc hZ ls hl
  have hx := hC.x
  have hb := hC.b
  have hl : lv_has ls 3 [(0, .ref ob), (1, .ref ou)] := hl
  refine lv_aload_n hx hb dL_execute_0 rfl (lv_at hl 1 rfl) ?_
  refine z_iconst hx hb dL_execute_1 ?_
  refine lv_aload_n hx hb dL_execute_2 rfl (lv_at hl 0 rfl) ?_
  have hZg : zS D A s Fg s.heap [] := hZ.ul
  refine z_fcallX hC (z_frX (rest := [.int (iI 0), .ref ou]) (As := []) (n := 0) (ci := 15) hC hZg (hM (zfA Fg s.heap)) gv_L_142 hd_X12_execute rfl hob rfl hl rfl (Nat.le_of_ble_eq_true rfl) ⟨Nat.le_of_ble_eq_true rfl, Nat.le_of_ble_eq_true rfl⟩ ⟨Nat.le_of_ble_eq_true rfl, Nat.le_of_ble_eq_true rfl⟩ dL_execute_3) hZg (fun E ce q9 Fg1 H locs hpE hZg1 hfr hce hcv hcl => ?_) (fun v Fg1 H locs hpv hZg1 hfr => ?_)
  · skip
    obtain ⟨hZo1, hdj1⟩ := hfr _ (zdj1 hou) (hZ.ur (zdj1 hou))
    have hZ := hZg1.un hZo1
    have hou1 := zdj1_i hdj1
    rcases hpx E Fg1 hpE with rfl | rfl
    · skip
      refine vx_catch (name := "java/lang/IllegalArgumentException") hC.ow [] ⟨0, 8, 11, 13⟩ [⟨0, 8, 14, 21⟩] (hT.trans rfl) (fun z hz => absurd hz List.not_mem_nil) rfl (by decide) (hC.ts qk_L_13) (va_Nw.use rfl (hC.G.2.1 _ q_421)) hce hcv hcl ?_
      refine lv_astore_n (lv' := [(2, .ref q9), (0, .ref ob), (1, .ref ou)]) hx hb dL_execute_11 rfl hl (by decide) rfl (fun ls hl => ?_)
      refine z_iconst hx hb dL_execute_12 ?_
      exact z_iret hC hr hlk hZ (Nat.le_of_ble_eq_true rfl) (Nat.le_of_ble_eq_true rfl) ⟨Fg1, f0, rfl, hou1, Or.inr ⟨0, _, rfl, hpE, rfl⟩⟩ dL_execute_13
    · skip
      refine vx_catch (name := "java/lang/UnsupportedOperationException") hC.ow [⟨0, 8, 11, 13⟩] ⟨0, 8, 14, 21⟩ [] (hT.trans rfl) (fun z hz => by rw [List.mem_singleton.mp hz]; exact (Or.inr ⟨(by decide), "java/lang/IllegalArgumentException", hC.ts qk_L_13, hNc _ _ (by decide) (by decide) (by decide)⟩)) rfl (by decide) (hC.ts qk_L_21) (va_Nw.use rfl (hC.G.2.1 _ q_531)) hce hcv hcl ?_
      refine lv_astore_n (lv' := [(2, .ref q9), (0, .ref ob), (1, .ref ou)]) hx hb dL_execute_14 rfl hl (by decide) rfl (fun ls hl => ?_)
      refine z_iconst hx hb dL_execute_15 ?_
      exact z_iret hC hr hlk hZ (Nat.le_of_ble_eq_true rfl) (Nat.le_of_ble_eq_true rfl) ⟨Fg1, f0, rfl, hou1, Or.inr ⟨1, _, rfl, hpE, rfl⟩⟩ dL_execute_16
  · skip
    obtain ⟨r, rfl, hpr⟩ := hpv
    obtain ⟨hZo1, hdj1⟩ := hfr _ (zdj1 hou) (hZ.ur (zdj1 hou))
    have hZ := hZg1.un hZo1
    have hou1 := zdj1_i hdj1
    refine lv_i2l hx hb dL_execute_6 rfl ?_
    refine z_last hC hZ ((zun_r hou1).trans z1_s) dL_execute_7 (fun H locs hZ => ?_)
    rw [zun_up hou1] at hZ
    refine lv_goto (tgt := 17) hx hb dL_execute_8 (by decide) ?_
    refine z_iconst hx hb dL_execute_17 ?_
    exact z_iret hC hr hlk hZ (Nat.le_of_ble_eq_true rfl) (Nat.le_of_ble_eq_true rfl) ⟨Fg1, _, rfl, hou1, Or.inl ⟨rfl, r, hpr, rfl⟩⟩ dL_execute_18

set_option maxHeartbeats 4000000 in
set_option maxRecDepth 100000 in
theorem wr_errorPosition (l : Launch) (D : va_G) (cs : Nat → ClassId) (A : Nat → Prop) (Fg : zF) (ob ou : Nat) (f0 : Nat → Int64) {fs : List Value} (hob : Fg ob = some (.inr (15, fs))) (hou : Fg ou = none) {post : Int → zF → Prop} {px : String → zF → Prop} (hM : ∀ A1 : Nat → Prop, zXM l D cs A1 yX12_errorPosition cX12_errorPosition 1 (some FieldType.int) 6 1 6 [.ref ob] Fg (pI post) px) (hpx : ∀ (E : String) (F1 : zF), px E F1 → E = "java/util/NoSuchElementException") : zMW l D cs A yL_errorPosition cL_errorPosition 3 (some FieldType.int) [((0 : Nat), (8 : Nat), (11 : Nat), (26 : Nat))] 7 1 6 [.ref ob, .ref ou] (zun Fg (z1 ou (zLa cs f0))) (pI (wPL cs ou ["java/util/NoSuchElementException"] post px)) := by
  refine zW_of (own := RL) (by decide) rfl (Nat.le_of_ble_eq_true rfl) ?_
  intro p e s m below meth c hC hr hlk hT hNc hZ ls hl
  have hx := hC.x
  have hb := hC.b
  have hl : lv_has ls 3 [(0, .ref ob), (1, .ref ou)] := hl
  refine lv_aload_n hx hb dL_errorPosition_0 rfl (lv_at hl 1 rfl) ?_
  refine z_iconst hx hb dL_errorPosition_1 ?_
  refine lv_aload_n hx hb dL_errorPosition_2 rfl (lv_at hl 0 rfl) ?_
  have hZg : zS D A s Fg s.heap [] := hZ.ul
  refine z_fcallX hC (z_frX (rest := [.int (iI 0), .ref ou]) (As := []) (n := 0) (ci := 15) hC hZg (hM (zfA Fg s.heap)) gv_L_145 hd_X12_errorPosition rfl hob rfl hl rfl (Nat.le_of_ble_eq_true rfl) ⟨Nat.le_of_ble_eq_true rfl, Nat.le_of_ble_eq_true rfl⟩ ⟨Nat.le_of_ble_eq_true rfl, Nat.le_of_ble_eq_true rfl⟩ dL_errorPosition_3) hZg (fun E ce q9 Fg1 H locs hpE hZg1 hfr hce hcv hcl => ?_) (fun v Fg1 H locs hpv hZg1 hfr => ?_)
  · skip
    obtain ⟨hZo1, hdj1⟩ := hfr _ (zdj1 hou) (hZ.ur (zdj1 hou))
    have hZ := hZg1.un hZo1
    have hou1 := zdj1_i hdj1
    rcases hpx E Fg1 hpE with rfl
    refine vx_catch (name := "java/util/NoSuchElementException") hC.ow [] ⟨0, 8, 11, 26⟩ [] (hT.trans rfl) (fun z hz => absurd hz List.not_mem_nil) rfl (by decide) (hC.ts qk_L_26) (va_Nw.use rfl (hC.G.2.1 _ q_712)) hce hcv hcl ?_
    refine lv_astore_n (lv' := [(2, .ref q9), (0, .ref ob), (1, .ref ou)]) hx hb dL_errorPosition_11 rfl hl (by decide) rfl (fun ls hl => ?_)
    refine z_iconst hx hb dL_errorPosition_12 ?_
    exact z_iret hC hr hlk hZ (Nat.le_of_ble_eq_true rfl) (Nat.le_of_ble_eq_true rfl) ⟨Fg1, f0, rfl, hou1, Or.inr ⟨0, _, rfl, hpE, rfl⟩⟩ dL_errorPosition_13
  · skip
    obtain ⟨r, rfl, hpr⟩ := hpv
    obtain ⟨hZo1, hdj1⟩ := hfr _ (zdj1 hou) (hZ.ur (zdj1 hou))
    have hZ := hZg1.un hZo1
    have hou1 := zdj1_i hdj1
    refine lv_i2l hx hb dL_errorPosition_6 rfl ?_
    refine z_last hC hZ ((zun_r hou1).trans z1_s) dL_errorPosition_7 (fun H locs hZ => ?_)
    rw [zun_up hou1] at hZ
    refine lv_goto (tgt := 14) hx hb dL_errorPosition_8 (by decide) ?_
    refine z_iconst hx hb dL_errorPosition_14 ?_
    exact z_iret hC hr hlk hZ (Nat.le_of_ble_eq_true rfl) (Nat.le_of_ble_eq_true rfl) ⟨Fg1, _, rfl, hou1, Or.inl ⟨rfl, r, hpr, rfl⟩⟩ dL_errorPosition_15

set_option maxHeartbeats 4000000 in
set_option maxRecDepth 100000 in
theorem wr_failedCommand (l : Launch) (D : va_G) (cs : Nat → ClassId) (A : Nat → Prop) (Fg : zF) (ob ou : Nat) (f0 : Nat → Int64) {fs : List Value} (hob : Fg ob = some (.inr (15, fs))) (hou : Fg ou = none) {post : Int → zF → Prop} {px : String → zF → Prop} (hM : ∀ A1 : Nat → Prop, zXM l D cs A1 yX12_failedCommand cX12_failedCommand 1 (some FieldType.int) 6 1 6 [.ref ob] Fg (pI post) px) (hpx : ∀ (E : String) (F1 : zF), px E F1 → E = "java/util/NoSuchElementException") : zMW l D cs A yL_failedCommand cL_failedCommand 3 (some FieldType.int) [((0 : Nat), (8 : Nat), (11 : Nat), (26 : Nat))] 7 1 6 [.ref ob, .ref ou] (zun Fg (z1 ou (zLa cs f0))) (pI (wPL cs ou ["java/util/NoSuchElementException"] post px)) := by
  refine zW_of (own := RL) (by decide) rfl (Nat.le_of_ble_eq_true rfl) ?_
  intro p e s m below meth c hC hr hlk hT hNc hZ ls hl
  have hx := hC.x
  have hb := hC.b
  have hl : lv_has ls 3 [(0, .ref ob), (1, .ref ou)] := hl
  refine lv_aload_n hx hb dL_failedCommand_0 rfl (lv_at hl 1 rfl) ?_
  refine z_iconst hx hb dL_failedCommand_1 ?_
  refine lv_aload_n hx hb dL_failedCommand_2 rfl (lv_at hl 0 rfl) ?_
  have hZg : zS D A s Fg s.heap [] := hZ.ul
  refine z_fcallX hC (z_frX (rest := [.int (iI 0), .ref ou]) (As := []) (n := 0) (ci := 15) hC hZg (hM (zfA Fg s.heap)) gv_L_148 hd_X12_failedCommand rfl hob rfl hl rfl (Nat.le_of_ble_eq_true rfl) ⟨Nat.le_of_ble_eq_true rfl, Nat.le_of_ble_eq_true rfl⟩ ⟨Nat.le_of_ble_eq_true rfl, Nat.le_of_ble_eq_true rfl⟩ dL_failedCommand_3) hZg (fun E ce q9 Fg1 H locs hpE hZg1 hfr hce hcv hcl => ?_) (fun v Fg1 H locs hpv hZg1 hfr => ?_)
  · skip
    obtain ⟨hZo1, hdj1⟩ := hfr _ (zdj1 hou) (hZ.ur (zdj1 hou))
    have hZ := hZg1.un hZo1
    have hou1 := zdj1_i hdj1
    rcases hpx E Fg1 hpE with rfl
    refine vx_catch (name := "java/util/NoSuchElementException") hC.ow [] ⟨0, 8, 11, 26⟩ [] (hT.trans rfl) (fun z hz => absurd hz List.not_mem_nil) rfl (by decide) (hC.ts qk_L_26) (va_Nw.use rfl (hC.G.2.1 _ q_712)) hce hcv hcl ?_
    refine lv_astore_n (lv' := [(2, .ref q9), (0, .ref ob), (1, .ref ou)]) hx hb dL_failedCommand_11 rfl hl (by decide) rfl (fun ls hl => ?_)
    refine z_iconst hx hb dL_failedCommand_12 ?_
    exact z_iret hC hr hlk hZ (Nat.le_of_ble_eq_true rfl) (Nat.le_of_ble_eq_true rfl) ⟨Fg1, f0, rfl, hou1, Or.inr ⟨0, _, rfl, hpE, rfl⟩⟩ dL_failedCommand_13
  · skip
    obtain ⟨r, rfl, hpr⟩ := hpv
    obtain ⟨hZo1, hdj1⟩ := hfr _ (zdj1 hou) (hZ.ur (zdj1 hou))
    have hZ := hZg1.un hZo1
    have hou1 := zdj1_i hdj1
    refine lv_i2l hx hb dL_failedCommand_6 rfl ?_
    refine z_last hC hZ ((zun_r hou1).trans z1_s) dL_failedCommand_7 (fun H locs hZ => ?_)
    rw [zun_up hou1] at hZ
    refine lv_goto (tgt := 14) hx hb dL_failedCommand_8 (by decide) ?_
    refine z_iconst hx hb dL_failedCommand_14 ?_
    exact z_iret hC hr hlk hZ (Nat.le_of_ble_eq_true rfl) (Nat.le_of_ble_eq_true rfl) ⟨Fg1, _, rfl, hou1, Or.inl ⟨rfl, r, hpr, rfl⟩⟩ dL_failedCommand_15

set_option maxHeartbeats 4000000 in
set_option maxRecDepth 100000 in
theorem wr_undo (l : Launch) (D : va_G) (cs : Nat → ClassId) (A : Nat → Prop) (Fg : zF) (ob ou : Nat) (f0 : Nat → Int64) {fs : List Value} (hob : Fg ob = some (.inr (15, fs))) (hou : Fg ou = none) {post : Int → zF → Prop} {px : String → zF → Prop} (hM : ∀ A1 : Nat → Prop, zXM l D cs A1 yX12_undo cX12_undo 2 (some FieldType.int) 6 1 6 [.ref ob] Fg (pI post) px) (hpx : ∀ (E : String) (F1 : zF), px E F1 → E = "java/lang/IllegalStateException") : zMW l D cs A yL_undo cL_undo 3 (some FieldType.int) [((0 : Nat), (8 : Nat), (11 : Nat), (15 : Nat))] 7 1 6 [.ref ob, .ref ou] (zun Fg (z1 ou (zLa cs f0))) (pI (wPL cs ou ["java/lang/IllegalStateException"] post px)) := by
  refine zW_of (own := RL) (by decide) rfl (Nat.le_of_ble_eq_true rfl) ?_
  intro p e s m below meth c hC hr hlk hT hNc hZ ls hl
  have hx := hC.x
  have hb := hC.b
  have hl : lv_has ls 3 [(0, .ref ob), (1, .ref ou)] := hl
  refine lv_aload_n hx hb dL_undo_0 rfl (lv_at hl 1 rfl) ?_
  refine z_iconst hx hb dL_undo_1 ?_
  refine lv_aload_n hx hb dL_undo_2 rfl (lv_at hl 0 rfl) ?_
  have hZg : zS D A s Fg s.heap [] := hZ.ul
  refine z_fcallX hC (z_frX (rest := [.int (iI 0), .ref ou]) (As := []) (n := 0) (ci := 15) hC hZg (hM (zfA Fg s.heap)) gv_L_151 hd_X12_undo rfl hob rfl hl rfl (Nat.le_of_ble_eq_true rfl) ⟨Nat.le_of_ble_eq_true rfl, Nat.le_of_ble_eq_true rfl⟩ ⟨Nat.le_of_ble_eq_true rfl, Nat.le_of_ble_eq_true rfl⟩ dL_undo_3) hZg (fun E ce q9 Fg1 H locs hpE hZg1 hfr hce hcv hcl => ?_) (fun v Fg1 H locs hpv hZg1 hfr => ?_)
  · skip
    obtain ⟨hZo1, hdj1⟩ := hfr _ (zdj1 hou) (hZ.ur (zdj1 hou))
    have hZ := hZg1.un hZo1
    have hou1 := zdj1_i hdj1
    rcases hpx E Fg1 hpE with rfl
    refine vx_catch (name := "java/lang/IllegalStateException") hC.ow [] ⟨0, 8, 11, 15⟩ [] (hT.trans rfl) (fun z hz => absurd hz List.not_mem_nil) rfl (by decide) (hC.ts qk_L_15) (va_Nw.use rfl (hC.G.2.1 _ q_497)) hce hcv hcl ?_
    refine lv_astore_n (lv' := [(2, .ref q9), (0, .ref ob), (1, .ref ou)]) hx hb dL_undo_11 rfl hl (by decide) rfl (fun ls hl => ?_)
    refine z_iconst hx hb dL_undo_12 ?_
    exact z_iret hC hr hlk hZ (Nat.le_of_ble_eq_true rfl) (Nat.le_of_ble_eq_true rfl) ⟨Fg1, f0, rfl, hou1, Or.inr ⟨0, _, rfl, hpE, rfl⟩⟩ dL_undo_13
  · skip
    obtain ⟨r, rfl, hpr⟩ := hpv
    obtain ⟨hZo1, hdj1⟩ := hfr _ (zdj1 hou) (hZ.ur (zdj1 hou))
    have hZ := hZg1.un hZo1
    have hou1 := zdj1_i hdj1
    refine lv_i2l hx hb dL_undo_6 rfl ?_
    refine z_last hC hZ ((zun_r hou1).trans z1_s) dL_undo_7 (fun H locs hZ => ?_)
    rw [zun_up hou1] at hZ
    refine lv_goto (tgt := 14) hx hb dL_undo_8 (by decide) ?_
    refine z_iconst hx hb dL_undo_14 ?_
    exact z_iret hC hr hlk hZ (Nat.le_of_ble_eq_true rfl) (Nat.le_of_ble_eq_true rfl) ⟨Fg1, _, rfl, hou1, Or.inl ⟨rfl, r, hpr, rfl⟩⟩ dL_undo_15

set_option maxHeartbeats 4000000 in
set_option maxRecDepth 100000 in
theorem wr_restore (l : Launch) (D : va_G) (cs : Nat → ClassId) (A : Nat → Prop) (Fg : zF) (ob ou : Nat) (f0 : Nat → Int64) {fs : List Value} (hob : Fg ob = some (.inr (15, fs))) (hou : Fg ou = none) {post : Int → zF → Prop} {px : String → zF → Prop} (hM : ∀ A1 : Nat → Prop, zXM l D cs A1 yX12_restore cX12_restore 1 (some FieldType.int) 6 1 6 [.ref ob] Fg (pI post) px) (hpx : ∀ (E : String) (F1 : zF), px E F1 → E = "java/lang/IllegalStateException") : zMW l D cs A yL_restore cL_restore 3 (some FieldType.int) [((0 : Nat), (8 : Nat), (11 : Nat), (15 : Nat))] 7 1 6 [.ref ob, .ref ou] (zun Fg (z1 ou (zLa cs f0))) (pI (wPL cs ou ["java/lang/IllegalStateException"] post px)) := by
  refine zW_of (own := RL) (by decide) rfl (Nat.le_of_ble_eq_true rfl) ?_
  intro p e s m below meth c hC hr hlk hT hNc hZ ls hl
  have hx := hC.x
  have hb := hC.b
  have hl : lv_has ls 3 [(0, .ref ob), (1, .ref ou)] := hl
  refine lv_aload_n hx hb dL_restore_0 rfl (lv_at hl 1 rfl) ?_
  refine z_iconst hx hb dL_restore_1 ?_
  refine lv_aload_n hx hb dL_restore_2 rfl (lv_at hl 0 rfl) ?_
  have hZg : zS D A s Fg s.heap [] := hZ.ul
  refine z_fcallX hC (z_frX (rest := [.int (iI 0), .ref ou]) (As := []) (n := 0) (ci := 15) hC hZg (hM (zfA Fg s.heap)) gv_L_154 hd_X12_restore rfl hob rfl hl rfl (Nat.le_of_ble_eq_true rfl) ⟨Nat.le_of_ble_eq_true rfl, Nat.le_of_ble_eq_true rfl⟩ ⟨Nat.le_of_ble_eq_true rfl, Nat.le_of_ble_eq_true rfl⟩ dL_restore_3) hZg (fun E ce q9 Fg1 H locs hpE hZg1 hfr hce hcv hcl => ?_) (fun v Fg1 H locs hpv hZg1 hfr => ?_)
  · skip
    obtain ⟨hZo1, hdj1⟩ := hfr _ (zdj1 hou) (hZ.ur (zdj1 hou))
    have hZ := hZg1.un hZo1
    have hou1 := zdj1_i hdj1
    rcases hpx E Fg1 hpE with rfl
    refine vx_catch (name := "java/lang/IllegalStateException") hC.ow [] ⟨0, 8, 11, 15⟩ [] (hT.trans rfl) (fun z hz => absurd hz List.not_mem_nil) rfl (by decide) (hC.ts qk_L_15) (va_Nw.use rfl (hC.G.2.1 _ q_497)) hce hcv hcl ?_
    refine lv_astore_n (lv' := [(2, .ref q9), (0, .ref ob), (1, .ref ou)]) hx hb dL_restore_11 rfl hl (by decide) rfl (fun ls hl => ?_)
    refine z_iconst hx hb dL_restore_12 ?_
    exact z_iret hC hr hlk hZ (Nat.le_of_ble_eq_true rfl) (Nat.le_of_ble_eq_true rfl) ⟨Fg1, f0, rfl, hou1, Or.inr ⟨0, _, rfl, hpE, rfl⟩⟩ dL_restore_13
  · skip
    obtain ⟨r, rfl, hpr⟩ := hpv
    obtain ⟨hZo1, hdj1⟩ := hfr _ (zdj1 hou) (hZ.ur (zdj1 hou))
    have hZ := hZg1.un hZo1
    have hou1 := zdj1_i hdj1
    refine lv_i2l hx hb dL_restore_6 rfl ?_
    refine z_last hC hZ ((zun_r hou1).trans z1_s) dL_restore_7 (fun H locs hZ => ?_)
    rw [zun_up hou1] at hZ
    refine lv_goto (tgt := 14) hx hb dL_restore_8 (by decide) ?_
    refine z_iconst hx hb dL_restore_14 ?_
    exact z_iret hC hr hlk hZ (Nat.le_of_ble_eq_true rfl) (Nat.le_of_ble_eq_true rfl) ⟨Fg1, _, rfl, hou1, Or.inl ⟨rfl, r, hpr, rfl⟩⟩ dL_restore_15

