/-- the answer of a question as a wrapper gives it: a code for each exception -/
def wq (codes : List Int) (q : Int × Int) : Int := if q.1 = 0 then q.2 else codes.getD (q.1 - 1).toNat 0
theorem wq_0 {codes : List Int} {q : Int × Int} (h : q.1 = 0) : wq codes q = q.2 := if_pos h
theorem wq_e {codes : List Int} {q : Int × Int} (k : Nat) (h : q.1 = (k : Int) + 1) : wq codes q = codes.getD k 0 := by
  unfold wq
  rw [if_neg (by omega), show (q.1 - 1).toNat = k by omega]
def sCbs (c0 : zCo) (x : Int) : Int × Int := match zfa (cAr c0) x with
  | none => ((1 : Int), (0 : Int))
  | some a => (0, if (zlines (cWi c0) a.2.2).isSome then 1 else 0)
def sOut (out : List Int) (x : Int) : Int × Int := if 0 ≤ x ∧ x < (out.length : Int) then ((0 : Int), out.getD x.toNat 0) else (1, 0)
def sUn (hs : List zCo) : Int × Int := if hs.length = 0 then (1, 0) else (0, (hs.length : Int) - 1)
def sEx (c : zCo) (inp : List Int) : Int × zCo × Int := (sExe c inp 0 0).1
theorem sEx_e (c : zCo) (inp : List Int) (er fa : Int) : (sExe c inp er fa).1 = sEx c inp := by
  unfold sEx sExe
  cases zparse inp with
  | inl p => rfl
  | inr l => dsimp only; cases zrun l c 0 <;> rfl
/-- the gazette as the law sees it: its value, behind at most N changes -/
def lG (cs : Nat → ClassId) (G : zF) (ob : Nat) (N : Nat) (tx inp out : List Int) (c0 : zCo) (hs : List zCo) : Prop :=
  (∃ (g : Nat → Nat) (sa : Nat) (so : Option Nat) (hL : List Nat) (sv : Option zCo) (er fa : Int), gOb cs G ob g sa so hL tx inp out c0 sv hs er fa) ∧ cOK N c0 ∧ hs.length ≤ 8 ∧ (∀ h ∈ hs, cOK N h) ∧ zlt2 tx ∧ tx.length ≤ 60 ∧ inOK inp ∧ N ≤ 900
theorem lG.k {cs : Nat → ClassId} {G : zF} {ob : Nat} {N : Nat} {tx inp out : List Int} {c0 : zCo} {hs : List zCo} (h : lG cs G ob N tx inp out c0 hs) : cOK N c0 := h.2.1
theorem lG.ob {cs : Nat → ClassId} {G : zF} {ob : Nat} {N : Nat} {tx inp out : List Int} {c0 : zCo} {hs : List zCo} (h : lG cs G ob N tx inp out c0 hs) : ∃ fs, G ob = some (.inr (15, fs)) := by
  obtain ⟨⟨g, sa, so, hL, sv, er, fa, hg⟩, -⟩ := h
  exact ⟨_, hg.1⟩
theorem lG.ch {cs : Nat → ClassId} {G1 : zF} {ob : Nat} {N : Nat} {tx1 inp1 out : List Int} {c0 c1 : zCo} {hs : List zCo} {g : Nat → Nat} {sa : Nat} {so : Option Nat} {hL : List Nat} {sv : Option zCo} {er fa : Int} (hK : cOK N c0) (hh8 : hs.length ≤ 8) (hhs : ∀ h ∈ hs, cOK N h) (ht : zlt2 tx1 ∧ tx1.length ≤ 60) (hi : inOK inp1) (hN : N ≤ 899) (h1 : cOK (N + 1) c1) (hg : gOb cs G1 ob g sa so hL tx1 inp1 out c1 sv (pushH hs c0) er fa) : lG cs G1 ob (N + 1) tx1 inp1 out c1 (pushH hs c0) :=
  ⟨⟨g, sa, so, hL, sv, er, fa, hg⟩, h1, push_len hh8, fun x hx => (push_mem hx).elim (fun z => cOK_mono (hhs x z) (by omega)) (fun z => by rw [z]; exact cOK_mono hK (by omega)), ht.1, ht.2, hi, by omega⟩
theorem lG.up {cs : Nat → ClassId} {G1 : zF} {ob : Nat} {N : Nat} {tx inp out : List Int} {c0 : zCo} {hs : List zCo} (h : lG cs G1 ob N tx inp out c0 hs) (hN : N ≤ 899) : lG cs G1 ob (N + 1) tx inp out c0 hs :=
  ⟨h.1, cOK_mono h.2.1 (by omega), h.2.2.1, fun x hx => cOK_mono (h.2.2.2.1 x hx) (by omega), h.2.2.2.2.1, h.2.2.2.2.2.1, h.2.2.2.2.2.2.1, by omega⟩
theorem ex_K {N : Nat} {c0 : zCo} {inp : List Int} (hK : cOK N c0) (hi : inp.length ≤ 60) (h : (sEx c0 inp).1 = 0) : cOK (N + 1) (sEx c0 inp).2.1 := (sExe_b (er := 0) (fa := 0) hK hi (by decide) (by decide)).2 h
set_option maxHeartbeats 4000000 in
set_option maxRecDepth 100000 in
theorem lw_priority (l : Launch) (D : va_G) (cs : Nat → ClassId) (A : Nat → Prop) (G : zF) (ob : Nat) (x : Int) (N : Nat) (tx inp out : List Int) (c0 : zCo) (hs : List zCo) (hlt : l.stackTraces = false) (hG : lG cs G ob N tx inp out c0 hs) (hi_x : InR x) : zMW l D cs A yL_priority cL_priority 3 (some FieldType.int) [((0 : Nat), (5 : Nat), (6 : Nat), (27 : Nat))] 8 1 6 [.ref ob, .int (iI x)] G (pI (fun r G1 => lG cs G1 ob N tx inp out c0 hs ∧ r = wq [-13] (sPrio c0 x))) := by
  obtain ⟨⟨g, sa, so, hL, sv, er, fa, hg⟩, hK, hh8, hhs, htz, ht60, hin, hN9⟩ := id hG
  obtain ⟨cap, hso⟩ := hg.2.2.2.2.1
  have hwi := hK.2.2.2.2.2.2.2.2.1
  refine zW_of (own := RL) (by decide) rfl (Nat.le_of_ble_eq_true rfl) ?_
  intro p e s m below meth c hC hr hlk hT hNc hZ ls hl
  have hx := hC.x
  have hb := hC.b
  have hl : lv_has ls 3 [(0, .ref ob), (1, .int (iI x))] := hl
  refine lv_aload_n hx hb dL_priority_0 rfl (lv_at hl 0 rfl) ?_
  refine lv_iload_n hx hb dL_priority_1 rfl (lv_at hl 1 rfl) ?_
  refine z_fcallX hC (z_frX (rest := []) (As := [.int (iI x)]) (n := 1) (ci := 15) hC hZ (met_X12_priority l D cs (zfA G s.heap) G ob g sa so er fa c0 x hlt hg.1 (hg.2.2.2.2.2.2.2.2.2.1.mono zrm_le) hi_x) gv_L_41 hd_X12_priority rfl hg.1 rfl hl rfl (Nat.le_of_ble_eq_true rfl) ⟨Nat.le_of_ble_eq_true rfl, Nat.le_of_ble_eq_true rfl⟩ ⟨Nat.le_of_ble_eq_true rfl, Nat.le_of_ble_eq_true rfl⟩ dL_priority_2) hZ (fun E ce q9 G1 H locs hpE hZ hfr hce hcv hcl => ?_) (fun v G1 H locs hpv hZ hfr => ?_)
  · skip
    obtain ⟨rfl, hd⟩ := hpE
    obtain ⟨hc, rfl⟩ := hd
    refine vx_catch (name := "java/util/NoSuchElementException") hC.ow [] ⟨0, 5, 6, 27⟩ [] (hT.trans rfl) (fun z hz => absurd hz List.not_mem_nil) rfl (by decide) (hC.ts qk_L_27) (va_Nw.use rfl (hC.G.2.1 _ q_712)) hce hcv hcl ?_
    refine lv_astore_n (lv' := [(2, .ref q9), (0, .ref ob), (1, .int (iI x))]) hx hb dL_priority_6 rfl hl (by decide) rfl (fun ls hl => ?_)
    refine z_bipush hx hb dL_priority_7 (by decide) ?_
    exact z_iret hC hr hlk hZ (Nat.le_of_ble_eq_true rfl) (Nat.le_of_ble_eq_true rfl) ⟨hG, (wq_e (codes := [-13]) (q := (sPrio c0 x)) 0 hc).symm⟩ dL_priority_9
  · skip
    obtain ⟨r, rfl, hpr⟩ := hpv
    obtain ⟨rfl, hc, rfl⟩ := hpr
    exact z_iret hC hr hlk hZ (Nat.le_of_ble_eq_true rfl) (Nat.le_of_ble_eq_true rfl) ⟨hG, (wq_0 (codes := [-13]) (q := (sPrio c0 x)) hc).symm⟩ dL_priority_5

set_option maxHeartbeats 4000000 in
set_option maxRecDepth 100000 in
theorem lw_wordCount (l : Launch) (D : va_G) (cs : Nat → ClassId) (A : Nat → Prop) (G : zF) (ob : Nat) (x : Int) (N : Nat) (tx inp out : List Int) (c0 : zCo) (hs : List zCo) (hlt : l.stackTraces = false) (hG : lG cs G ob N tx inp out c0 hs) (hi_x : InR x) : zMW l D cs A yL_wordCount cL_wordCount 3 (some FieldType.int) [((0 : Nat), (5 : Nat), (6 : Nat), (27 : Nat))] 8 1 6 [.ref ob, .int (iI x)] G (pI (fun r G1 => lG cs G1 ob N tx inp out c0 hs ∧ r = wq [-13] (sWcnt c0 x))) := by
  obtain ⟨⟨g, sa, so, hL, sv, er, fa, hg⟩, hK, hh8, hhs, htz, ht60, hin, hN9⟩ := id hG
  obtain ⟨cap, hso⟩ := hg.2.2.2.2.1
  have hwi := hK.2.2.2.2.2.2.2.2.1
  refine zW_of (own := RL) (by decide) rfl (Nat.le_of_ble_eq_true rfl) ?_
  intro p e s m below meth c hC hr hlk hT hNc hZ ls hl
  have hx := hC.x
  have hb := hC.b
  have hl : lv_has ls 3 [(0, .ref ob), (1, .int (iI x))] := hl
  refine lv_aload_n hx hb dL_wordCount_0 rfl (lv_at hl 0 rfl) ?_
  refine lv_iload_n hx hb dL_wordCount_1 rfl (lv_at hl 1 rfl) ?_
  refine z_fcallX hC (z_frX (rest := []) (As := [.int (iI x)]) (n := 1) (ci := 15) hC hZ (met_X12_wordCount l D cs (zfA G s.heap) G ob g sa so er fa c0 x hlt hg.1 (hg.2.2.2.2.2.2.2.2.2.1.mono zrm_le) hi_x) gv_L_44 hd_X12_wordCount rfl hg.1 rfl hl rfl (Nat.le_of_ble_eq_true rfl) ⟨Nat.le_of_ble_eq_true rfl, Nat.le_of_ble_eq_true rfl⟩ ⟨Nat.le_of_ble_eq_true rfl, Nat.le_of_ble_eq_true rfl⟩ dL_wordCount_2) hZ (fun E ce q9 G1 H locs hpE hZ hfr hce hcv hcl => ?_) (fun v G1 H locs hpv hZ hfr => ?_)
  · skip
    obtain ⟨rfl, hd⟩ := hpE
    obtain ⟨hc, rfl⟩ := hd
    refine vx_catch (name := "java/util/NoSuchElementException") hC.ow [] ⟨0, 5, 6, 27⟩ [] (hT.trans rfl) (fun z hz => absurd hz List.not_mem_nil) rfl (by decide) (hC.ts qk_L_27) (va_Nw.use rfl (hC.G.2.1 _ q_712)) hce hcv hcl ?_
    refine lv_astore_n (lv' := [(2, .ref q9), (0, .ref ob), (1, .int (iI x))]) hx hb dL_wordCount_6 rfl hl (by decide) rfl (fun ls hl => ?_)
    refine z_bipush hx hb dL_wordCount_7 (by decide) ?_
    exact z_iret hC hr hlk hZ (Nat.le_of_ble_eq_true rfl) (Nat.le_of_ble_eq_true rfl) ⟨hG, (wq_e (codes := [-13]) (q := (sWcnt c0 x)) 0 hc).symm⟩ dL_wordCount_9
  · skip
    obtain ⟨r, rfl, hpr⟩ := hpv
    obtain ⟨rfl, hc, rfl⟩ := hpr
    exact z_iret hC hr hlk hZ (Nat.le_of_ble_eq_true rfl) (Nat.le_of_ble_eq_true rfl) ⟨hG, (wq_0 (codes := [-13]) (q := (sWcnt c0 x)) hc).symm⟩ dL_wordCount_5

set_option maxHeartbeats 4000000 in
set_option maxRecDepth 100000 in
theorem lw_wordLength (l : Launch) (D : va_G) (cs : Nat → ClassId) (A : Nat → Prop) (G : zF) (ob : Nat) (x : Int) (z : Int) (N : Nat) (tx inp out : List Int) (c0 : zCo) (hs : List zCo) (hlt : l.stackTraces = false) (hG : lG cs G ob N tx inp out c0 hs) (hi_x : InR x) (hi_z : InR z) : zMW l D cs A yL_wordLength cL_wordLength 4 (some FieldType.int) [((0 : Nat), (6 : Nat), (7 : Nat), (27 : Nat)), ((0 : Nat), (6 : Nat), (11 : Nat), (33 : Nat))] 9 2 12 [.ref ob, .int (iI x), .int (iI z)] G (pI (fun r G1 => lG cs G1 ob N tx inp out c0 hs ∧ r = wq [-13, -11] (sWord c0 x z (fun wd => wd.length)))) := by
  obtain ⟨⟨g, sa, so, hL, sv, er, fa, hg⟩, hK, hh8, hhs, htz, ht60, hin, hN9⟩ := id hG
  obtain ⟨cap, hso⟩ := hg.2.2.2.2.1
  have hwi := hK.2.2.2.2.2.2.2.2.1
  refine zW_of (own := RL) (by decide) rfl (Nat.le_of_ble_eq_true rfl) ?_
  intro p e s m below meth c hC hr hlk hT hNc hZ ls hl
  have hx := hC.x
  have hb := hC.b
  have hl : lv_has ls 4 [(0, .ref ob), (1, .int (iI x)), (2, .int (iI z))] := hl
  refine lv_aload_n hx hb dL_wordLength_0 rfl (lv_at hl 0 rfl) ?_
  refine lv_iload_n hx hb dL_wordLength_1 rfl (lv_at hl 1 rfl) ?_
  refine lv_iload_n hx hb dL_wordLength_2 rfl (lv_at hl 2 rfl) ?_
  refine z_fcallX hC (z_frX (rest := []) (As := [.int (iI x), .int (iI z)]) (n := 2) (ci := 15) hC hZ (met_X12_wordLength l D cs (zfA G s.heap) G ob g sa so er fa c0 x z hlt hg.1 (hg.2.2.2.2.2.2.2.2.2.1.mono zrm_le) hi_x hi_z) gv_L_47 hd_X12_wordLength rfl hg.1 rfl hl rfl (Nat.le_of_ble_eq_true rfl) ⟨Nat.le_of_ble_eq_true rfl, Nat.le_of_ble_eq_true rfl⟩ ⟨Nat.le_of_ble_eq_true rfl, Nat.le_of_ble_eq_true rfl⟩ dL_wordLength_3) hZ (fun E ce q9 G1 H locs hpE hZ hfr hce hcv hcl => ?_) (fun v G1 H locs hpv hZ hfr => ?_)
  · skip
    obtain ⟨rfl, hd⟩ := hpE
    rcases hd with ⟨hc, rfl⟩ | ⟨hc, rfl⟩
    · skip
      refine vx_catch (name := "java/util/NoSuchElementException") hC.ow [] ⟨0, 6, 7, 27⟩ [⟨0, 6, 11, 33⟩] (hT.trans rfl) (fun z hz => absurd hz List.not_mem_nil) rfl (by decide) (hC.ts qk_L_27) (va_Nw.use rfl (hC.G.2.1 _ q_712)) hce hcv hcl ?_
      refine lv_astore_n (lv' := [(3, .ref q9), (0, .ref ob), (1, .int (iI x)), (2, .int (iI z))]) hx hb dL_wordLength_7 rfl hl (by decide) rfl (fun ls hl => ?_)
      refine z_bipush hx hb dL_wordLength_8 (by decide) ?_
      exact z_iret hC hr hlk hZ (Nat.le_of_ble_eq_true rfl) (Nat.le_of_ble_eq_true rfl) ⟨hG, (wq_e (codes := [-13, -11]) (q := (sWord c0 x z (fun wd => wd.length))) 0 hc).symm⟩ dL_wordLength_10
    · skip
      refine vx_catch (name := "java/lang/IndexOutOfBoundsException") hC.ow [⟨0, 6, 7, 27⟩] ⟨0, 6, 11, 33⟩ [] (hT.trans rfl) (fun z hz => by rw [List.mem_singleton.mp hz]; exact (Or.inr ⟨(by decide), "java/util/NoSuchElementException", hC.ts qk_L_27, hNc _ _ (by decide) (by decide) (by decide)⟩)) rfl (by decide) (hC.ts qk_L_33) (va_Nw.use rfl (hC.G.2.1 _ q_771)) hce hcv hcl ?_
      refine lv_astore_n (lv' := [(3, .ref q9), (0, .ref ob), (1, .int (iI x)), (2, .int (iI z))]) hx hb dL_wordLength_11 rfl hl (by decide) rfl (fun ls hl => ?_)
      refine z_bipush hx hb dL_wordLength_12 (by decide) ?_
      exact z_iret hC hr hlk hZ (Nat.le_of_ble_eq_true rfl) (Nat.le_of_ble_eq_true rfl) ⟨hG, (wq_e (codes := [-13, -11]) (q := (sWord c0 x z (fun wd => wd.length))) 1 hc).symm⟩ dL_wordLength_14
  · skip
    obtain ⟨r, rfl, hpr⟩ := hpv
    obtain ⟨rfl, hc, rfl⟩ := hpr
    exact z_iret hC hr hlk hZ (Nat.le_of_ble_eq_true rfl) (Nat.le_of_ble_eq_true rfl) ⟨hG, (wq_0 (codes := [-13, -11]) (q := (sWord c0 x z (fun wd => wd.length))) hc).symm⟩ dL_wordLength_6

set_option maxHeartbeats 4000000 in
set_option maxRecDepth 100000 in
theorem lw_divisions (l : Launch) (D : va_G) (cs : Nat → ClassId) (A : Nat → Prop) (G : zF) (ob : Nat) (x : Int) (z : Int) (N : Nat) (tx inp out : List Int) (c0 : zCo) (hs : List zCo) (hlt : l.stackTraces = false) (hG : lG cs G ob N tx inp out c0 hs) (hi_x : InR x) (hi_z : InR z) : zMW l D cs A yL_divisions cL_divisions 4 (some FieldType.int) [((0 : Nat), (6 : Nat), (7 : Nat), (27 : Nat)), ((0 : Nat), (6 : Nat), (11 : Nat), (33 : Nat))] 9 2 12 [.ref ob, .int (iI x), .int (iI z)] G (pI (fun r G1 => lG cs G1 ob N tx inp out c0 hs ∧ r = wq [-13, -11] (sWord c0 x z sDiv))) := by
  obtain ⟨⟨g, sa, so, hL, sv, er, fa, hg⟩, hK, hh8, hhs, htz, ht60, hin, hN9⟩ := id hG
  obtain ⟨cap, hso⟩ := hg.2.2.2.2.1
  have hwi := hK.2.2.2.2.2.2.2.2.1
  refine zW_of (own := RL) (by decide) rfl (Nat.le_of_ble_eq_true rfl) ?_
  intro p e s m below meth c hC hr hlk hT hNc hZ ls hl
  have hx := hC.x
  have hb := hC.b
  have hl : lv_has ls 4 [(0, .ref ob), (1, .int (iI x)), (2, .int (iI z))] := hl
  refine lv_aload_n hx hb dL_divisions_0 rfl (lv_at hl 0 rfl) ?_
  refine lv_iload_n hx hb dL_divisions_1 rfl (lv_at hl 1 rfl) ?_
  refine lv_iload_n hx hb dL_divisions_2 rfl (lv_at hl 2 rfl) ?_
  refine z_fcallX hC (z_frX (rest := []) (As := [.int (iI x), .int (iI z)]) (n := 2) (ci := 15) hC hZ (met_X12_divisions l D cs (zfA G s.heap) G ob g sa so er fa c0 x z hlt hg.1 (hg.2.2.2.2.2.2.2.2.2.1.mono zrm_le) hi_x hi_z) gv_L_50 hd_X12_divisions rfl hg.1 rfl hl rfl (Nat.le_of_ble_eq_true rfl) ⟨Nat.le_of_ble_eq_true rfl, Nat.le_of_ble_eq_true rfl⟩ ⟨Nat.le_of_ble_eq_true rfl, Nat.le_of_ble_eq_true rfl⟩ dL_divisions_3) hZ (fun E ce q9 G1 H locs hpE hZ hfr hce hcv hcl => ?_) (fun v G1 H locs hpv hZ hfr => ?_)
  · skip
    obtain ⟨rfl, hd⟩ := hpE
    rcases hd with ⟨hc, rfl⟩ | ⟨hc, rfl⟩
    · skip
      refine vx_catch (name := "java/util/NoSuchElementException") hC.ow [] ⟨0, 6, 7, 27⟩ [⟨0, 6, 11, 33⟩] (hT.trans rfl) (fun z hz => absurd hz List.not_mem_nil) rfl (by decide) (hC.ts qk_L_27) (va_Nw.use rfl (hC.G.2.1 _ q_712)) hce hcv hcl ?_
      refine lv_astore_n (lv' := [(3, .ref q9), (0, .ref ob), (1, .int (iI x)), (2, .int (iI z))]) hx hb dL_divisions_7 rfl hl (by decide) rfl (fun ls hl => ?_)
      refine z_bipush hx hb dL_divisions_8 (by decide) ?_
      exact z_iret hC hr hlk hZ (Nat.le_of_ble_eq_true rfl) (Nat.le_of_ble_eq_true rfl) ⟨hG, (wq_e (codes := [-13, -11]) (q := (sWord c0 x z sDiv)) 0 hc).symm⟩ dL_divisions_10
    · skip
      refine vx_catch (name := "java/lang/IndexOutOfBoundsException") hC.ow [⟨0, 6, 7, 27⟩] ⟨0, 6, 11, 33⟩ [] (hT.trans rfl) (fun z hz => by rw [List.mem_singleton.mp hz]; exact (Or.inr ⟨(by decide), "java/util/NoSuchElementException", hC.ts qk_L_27, hNc _ _ (by decide) (by decide) (by decide)⟩)) rfl (by decide) (hC.ts qk_L_33) (va_Nw.use rfl (hC.G.2.1 _ q_771)) hce hcv hcl ?_
      refine lv_astore_n (lv' := [(3, .ref q9), (0, .ref ob), (1, .int (iI x)), (2, .int (iI z))]) hx hb dL_divisions_11 rfl hl (by decide) rfl (fun ls hl => ?_)
      refine z_bipush hx hb dL_divisions_12 (by decide) ?_
      exact z_iret hC hr hlk hZ (Nat.le_of_ble_eq_true rfl) (Nat.le_of_ble_eq_true rfl) ⟨hG, (wq_e (codes := [-13, -11]) (q := (sWord c0 x z sDiv)) 1 hc).symm⟩ dL_divisions_14
  · skip
    obtain ⟨r, rfl, hpr⟩ := hpv
    obtain ⟨rfl, hc, rfl⟩ := hpr
    exact z_iret hC hr hlk hZ (Nat.le_of_ble_eq_true rfl) (Nat.le_of_ble_eq_true rfl) ⟨hG, (wq_0 (codes := [-13, -11]) (q := (sWord c0 x z sDiv)) hc).symm⟩ dL_divisions_6

set_option maxHeartbeats 4000000 in
set_option maxRecDepth 100000 in
theorem lw_canDivide (l : Launch) (D : va_G) (cs : Nat → ClassId) (A : Nat → Prop) (G : zF) (ob : Nat) (x : Int) (z : Int) (w9 : Int) (N : Nat) (tx inp out : List Int) (c0 : zCo) (hs : List zCo) (hlt : l.stackTraces = false) (hG : lG cs G ob N tx inp out c0 hs) (hi_x : InR x) (hi_z : InR z) (hi_w9 : InR w9) : zMW l D cs A yL_canDivide cL_canDivide 5 (some FieldType.int) [((0 : Nat), (15 : Nat), (16 : Nat), (27 : Nat)), ((0 : Nat), (15 : Nat), (21 : Nat), (33 : Nat))] 9 2 12 [.ref ob, .int (iI x), .int (iI z), .int (iI w9)] G (pI (fun r G1 => lG cs G1 ob N tx inp out c0 hs ∧ r = wq [-13, -11] (sWord c0 x z (sCan w9)))) := by
  obtain ⟨⟨g, sa, so, hL, sv, er, fa, hg⟩, hK, hh8, hhs, htz, ht60, hin, hN9⟩ := id hG
  obtain ⟨cap, hso⟩ := hg.2.2.2.2.1
  have hwi := hK.2.2.2.2.2.2.2.2.1
  refine zW_of (own := RL) (by decide) rfl (Nat.le_of_ble_eq_true rfl) ?_
  intro p e s m below meth c hC hr hlk hT hNc hZ ls hl
  have hx := hC.x
  have hb := hC.b
  have hl : lv_has ls 5 [(0, .ref ob), (1, .int (iI x)), (2, .int (iI z)), (3, .int (iI w9))] := hl
  refine lv_aload_n hx hb dL_canDivide_0 rfl (lv_at hl 0 rfl) ?_
  refine lv_iload_n hx hb dL_canDivide_1 rfl (lv_at hl 1 rfl) ?_
  refine lv_iload_n hx hb dL_canDivide_2 rfl (lv_at hl 2 rfl) ?_
  refine lv_iload_n hx hb dL_canDivide_3 rfl (lv_at hl 3 rfl) ?_
  refine z_fcallX hC (z_frX (rest := []) (As := [.int (iI x), .int (iI z), .int (iI w9)]) (n := 3) (ci := 15) hC hZ (met_X12_canDivide l D cs (zfA G s.heap) G ob g sa so er fa c0 x z w9 hlt hg.1 (hg.2.2.2.2.2.2.2.2.2.1.mono zrm_le) hi_x hi_z hi_w9) gv_L_53 hd_X12_canDivide rfl hg.1 rfl hl rfl (Nat.le_of_ble_eq_true rfl) ⟨Nat.le_of_ble_eq_true rfl, Nat.le_of_ble_eq_true rfl⟩ ⟨Nat.le_of_ble_eq_true rfl, Nat.le_of_ble_eq_true rfl⟩ dL_canDivide_4) hZ (fun E ce q9 G1 H locs hpE hZ hfr hce hcv hcl => ?_) (fun v G1 H locs hpv hZ hfr => ?_)
  · skip
    obtain ⟨rfl, hd⟩ := hpE
    rcases hd with ⟨hc, rfl⟩ | ⟨hc, rfl⟩
    · skip
      refine vx_catch (name := "java/util/NoSuchElementException") hC.ow [] ⟨0, 15, 16, 27⟩ [⟨0, 15, 21, 33⟩] (hT.trans rfl) (fun z hz => absurd hz List.not_mem_nil) rfl (by decide) (hC.ts qk_L_27) (va_Nw.use rfl (hC.G.2.1 _ q_712)) hce hcv hcl ?_
      refine lv_astore (lv' := [(4, .ref q9), (0, .ref ob), (1, .int (iI x)), (2, .int (iI z)), (3, .int (iI w9))]) hx hb dL_canDivide_16 hl (by decide) rfl (fun ls hl => ?_)
      refine z_bipush hx hb dL_canDivide_18 (by decide) ?_
      exact z_iret hC hr hlk hZ (Nat.le_of_ble_eq_true rfl) (Nat.le_of_ble_eq_true rfl) ⟨hG, (wq_e (codes := [-13, -11]) (q := (sWord c0 x z (sCan w9))) 0 hc).symm⟩ dL_canDivide_20
    · skip
      refine vx_catch (name := "java/lang/IndexOutOfBoundsException") hC.ow [⟨0, 15, 16, 27⟩] ⟨0, 15, 21, 33⟩ [] (hT.trans rfl) (fun z hz => by rw [List.mem_singleton.mp hz]; exact (Or.inr ⟨(by decide), "java/util/NoSuchElementException", hC.ts qk_L_27, hNc _ _ (by decide) (by decide) (by decide)⟩)) rfl (by decide) (hC.ts qk_L_33) (va_Nw.use rfl (hC.G.2.1 _ q_771)) hce hcv hcl ?_
      refine lv_astore (lv' := [(4, .ref q9), (0, .ref ob), (1, .int (iI x)), (2, .int (iI z)), (3, .int (iI w9))]) hx hb dL_canDivide_21 hl (by decide) rfl (fun ls hl => ?_)
      refine z_bipush hx hb dL_canDivide_23 (by decide) ?_
      exact z_iret hC hr hlk hZ (Nat.le_of_ble_eq_true rfl) (Nat.le_of_ble_eq_true rfl) ⟨hG, (wq_e (codes := [-13, -11]) (q := (sWord c0 x z (sCan w9))) 1 hc).symm⟩ dL_canDivide_25
  · skip
    obtain ⟨r, rfl, hpr⟩ := hpv
    obtain ⟨rfl, hc, hrr⟩ := hpr
    have hok : lG cs G ob N tx inp out c0 hs ∧ r = wq [-13, -11] (sWord c0 x z (sCan w9)) := ⟨hG, hrr.symm.trans (wq_0 (codes := [-13, -11]) (q := (sWord c0 x z (sCan w9))) hc).symm⟩
    have h01 : r = 0 ∨ r = 1 := by rw [← hrr]; exact sWord_01
    clear hrr
    rcases h01 with rfl | rfl
    · skip
      refine z_if_eq (tgt := 14) hx hb dL_canDivide_7 (by decide) (by decide) (fun c9 => ?_) (fun c9 => ?_)
      · skip
        refine z_iconst hx hb dL_canDivide_14 ?_
        exact z_iret hC hr hlk hZ (Nat.le_of_ble_eq_true rfl) (Nat.le_of_ble_eq_true rfl) hok dL_canDivide_15
      · skip
        exact absurd rfl c9
    · skip
      refine z_if_eq (tgt := 14) hx hb dL_canDivide_7 (by decide) (by decide) (fun c9 => ?_) (fun c9 => ?_)
      · skip
        exact absurd c9 (by decide)
      · skip
        refine z_iconst hx hb dL_canDivide_10 ?_
        refine lv_goto (tgt := 15) hx hb dL_canDivide_11 (by decide) ?_
        exact z_iret hC hr hlk hZ (Nat.le_of_ble_eq_true rfl) (Nat.le_of_ble_eq_true rfl) hok dL_canDivide_15

set_option maxHeartbeats 4000000 in
set_option maxRecDepth 100000 in
theorem lw_articleAt (l : Launch) (D : va_G) (cs : Nat → ClassId) (A : Nat → Prop) (G : zF) (ob : Nat) (x : Int) (N : Nat) (tx inp out : List Int) (c0 : zCo) (hs : List zCo) (hlt : l.stackTraces = false) (hG : lG cs G ob N tx inp out c0 hs) (hi_x : InR x) : zMW l D cs A yL_articleAt cL_articleAt 3 (some FieldType.int) [((0 : Nat), (5 : Nat), (6 : Nat), (33 : Nat))] 7 1 6 [.ref ob, .int (iI x)] G (pI (fun r G1 => lG cs G1 ob N tx inp out c0 hs ∧ r = wq [-11] (sArt c0 x))) := by
  obtain ⟨⟨g, sa, so, hL, sv, er, fa, hg⟩, hK, hh8, hhs, htz, ht60, hin, hN9⟩ := id hG
  obtain ⟨cap, hso⟩ := hg.2.2.2.2.1
  have hwi := hK.2.2.2.2.2.2.2.2.1
  refine zW_of (own := RL) (by decide) rfl (Nat.le_of_ble_eq_true rfl) ?_
  intro p e s m below meth c hC hr hlk hT hNc hZ ls hl
  have hx := hC.x
  have hb := hC.b
  have hl : lv_has ls 3 [(0, .ref ob), (1, .int (iI x))] := hl
  refine lv_aload_n hx hb dL_articleAt_0 rfl (lv_at hl 0 rfl) ?_
  refine lv_iload_n hx hb dL_articleAt_1 rfl (lv_at hl 1 rfl) ?_
  refine z_fcallX hC (z_frX (rest := []) (As := [.int (iI x)]) (n := 1) (ci := 15) hC hZ (met_X12_article l D cs (zfA G s.heap) G ob g sa so er fa c0 x hlt hg.1 (hg.2.2.2.2.2.2.2.2.2.1.mono zrm_le) hi_x) gv_L_35 hd_X12_article rfl hg.1 rfl hl rfl (Nat.le_of_ble_eq_true rfl) ⟨Nat.le_of_ble_eq_true rfl, Nat.le_of_ble_eq_true rfl⟩ ⟨Nat.le_of_ble_eq_true rfl, Nat.le_of_ble_eq_true rfl⟩ dL_articleAt_2) hZ (fun E ce q9 G1 H locs hpE hZ hfr hce hcv hcl => ?_) (fun v G1 H locs hpv hZ hfr => ?_)
  · skip
    obtain ⟨rfl, hd⟩ := hpE
    obtain ⟨hc, rfl⟩ := hd
    refine vx_catch (name := "java/lang/IndexOutOfBoundsException") hC.ow [] ⟨0, 5, 6, 33⟩ [] (hT.trans rfl) (fun z hz => absurd hz List.not_mem_nil) rfl (by decide) (hC.ts qk_L_33) (va_Nw.use rfl (hC.G.2.1 _ q_771)) hce hcv hcl ?_
    refine lv_astore_n (lv' := [(2, .ref q9), (0, .ref ob), (1, .int (iI x))]) hx hb dL_articleAt_6 rfl hl (by decide) rfl (fun ls hl => ?_)
    refine z_bipush hx hb dL_articleAt_7 (by decide) ?_
    exact z_iret hC hr hlk hZ (Nat.le_of_ble_eq_true rfl) (Nat.le_of_ble_eq_true rfl) ⟨hG, (wq_e (codes := [-11]) (q := (sArt c0 x)) 0 hc).symm⟩ dL_articleAt_9
  · skip
    obtain ⟨r, rfl, hpr⟩ := hpv
    obtain ⟨rfl, hc, rfl⟩ := hpr
    exact z_iret hC hr hlk hZ (Nat.le_of_ble_eq_true rfl) (Nat.le_of_ble_eq_true rfl) ⟨hG, (wq_0 (codes := [-11]) (q := (sArt c0 x)) hc).symm⟩ dL_articleAt_5

set_option maxHeartbeats 4000000 in
set_option maxRecDepth 100000 in
theorem lw_byPriority (l : Launch) (D : va_G) (cs : Nat → ClassId) (A : Nat → Prop) (G : zF) (ob : Nat) (x : Int) (N : Nat) (tx inp out : List Int) (c0 : zCo) (hs : List zCo) (hlt : l.stackTraces = false) (hG : lG cs G ob N tx inp out c0 hs) (hi_x : InR x) : zMW l D cs A yL_byPriority cL_byPriority 3 (some FieldType.int) [((0 : Nat), (5 : Nat), (6 : Nat), (33 : Nat))] 7 1 6 [.ref ob, .int (iI x)] G (pI (fun r G1 => lG cs G1 ob N tx inp out c0 hs ∧ r = wq [-11] (sArP c0 x))) := by
  obtain ⟨⟨g, sa, so, hL, sv, er, fa, hg⟩, hK, hh8, hhs, htz, ht60, hin, hN9⟩ := id hG
  obtain ⟨cap, hso⟩ := hg.2.2.2.2.1
  have hwi := hK.2.2.2.2.2.2.2.2.1
  refine zW_of (own := RL) (by decide) rfl (Nat.le_of_ble_eq_true rfl) ?_
  intro p e s m below meth c hC hr hlk hT hNc hZ ls hl
  have hx := hC.x
  have hb := hC.b
  have hl : lv_has ls 3 [(0, .ref ob), (1, .int (iI x))] := hl
  refine lv_aload_n hx hb dL_byPriority_0 rfl (lv_at hl 0 rfl) ?_
  refine lv_iload_n hx hb dL_byPriority_1 rfl (lv_at hl 1 rfl) ?_
  refine z_fcallX hC (z_frX (rest := []) (As := [.int (iI x)]) (n := 1) (ci := 15) hC hZ (met_X12_articleByPriority l D cs (zfA G s.heap) G ob g sa so er fa c0 x hlt hg.1 (hg.2.2.2.2.2.2.2.2.2.1.mono zrm_le) hi_x) gv_L_38 hd_X12_articleByPriority rfl hg.1 rfl hl rfl (Nat.le_of_ble_eq_true rfl) ⟨Nat.le_of_ble_eq_true rfl, Nat.le_of_ble_eq_true rfl⟩ ⟨Nat.le_of_ble_eq_true rfl, Nat.le_of_ble_eq_true rfl⟩ dL_byPriority_2) hZ (fun E ce q9 G1 H locs hpE hZ hfr hce hcv hcl => ?_) (fun v G1 H locs hpv hZ hfr => ?_)
  · skip
    obtain ⟨rfl, hd⟩ := hpE
    obtain ⟨hc, rfl⟩ := hd
    refine vx_catch (name := "java/lang/IndexOutOfBoundsException") hC.ow [] ⟨0, 5, 6, 33⟩ [] (hT.trans rfl) (fun z hz => absurd hz List.not_mem_nil) rfl (by decide) (hC.ts qk_L_33) (va_Nw.use rfl (hC.G.2.1 _ q_771)) hce hcv hcl ?_
    refine lv_astore_n (lv' := [(2, .ref q9), (0, .ref ob), (1, .int (iI x))]) hx hb dL_byPriority_6 rfl hl (by decide) rfl (fun ls hl => ?_)
    refine z_bipush hx hb dL_byPriority_7 (by decide) ?_
    exact z_iret hC hr hlk hZ (Nat.le_of_ble_eq_true rfl) (Nat.le_of_ble_eq_true rfl) ⟨hG, (wq_e (codes := [-11]) (q := (sArP c0 x)) 0 hc).symm⟩ dL_byPriority_9
  · skip
    obtain ⟨r, rfl, hpr⟩ := hpv
    obtain ⟨rfl, hc, rfl⟩ := hpr
    exact z_iret hC hr hlk hZ (Nat.le_of_ble_eq_true rfl) (Nat.le_of_ble_eq_true rfl) ⟨hG, (wq_0 (codes := [-11]) (q := (sArP c0 x)) hc).symm⟩ dL_byPriority_5

set_option maxHeartbeats 4000000 in
set_option maxRecDepth 100000 in
theorem lw_articlesIn (l : Launch) (D : va_G) (cs : Nat → ClassId) (A : Nat → Prop) (G : zF) (ob : Nat) (x : Int) (N : Nat) (tx inp out : List Int) (c0 : zCo) (hs : List zCo) (hlt : l.stackTraces = false) (hG : lG cs G ob N tx inp out c0 hs) (hi_x : InR x) : zMW l D cs A yL_articlesIn cL_articlesIn 3 (some FieldType.int) [((0 : Nat), (5 : Nat), (6 : Nat), (27 : Nat))] 8 1 6 [.ref ob, .int (iI x)] G (pI (fun r G1 => lG cs G1 ob N tx inp out c0 hs ∧ r = wq [-13] (sIss c0 x (fun s => (iTk s).length)))) := by
  obtain ⟨⟨g, sa, so, hL, sv, er, fa, hg⟩, hK, hh8, hhs, htz, ht60, hin, hN9⟩ := id hG
  obtain ⟨cap, hso⟩ := hg.2.2.2.2.1
  have hwi := hK.2.2.2.2.2.2.2.2.1
  refine zW_of (own := RL) (by decide) rfl (Nat.le_of_ble_eq_true rfl) ?_
  intro p e s m below meth c hC hr hlk hT hNc hZ ls hl
  have hx := hC.x
  have hb := hC.b
  have hl : lv_has ls 3 [(0, .ref ob), (1, .int (iI x))] := hl
  refine lv_aload_n hx hb dL_articlesIn_0 rfl (lv_at hl 0 rfl) ?_
  refine lv_iload_n hx hb dL_articlesIn_1 rfl (lv_at hl 1 rfl) ?_
  refine z_fcallX hC (z_frX (rest := []) (As := [.int (iI x)]) (n := 1) (ci := 15) hC hZ (met_X12_articlesIn l D cs (zfA G s.heap) G ob g sa so er fa c0 x hlt hg.1 (hg.2.2.2.2.2.2.2.2.2.1.mono zrm_le) hi_x) gv_L_92 hd_X12_articlesIn rfl hg.1 rfl hl rfl (Nat.le_of_ble_eq_true rfl) ⟨Nat.le_of_ble_eq_true rfl, Nat.le_of_ble_eq_true rfl⟩ ⟨Nat.le_of_ble_eq_true rfl, Nat.le_of_ble_eq_true rfl⟩ dL_articlesIn_2) hZ (fun E ce q9 G1 H locs hpE hZ hfr hce hcv hcl => ?_) (fun v G1 H locs hpv hZ hfr => ?_)
  · skip
    obtain ⟨rfl, hd⟩ := hpE
    obtain ⟨hc, rfl⟩ := hd
    refine vx_catch (name := "java/util/NoSuchElementException") hC.ow [] ⟨0, 5, 6, 27⟩ [] (hT.trans rfl) (fun z hz => absurd hz List.not_mem_nil) rfl (by decide) (hC.ts qk_L_27) (va_Nw.use rfl (hC.G.2.1 _ q_712)) hce hcv hcl ?_
    refine lv_astore_n (lv' := [(2, .ref q9), (0, .ref ob), (1, .int (iI x))]) hx hb dL_articlesIn_6 rfl hl (by decide) rfl (fun ls hl => ?_)
    refine z_bipush hx hb dL_articlesIn_7 (by decide) ?_
    exact z_iret hC hr hlk hZ (Nat.le_of_ble_eq_true rfl) (Nat.le_of_ble_eq_true rfl) ⟨hG, (wq_e (codes := [-13]) (q := (sIss c0 x (fun s => (iTk s).length))) 0 hc).symm⟩ dL_articlesIn_9
  · skip
    obtain ⟨r, rfl, hpr⟩ := hpv
    obtain ⟨rfl, hc, rfl⟩ := hpr
    exact z_iret hC hr hlk hZ (Nat.le_of_ble_eq_true rfl) (Nat.le_of_ble_eq_true rfl) ⟨hG, (wq_0 (codes := [-13]) (q := (sIss c0 x (fun s => (iTk s).length))) hc).symm⟩ dL_articlesIn_5

set_option maxHeartbeats 4000000 in
set_option maxRecDepth 100000 in
theorem lw_linesIn (l : Launch) (D : va_G) (cs : Nat → ClassId) (A : Nat → Prop) (G : zF) (ob : Nat) (x : Int) (N : Nat) (tx inp out : List Int) (c0 : zCo) (hs : List zCo) (hlt : l.stackTraces = false) (hG : lG cs G ob N tx inp out c0 hs) (hi_x : InR x) : zMW l D cs A yL_linesIn cL_linesIn 3 (some FieldType.int) [((0 : Nat), (5 : Nat), (6 : Nat), (27 : Nat))] 8 1 6 [.ref ob, .int (iI x)] G (pI (fun r G1 => lG cs G1 ob N tx inp out c0 hs ∧ r = wq [-13] (sIss c0 x (fun s => iLi s)))) := by
  obtain ⟨⟨g, sa, so, hL, sv, er, fa, hg⟩, hK, hh8, hhs, htz, ht60, hin, hN9⟩ := id hG
  obtain ⟨cap, hso⟩ := hg.2.2.2.2.1
  have hwi := hK.2.2.2.2.2.2.2.2.1
  refine zW_of (own := RL) (by decide) rfl (Nat.le_of_ble_eq_true rfl) ?_
  intro p e s m below meth c hC hr hlk hT hNc hZ ls hl
  have hx := hC.x
  have hb := hC.b
  have hl : lv_has ls 3 [(0, .ref ob), (1, .int (iI x))] := hl
  refine lv_aload_n hx hb dL_linesIn_0 rfl (lv_at hl 0 rfl) ?_
  refine lv_iload_n hx hb dL_linesIn_1 rfl (lv_at hl 1 rfl) ?_
  refine z_fcallX hC (z_frX (rest := []) (As := [.int (iI x)]) (n := 1) (ci := 15) hC hZ (met_X12_linesIn l D cs (zfA G s.heap) G ob g sa so er fa c0 x hlt hg.1 (hg.2.2.2.2.2.2.2.2.2.1.mono zrm_le) hi_x) gv_L_95 hd_X12_linesIn rfl hg.1 rfl hl rfl (Nat.le_of_ble_eq_true rfl) ⟨Nat.le_of_ble_eq_true rfl, Nat.le_of_ble_eq_true rfl⟩ ⟨Nat.le_of_ble_eq_true rfl, Nat.le_of_ble_eq_true rfl⟩ dL_linesIn_2) hZ (fun E ce q9 G1 H locs hpE hZ hfr hce hcv hcl => ?_) (fun v G1 H locs hpv hZ hfr => ?_)
  · skip
    obtain ⟨rfl, hd⟩ := hpE
    obtain ⟨hc, rfl⟩ := hd
    refine vx_catch (name := "java/util/NoSuchElementException") hC.ow [] ⟨0, 5, 6, 27⟩ [] (hT.trans rfl) (fun z hz => absurd hz List.not_mem_nil) rfl (by decide) (hC.ts qk_L_27) (va_Nw.use rfl (hC.G.2.1 _ q_712)) hce hcv hcl ?_
    refine lv_astore_n (lv' := [(2, .ref q9), (0, .ref ob), (1, .int (iI x))]) hx hb dL_linesIn_6 rfl hl (by decide) rfl (fun ls hl => ?_)
    refine z_bipush hx hb dL_linesIn_7 (by decide) ?_
    exact z_iret hC hr hlk hZ (Nat.le_of_ble_eq_true rfl) (Nat.le_of_ble_eq_true rfl) ⟨hG, (wq_e (codes := [-13]) (q := (sIss c0 x (fun s => iLi s))) 0 hc).symm⟩ dL_linesIn_9
  · skip
    obtain ⟨r, rfl, hpr⟩ := hpv
    obtain ⟨rfl, hc, rfl⟩ := hpr
    exact z_iret hC hr hlk hZ (Nat.le_of_ble_eq_true rfl) (Nat.le_of_ble_eq_true rfl) ⟨hG, (wq_0 (codes := [-13]) (q := (sIss c0 x (fun s => iLi s))) hc).symm⟩ dL_linesIn_5

set_option maxHeartbeats 4000000 in
set_option maxRecDepth 100000 in
theorem lw_isReadable (l : Launch) (D : va_G) (cs : Nat → ClassId) (A : Nat → Prop) (G : zF) (ob : Nat) (x : Int) (N : Nat) (tx inp out : List Int) (c0 : zCo) (hs : List zCo) (hlt : l.stackTraces = false) (hG : lG cs G ob N tx inp out c0 hs) (hi_x : InR x) : zMW l D cs A yL_isReadable cL_isReadable 3 (some FieldType.int) [((0 : Nat), (13 : Nat), (14 : Nat), (27 : Nat))] 8 1 6 [.ref ob, .int (iI x)] G (pI (fun r G1 => lG cs G1 ob N tx inp out c0 hs ∧ r = wq [-13] (sIss c0 x (fun s => if cDa c0 - iPr s < 5 then 1 else 0)))) := by
  obtain ⟨⟨g, sa, so, hL, sv, er, fa, hg⟩, hK, hh8, hhs, htz, ht60, hin, hN9⟩ := id hG
  obtain ⟨cap, hso⟩ := hg.2.2.2.2.1
  have hwi := hK.2.2.2.2.2.2.2.2.1
  refine zW_of (own := RL) (by decide) rfl (Nat.le_of_ble_eq_true rfl) ?_
  intro p e s m below meth c hC hr hlk hT hNc hZ ls hl
  have hx := hC.x
  have hb := hC.b
  have hl : lv_has ls 3 [(0, .ref ob), (1, .int (iI x))] := hl
  refine lv_aload_n hx hb dL_isReadable_0 rfl (lv_at hl 0 rfl) ?_
  refine lv_iload_n hx hb dL_isReadable_1 rfl (lv_at hl 1 rfl) ?_
  refine z_fcallX hC (z_frX (rest := []) (As := [.int (iI x)]) (n := 1) (ci := 15) hC hZ (met_X12_isReadable l D cs (zfA G s.heap) G ob g sa so er fa c0 x N hlt hg.1 (hg.2.2.2.2.2.2.2.2.2.1.mono zrm_le) hi_x hK (by omega)) gv_L_110 hd_X12_isReadable rfl hg.1 rfl hl rfl (Nat.le_of_ble_eq_true rfl) ⟨Nat.le_of_ble_eq_true rfl, Nat.le_of_ble_eq_true rfl⟩ ⟨Nat.le_of_ble_eq_true rfl, Nat.le_of_ble_eq_true rfl⟩ dL_isReadable_2) hZ (fun E ce q9 G1 H locs hpE hZ hfr hce hcv hcl => ?_) (fun v G1 H locs hpv hZ hfr => ?_)
  · skip
    obtain ⟨rfl, hd⟩ := hpE
    obtain ⟨hc, rfl⟩ := hd
    refine vx_catch (name := "java/util/NoSuchElementException") hC.ow [] ⟨0, 13, 14, 27⟩ [] (hT.trans rfl) (fun z hz => absurd hz List.not_mem_nil) rfl (by decide) (hC.ts qk_L_27) (va_Nw.use rfl (hC.G.2.1 _ q_712)) hce hcv hcl ?_
    refine lv_astore_n (lv' := [(2, .ref q9), (0, .ref ob), (1, .int (iI x))]) hx hb dL_isReadable_14 rfl hl (by decide) rfl (fun ls hl => ?_)
    refine z_bipush hx hb dL_isReadable_15 (by decide) ?_
    exact z_iret hC hr hlk hZ (Nat.le_of_ble_eq_true rfl) (Nat.le_of_ble_eq_true rfl) ⟨hG, (wq_e (codes := [-13]) (q := (sIss c0 x (fun s => if cDa c0 - iPr s < 5 then 1 else 0))) 0 hc).symm⟩ dL_isReadable_17
  · skip
    obtain ⟨r, rfl, hpr⟩ := hpv
    obtain ⟨rfl, hc, hrr⟩ := hpr
    have hok : lG cs G ob N tx inp out c0 hs ∧ r = wq [-13] (sIss c0 x (fun s => if cDa c0 - iPr s < 5 then 1 else 0)) := ⟨hG, hrr.symm.trans (wq_0 (codes := [-13]) (q := (sIss c0 x (fun s => if cDa c0 - iPr s < 5 then 1 else 0))) hc).symm⟩
    have h01 : r = 0 ∨ r = 1 := by rw [← hrr]; exact sIss_01
    clear hrr
    rcases h01 with rfl | rfl
    · skip
      refine z_if_eq (tgt := 12) hx hb dL_isReadable_5 (by decide) (by decide) (fun c9 => ?_) (fun c9 => ?_)
      · skip
        refine z_iconst hx hb dL_isReadable_12 ?_
        exact z_iret hC hr hlk hZ (Nat.le_of_ble_eq_true rfl) (Nat.le_of_ble_eq_true rfl) hok dL_isReadable_13
      · skip
        exact absurd rfl c9
    · skip
      refine z_if_eq (tgt := 12) hx hb dL_isReadable_5 (by decide) (by decide) (fun c9 => ?_) (fun c9 => ?_)
      · skip
        exact absurd c9 (by decide)
      · skip
        refine z_iconst hx hb dL_isReadable_8 ?_
        refine lv_goto (tgt := 13) hx hb dL_isReadable_9 (by decide) ?_
        exact z_iret hC hr hlk hZ (Nat.le_of_ble_eq_true rfl) (Nat.le_of_ble_eq_true rfl) hok dL_isReadable_13

set_option maxHeartbeats 4000000 in
set_option maxRecDepth 100000 in
theorem lw_columnOf (l : Launch) (D : va_G) (cs : Nat → ClassId) (A : Nat → Prop) (G : zF) (ob : Nat) (x : Int) (z : Int) (N : Nat) (tx inp out : List Int) (c0 : zCo) (hs : List zCo) (hlt : l.stackTraces = false) (hG : lG cs G ob N tx inp out c0 hs) (hi_x : InR x) (hi_z : InR z) : zMW l D cs A yL_columnOf cL_columnOf 4 (some FieldType.int) [((0 : Nat), (6 : Nat), (7 : Nat), (27 : Nat))] 9 2 12 [.ref ob, .int (iI x), .int (iI z)] G (pI (fun r G1 => lG cs G1 ob N tx inp out c0 hs ∧ r = wq [-13] (sPos c0 x z (fun s l => l / iHe s)))) := by
  obtain ⟨⟨g, sa, so, hL, sv, er, fa, hg⟩, hK, hh8, hhs, htz, ht60, hin, hN9⟩ := id hG
  obtain ⟨cap, hso⟩ := hg.2.2.2.2.1
  have hwi := hK.2.2.2.2.2.2.2.2.1
  refine zW_of (own := RL) (by decide) rfl (Nat.le_of_ble_eq_true rfl) ?_
  intro p e s m below meth c hC hr hlk hT hNc hZ ls hl
  have hx := hC.x
  have hb := hC.b
  have hl : lv_has ls 4 [(0, .ref ob), (1, .int (iI x)), (2, .int (iI z))] := hl
  refine lv_aload_n hx hb dL_columnOf_0 rfl (lv_at hl 0 rfl) ?_
  refine lv_iload_n hx hb dL_columnOf_1 rfl (lv_at hl 1 rfl) ?_
  refine lv_iload_n hx hb dL_columnOf_2 rfl (lv_at hl 2 rfl) ?_
  refine z_fcallX hC (z_frX (rest := []) (As := [.int (iI x), .int (iI z)]) (n := 2) (ci := 15) hC hZ (met_X12_columnOf l D cs (zfA G s.heap) G ob g sa so er fa c0 x z hlt hg.1 (hg.2.2.2.2.2.2.2.2.2.1.mono zrm_le) hi_x hi_z) gv_L_98 hd_X12_columnOf rfl hg.1 rfl hl rfl (Nat.le_of_ble_eq_true rfl) ⟨Nat.le_of_ble_eq_true rfl, Nat.le_of_ble_eq_true rfl⟩ ⟨Nat.le_of_ble_eq_true rfl, Nat.le_of_ble_eq_true rfl⟩ dL_columnOf_3) hZ (fun E ce q9 G1 H locs hpE hZ hfr hce hcv hcl => ?_) (fun v G1 H locs hpv hZ hfr => ?_)
  · skip
    obtain ⟨rfl, hd⟩ := hpE
    obtain ⟨hc, rfl⟩ := hd
    refine vx_catch (name := "java/util/NoSuchElementException") hC.ow [] ⟨0, 6, 7, 27⟩ [] (hT.trans rfl) (fun z hz => absurd hz List.not_mem_nil) rfl (by decide) (hC.ts qk_L_27) (va_Nw.use rfl (hC.G.2.1 _ q_712)) hce hcv hcl ?_
    refine lv_astore_n (lv' := [(3, .ref q9), (0, .ref ob), (1, .int (iI x)), (2, .int (iI z))]) hx hb dL_columnOf_7 rfl hl (by decide) rfl (fun ls hl => ?_)
    refine z_bipush hx hb dL_columnOf_8 (by decide) ?_
    exact z_iret hC hr hlk hZ (Nat.le_of_ble_eq_true rfl) (Nat.le_of_ble_eq_true rfl) ⟨hG, (wq_e (codes := [-13]) (q := (sPos c0 x z (fun s l => l / iHe s))) 0 hc).symm⟩ dL_columnOf_10
  · skip
    obtain ⟨r, rfl, hpr⟩ := hpv
    obtain ⟨rfl, hc, rfl⟩ := hpr
    exact z_iret hC hr hlk hZ (Nat.le_of_ble_eq_true rfl) (Nat.le_of_ble_eq_true rfl) ⟨hG, (wq_0 (codes := [-13]) (q := (sPos c0 x z (fun s l => l / iHe s))) hc).symm⟩ dL_columnOf_6

set_option maxHeartbeats 4000000 in
set_option maxRecDepth 100000 in
theorem lw_rowOf (l : Launch) (D : va_G) (cs : Nat → ClassId) (A : Nat → Prop) (G : zF) (ob : Nat) (x : Int) (z : Int) (N : Nat) (tx inp out : List Int) (c0 : zCo) (hs : List zCo) (hlt : l.stackTraces = false) (hG : lG cs G ob N tx inp out c0 hs) (hi_x : InR x) (hi_z : InR z) : zMW l D cs A yL_rowOf cL_rowOf 4 (some FieldType.int) [((0 : Nat), (6 : Nat), (7 : Nat), (27 : Nat))] 9 2 12 [.ref ob, .int (iI x), .int (iI z)] G (pI (fun r G1 => lG cs G1 ob N tx inp out c0 hs ∧ r = wq [-13] (sPos c0 x z (fun s l => l % iHe s)))) := by
  obtain ⟨⟨g, sa, so, hL, sv, er, fa, hg⟩, hK, hh8, hhs, htz, ht60, hin, hN9⟩ := id hG
  obtain ⟨cap, hso⟩ := hg.2.2.2.2.1
  have hwi := hK.2.2.2.2.2.2.2.2.1
  refine zW_of (own := RL) (by decide) rfl (Nat.le_of_ble_eq_true rfl) ?_
  intro p e s m below meth c hC hr hlk hT hNc hZ ls hl
  have hx := hC.x
  have hb := hC.b
  have hl : lv_has ls 4 [(0, .ref ob), (1, .int (iI x)), (2, .int (iI z))] := hl
  refine lv_aload_n hx hb dL_rowOf_0 rfl (lv_at hl 0 rfl) ?_
  refine lv_iload_n hx hb dL_rowOf_1 rfl (lv_at hl 1 rfl) ?_
  refine lv_iload_n hx hb dL_rowOf_2 rfl (lv_at hl 2 rfl) ?_
  refine z_fcallX hC (z_frX (rest := []) (As := [.int (iI x), .int (iI z)]) (n := 2) (ci := 15) hC hZ (met_X12_rowOf l D cs (zfA G s.heap) G ob g sa so er fa c0 x z hlt hg.1 (hg.2.2.2.2.2.2.2.2.2.1.mono zrm_le) hi_x hi_z) gv_L_101 hd_X12_rowOf rfl hg.1 rfl hl rfl (Nat.le_of_ble_eq_true rfl) ⟨Nat.le_of_ble_eq_true rfl, Nat.le_of_ble_eq_true rfl⟩ ⟨Nat.le_of_ble_eq_true rfl, Nat.le_of_ble_eq_true rfl⟩ dL_rowOf_3) hZ (fun E ce q9 G1 H locs hpE hZ hfr hce hcv hcl => ?_) (fun v G1 H locs hpv hZ hfr => ?_)
  · skip
    obtain ⟨rfl, hd⟩ := hpE
    obtain ⟨hc, rfl⟩ := hd
    refine vx_catch (name := "java/util/NoSuchElementException") hC.ow [] ⟨0, 6, 7, 27⟩ [] (hT.trans rfl) (fun z hz => absurd hz List.not_mem_nil) rfl (by decide) (hC.ts qk_L_27) (va_Nw.use rfl (hC.G.2.1 _ q_712)) hce hcv hcl ?_
    refine lv_astore_n (lv' := [(3, .ref q9), (0, .ref ob), (1, .int (iI x)), (2, .int (iI z))]) hx hb dL_rowOf_7 rfl hl (by decide) rfl (fun ls hl => ?_)
    refine z_bipush hx hb dL_rowOf_8 (by decide) ?_
    exact z_iret hC hr hlk hZ (Nat.le_of_ble_eq_true rfl) (Nat.le_of_ble_eq_true rfl) ⟨hG, (wq_e (codes := [-13]) (q := (sPos c0 x z (fun s l => l % iHe s))) 0 hc).symm⟩ dL_rowOf_10
  · skip
    obtain ⟨r, rfl, hpr⟩ := hpv
    obtain ⟨rfl, hc, rfl⟩ := hpr
    exact z_iret hC hr hlk hZ (Nat.le_of_ble_eq_true rfl) (Nat.le_of_ble_eq_true rfl) ⟨hG, (wq_0 (codes := [-13]) (q := (sPos c0 x z (fun s l => l % iHe s))) hc).symm⟩ dL_rowOf_6

set_option maxHeartbeats 4000000 in
set_option maxRecDepth 100000 in
theorem lw_freshBits (l : Launch) (D : va_G) (cs : Nat → ClassId) (A : Nat → Prop) (G : zF) (ob : Nat) (x : Int) (N : Nat) (tx inp out : List Int) (c0 : zCo) (hs : List zCo) (hlt : l.stackTraces = false) (hG : lG cs G ob N tx inp out c0 hs) (hi_x : InR x) : zMW l D cs A yL_freshBits cL_freshBits 3 (some FieldType.int) [((0 : Nat), (5 : Nat), (6 : Nat), (27 : Nat))] 8 1 6 [.ref ob, .int (iI x)] G (pI (fun r G1 => lG cs G1 ob N tx inp out c0 hs ∧ r = wq [-13] (sFB c0 x))) := by
  obtain ⟨⟨g, sa, so, hL, sv, er, fa, hg⟩, hK, hh8, hhs, htz, ht60, hin, hN9⟩ := id hG
  obtain ⟨cap, hso⟩ := hg.2.2.2.2.1
  have hwi := hK.2.2.2.2.2.2.2.2.1
  refine zW_of (own := RL) (by decide) rfl (Nat.le_of_ble_eq_true rfl) ?_
  intro p e s m below meth c hC hr hlk hT hNc hZ ls hl
  have hx := hC.x
  have hb := hC.b
  have hl : lv_has ls 3 [(0, .ref ob), (1, .int (iI x))] := hl
  refine lv_aload_n hx hb dL_freshBits_0 rfl (lv_at hl 0 rfl) ?_
  refine lv_iload_n hx hb dL_freshBits_1 rfl (lv_at hl 1 rfl) ?_
  refine z_fcallX hC (z_frX (rest := []) (As := [.int (iI x)]) (n := 1) (ci := 15) hC hZ (met_X12_freshnessBits l D cs (zfA G s.heap) G ob g sa so er fa c0 x hlt hg.1 (hg.2.2.2.2.2.2.2.2.2.1.mono zrm_le) hi_x) gv_L_107 hd_X12_freshnessBits rfl hg.1 rfl hl rfl (Nat.le_of_ble_eq_true rfl) ⟨Nat.le_of_ble_eq_true rfl, Nat.le_of_ble_eq_true rfl⟩ ⟨Nat.le_of_ble_eq_true rfl, Nat.le_of_ble_eq_true rfl⟩ dL_freshBits_2) hZ (fun E ce q9 G1 H locs hpE hZ hfr hce hcv hcl => ?_) (fun v G1 H locs hpv hZ hfr => ?_)
  · skip
    obtain ⟨rfl, hd⟩ := hpE
    obtain ⟨hc, rfl⟩ := hd
    refine vx_catch (name := "java/util/NoSuchElementException") hC.ow [] ⟨0, 5, 6, 27⟩ [] (hT.trans rfl) (fun z hz => absurd hz List.not_mem_nil) rfl (by decide) (hC.ts qk_L_27) (va_Nw.use rfl (hC.G.2.1 _ q_712)) hce hcv hcl ?_
    refine lv_astore_n (lv' := [(2, .ref q9), (0, .ref ob), (1, .int (iI x))]) hx hb dL_freshBits_6 rfl hl (by decide) rfl (fun ls hl => ?_)
    refine z_bipush hx hb dL_freshBits_7 (by decide) ?_
    exact z_iret hC hr hlk hZ (Nat.le_of_ble_eq_true rfl) (Nat.le_of_ble_eq_true rfl) ⟨hG, (wq_e (codes := [-13]) (q := (sFB c0 x)) 0 hc).symm⟩ dL_freshBits_9
  · skip
    obtain ⟨r, rfl, hpr⟩ := hpv
    obtain ⟨rfl, hc, rfl⟩ := hpr
    exact z_iret hC hr hlk hZ (Nat.le_of_ble_eq_true rfl) (Nat.le_of_ble_eq_true rfl) ⟨hG, (wq_0 (codes := [-13]) (q := (sFB c0 x)) hc).symm⟩ dL_freshBits_5

set_option maxHeartbeats 4000000 in
set_option maxRecDepth 100000 in
theorem lw_outputAt (l : Launch) (D : va_G) (cs : Nat → ClassId) (A : Nat → Prop) (G : zF) (ob : Nat) (x : Int) (N : Nat) (tx inp out : List Int) (c0 : zCo) (hs : List zCo) (hlt : l.stackTraces = false) (hG : lG cs G ob N tx inp out c0 hs) (hi_x : InR x) : zMW l D cs A yL_outputAt cL_outputAt 3 (some FieldType.int) [((0 : Nat), (5 : Nat), (6 : Nat), (33 : Nat))] 7 1 6 [.ref ob, .int (iI x)] G (pI (fun r G1 => lG cs G1 ob N tx inp out c0 hs ∧ r = wq [-11] (sOut out x))) := by
  obtain ⟨⟨g, sa, so, hL, sv, er, fa, hg⟩, hK, hh8, hhs, htz, ht60, hin, hN9⟩ := id hG
  obtain ⟨cap, hso⟩ := hg.2.2.2.2.1
  have hwi := hK.2.2.2.2.2.2.2.2.1
  refine zW_of (own := RL) (by decide) rfl (Nat.le_of_ble_eq_true rfl) ?_
  intro p e s m below meth c hC hr hlk hT hNc hZ ls hl
  have hx := hC.x
  have hb := hC.b
  have hl : lv_has ls 3 [(0, .ref ob), (1, .int (iI x))] := hl
  refine lv_aload_n hx hb dL_outputAt_0 rfl (lv_at hl 0 rfl) ?_
  refine lv_iload_n hx hb dL_outputAt_1 rfl (lv_at hl 1 rfl) ?_
  refine z_fcallX hC (z_frX (rest := []) (As := [.int (iI x)]) (n := 1) (ci := 15) hC hZ (met_X12_outputCharacter l D cs (zfA G s.heap) G ob g sa so er fa c0 x cap out hlt hg.1 (hg.2.2.2.2.2.2.2.2.2.1.mono zrm_le) hi_x hso) gv_L_119 hd_X12_outputCharacter rfl hg.1 rfl hl rfl (Nat.le_of_ble_eq_true rfl) ⟨Nat.le_of_ble_eq_true rfl, Nat.le_of_ble_eq_true rfl⟩ ⟨Nat.le_of_ble_eq_true rfl, Nat.le_of_ble_eq_true rfl⟩ dL_outputAt_2) hZ (fun E ce q9 G1 H locs hpE hZ hfr hce hcv hcl => ?_) (fun v G1 H locs hpv hZ hfr => ?_)
  · skip
    obtain ⟨rfl, hd⟩ := hpE
    obtain ⟨hc, rfl⟩ := hd
    refine vx_catch (name := "java/lang/IndexOutOfBoundsException") hC.ow [] ⟨0, 5, 6, 33⟩ [] (hT.trans rfl) (fun z hz => absurd hz List.not_mem_nil) rfl (by decide) (hC.ts qk_L_33) (va_Nw.use rfl (hC.G.2.1 _ q_771)) hce hcv hcl ?_
    refine lv_astore_n (lv' := [(2, .ref q9), (0, .ref ob), (1, .int (iI x))]) hx hb dL_outputAt_6 rfl hl (by decide) rfl (fun ls hl => ?_)
    refine z_bipush hx hb dL_outputAt_7 (by decide) ?_
    exact z_iret hC hr hlk hZ (Nat.le_of_ble_eq_true rfl) (Nat.le_of_ble_eq_true rfl) ⟨hG, (wq_e (codes := [-11]) (q := (sOut out x)) 0 hc).symm⟩ dL_outputAt_9
  · skip
    obtain ⟨r, rfl, hpr⟩ := hpv
    obtain ⟨rfl, hc, rfl⟩ := hpr
    exact z_iret hC hr hlk hZ (Nat.le_of_ble_eq_true rfl) (Nat.le_of_ble_eq_true rfl) ⟨hG, (wq_0 (codes := [-11]) (q := (sOut out x)) hc).symm⟩ dL_outputAt_5

set_option maxHeartbeats 4000000 in
set_option maxRecDepth 100000 in
theorem lw_daysUntil (l : Launch) (D : va_G) (cs : Nat → ClassId) (A : Nat → Prop) (G : zF) (ob : Nat) (x : Int) (N : Nat) (tx inp out : List Int) (c0 : zCo) (hs : List zCo) (hlt : l.stackTraces = false) (hG : lG cs G ob N tx inp out c0 hs) (hi_x : InR x) : zMW l D cs A yL_daysUntil cL_daysUntil 3 (some FieldType.int) [((0 : Nat), (5 : Nat), (6 : Nat), (27 : Nat))] 8 31 96 [.ref ob, .int (iI x)] G (pI (fun r G1 => lG cs G1 ob N tx inp out c0 hs ∧ r = wq [-13] (sIss c0 x (fun s => if cDa c0 - iPr s < 5 then 5 - (cDa c0 - iPr s) else 0)))) := by
  obtain ⟨⟨g, sa, so, hL, sv, er, fa, hg⟩, hK, hh8, hhs, htz, ht60, hin, hN9⟩ := id hG
  obtain ⟨cap, hso⟩ := hg.2.2.2.2.1
  have hwi := hK.2.2.2.2.2.2.2.2.1
  refine zW_of (own := RL) (by decide) rfl (Nat.le_of_ble_eq_true rfl) ?_
  intro p e s m below meth c hC hr hlk hT hNc hZ ls hl
  have hx := hC.x
  have hb := hC.b
  have hl : lv_has ls 3 [(0, .ref ob), (1, .int (iI x))] := hl
  refine lv_aload_n hx hb dL_daysUntil_0 rfl (lv_at hl 0 rfl) ?_
  refine lv_iload_n hx hb dL_daysUntil_1 rfl (lv_at hl 1 rfl) ?_
  refine z_fcallX hC (z_frX (rest := []) (As := [.int (iI x)]) (n := 1) (ci := 15) hC hZ (met_X12_daysUntilUnreadable l D cs (zfA G s.heap) G ob g sa so er fa c0 x N hlt hg.1 (hg.2.2.2.2.2.2.2.2.2.1.mono zrm_le) hi_x hK (by omega)) gv_L_113 hd_X12_daysUntilUnreadable rfl hg.1 rfl hl rfl (Nat.le_of_ble_eq_true rfl) ⟨Nat.le_of_ble_eq_true rfl, Nat.le_of_ble_eq_true rfl⟩ ⟨Nat.le_of_ble_eq_true rfl, Nat.le_of_ble_eq_true rfl⟩ dL_daysUntil_2) hZ (fun E ce q9 G1 H locs hpE hZ hfr hce hcv hcl => ?_) (fun v G1 H locs hpv hZ hfr => ?_)
  · skip
    obtain ⟨rfl, hd⟩ := hpE
    obtain ⟨hc, rfl⟩ := hd
    refine vx_catch (name := "java/util/NoSuchElementException") hC.ow [] ⟨0, 5, 6, 27⟩ [] (hT.trans rfl) (fun z hz => absurd hz List.not_mem_nil) rfl (by decide) (hC.ts qk_L_27) (va_Nw.use rfl (hC.G.2.1 _ q_712)) hce hcv hcl ?_
    refine lv_astore_n (lv' := [(2, .ref q9), (0, .ref ob), (1, .int (iI x))]) hx hb dL_daysUntil_6 rfl hl (by decide) rfl (fun ls hl => ?_)
    refine z_bipush hx hb dL_daysUntil_7 (by decide) ?_
    exact z_iret hC hr hlk hZ (Nat.le_of_ble_eq_true rfl) (Nat.le_of_ble_eq_true rfl) ⟨hG, (wq_e (codes := [-13]) (q := (sIss c0 x (fun s => if cDa c0 - iPr s < 5 then 5 - (cDa c0 - iPr s) else 0))) 0 hc).symm⟩ dL_daysUntil_9
  · skip
    obtain ⟨r, rfl, hpr⟩ := hpv
    obtain ⟨hle, hc, rfl⟩ := hpr
    exact z_iret hC hr hlk hZ (Nat.le_of_ble_eq_true rfl) (Nat.le_of_ble_eq_true rfl) ⟨⟨⟨g, sa, so, hL, sv, er, fa, hg.le hle⟩, hG.2⟩, (wq_0 (codes := [-13]) (q := (sIss c0 x (fun s => if cDa c0 - iPr s < 5 then 5 - (cDa c0 - iPr s) else 0))) hc).symm⟩ dL_daysUntil_5

set_option maxHeartbeats 4000000 in
set_option maxRecDepth 100000 in
theorem lw_canBeSet (l : Launch) (D : va_G) (cs : Nat → ClassId) (A : Nat → Prop) (G : zF) (ob : Nat) (x : Int) (N : Nat) (tx inp out : List Int) (c0 : zCo) (hs : List zCo) (hlt : l.stackTraces = false) (hG : lG cs G ob N tx inp out c0 hs) (hi_x : InR x) : zMW l D cs A yL_canBeSet cL_canBeSet 3 (some FieldType.int) [((0 : Nat), (13 : Nat), (14 : Nat), (27 : Nat))] 8 1 6 [.ref ob, .int (iI x)] G (pI (fun r G1 => lG cs G1 ob N tx inp out c0 hs ∧ r = wq [-13] (sCbs c0 x))) := by
  obtain ⟨⟨g, sa, so, hL, sv, er, fa, hg⟩, hK, hh8, hhs, htz, ht60, hin, hN9⟩ := id hG
  obtain ⟨cap, hso⟩ := hg.2.2.2.2.1
  have hwi := hK.2.2.2.2.2.2.2.2.1
  refine zW_of (own := RL) (by decide) rfl (Nat.le_of_ble_eq_true rfl) ?_
  intro p e s m below meth c hC hr hlk hT hNc hZ ls hl
  have hx := hC.x
  have hb := hC.b
  have hl : lv_has ls 3 [(0, .ref ob), (1, .int (iI x))] := hl
  refine lv_aload_n hx hb dL_canBeSet_0 rfl (lv_at hl 0 rfl) ?_
  refine lv_iload_n hx hb dL_canBeSet_1 rfl (lv_at hl 1 rfl) ?_
  refine z_fcallX hC (z_frX (rest := []) (As := [.int (iI x)]) (n := 1) (ci := 15) hC hZ (met_X12_canBeSet l D cs (zfA G s.heap) G ob g sa so hL tx inp out c0 sv hs er fa x hlt hg hi_x hwi) gv_L_60 hd_X12_canBeSet rfl hg.1 rfl hl rfl (Nat.le_of_ble_eq_true rfl) ⟨Nat.le_of_ble_eq_true rfl, Nat.le_of_ble_eq_true rfl⟩ ⟨Nat.le_of_ble_eq_true rfl, Nat.le_of_ble_eq_true rfl⟩ dL_canBeSet_2) hZ (fun E ce q9 G1 H locs hpE hZ hfr hce hcv hcl => ?_) (fun v G1 H locs hpv hZ hfr => ?_)
  · skip
    obtain ⟨hg1, hd⟩ := hpE
    obtain ⟨hc, rfl⟩ := hd
    refine vx_catch (name := "java/util/NoSuchElementException") hC.ow [] ⟨0, 13, 14, 27⟩ [] (hT.trans rfl) (fun z hz => absurd hz List.not_mem_nil) rfl (by decide) (hC.ts qk_L_27) (va_Nw.use rfl (hC.G.2.1 _ q_712)) hce hcv hcl ?_
    refine lv_astore_n (lv' := [(2, .ref q9), (0, .ref ob), (1, .int (iI x))]) hx hb dL_canBeSet_14 rfl hl (by decide) rfl (fun ls hl => ?_)
    refine z_bipush hx hb dL_canBeSet_15 (by decide) ?_
    exact z_iret hC hr hlk hZ (Nat.le_of_ble_eq_true rfl) (Nat.le_of_ble_eq_true rfl) ⟨⟨⟨g, sa, so, hL, sv, er, fa, hg1⟩, hG.2⟩, (wq_e (codes := [-13]) (q := (sCbs c0 x)) 0 hc).symm⟩ dL_canBeSet_17
  · skip
    obtain ⟨r, rfl, hpr⟩ := hpv
    obtain ⟨hg1, hc, hrr⟩ := hpr
    have hok : lG cs G1 ob N tx inp out c0 hs ∧ r = wq [-13] (sCbs c0 x) := ⟨⟨⟨g, sa, so, hL, sv, er, fa, hg1⟩, hG.2⟩, hrr.symm.trans (wq_0 (codes := [-13]) (q := (sCbs c0 x)) hc).symm⟩
    have h01 : r = 0 ∨ r = 1 := by rw [← hrr]; exact sCbs_01
    clear hrr
    rcases h01 with rfl | rfl
    · skip
      refine z_if_eq (tgt := 12) hx hb dL_canBeSet_5 (by decide) (by decide) (fun c9 => ?_) (fun c9 => ?_)
      · skip
        refine z_iconst hx hb dL_canBeSet_12 ?_
        exact z_iret hC hr hlk hZ (Nat.le_of_ble_eq_true rfl) (Nat.le_of_ble_eq_true rfl) hok dL_canBeSet_13
      · skip
        exact absurd rfl c9
    · skip
      refine z_if_eq (tgt := 12) hx hb dL_canBeSet_5 (by decide) (by decide) (fun c9 => ?_) (fun c9 => ?_)
      · skip
        exact absurd c9 (by decide)
      · skip
        refine z_iconst hx hb dL_canBeSet_8 ?_
        refine lv_goto (tgt := 13) hx hb dL_canBeSet_9 (by decide) ?_
        exact z_iret hC hr hlk hZ (Nat.le_of_ble_eq_true rfl) (Nat.le_of_ble_eq_true rfl) hok dL_canBeSet_13

set_option maxHeartbeats 4000000 in
set_option maxRecDepth 100000 in
theorem lw_lineCount (l : Launch) (D : va_G) (cs : Nat → ClassId) (A : Nat → Prop) (G : zF) (ob : Nat) (x : Int) (N : Nat) (tx inp out : List Int) (c0 : zCo) (hs : List zCo) (hlt : l.stackTraces = false) (hG : lG cs G ob N tx inp out c0 hs) (hi_x : InR x) : zMW l D cs A yL_lineCount cL_lineCount 3 (some FieldType.int) [((0 : Nat), (5 : Nat), (6 : Nat), (27 : Nat)), ((0 : Nat), (5 : Nat), (10 : Nat), (22 : Nat))] 9 2 12 [.ref ob, .int (iI x)] G (pI (fun r G1 => lG cs G1 ob N tx inp out c0 hs ∧ r = wq [-13, -15] (sLn c0 x (fun ls => ls.length)))) := by
  obtain ⟨⟨g, sa, so, hL, sv, er, fa, hg⟩, hK, hh8, hhs, htz, ht60, hin, hN9⟩ := id hG
  obtain ⟨cap, hso⟩ := hg.2.2.2.2.1
  have hwi := hK.2.2.2.2.2.2.2.2.1
  refine zW_of (own := RL) (by decide) rfl (Nat.le_of_ble_eq_true rfl) ?_
  intro p e s m below meth c hC hr hlk hT hNc hZ ls hl
  have hx := hC.x
  have hb := hC.b
  have hl : lv_has ls 3 [(0, .ref ob), (1, .int (iI x))] := hl
  refine lv_aload_n hx hb dL_lineCount_0 rfl (lv_at hl 0 rfl) ?_
  refine lv_iload_n hx hb dL_lineCount_1 rfl (lv_at hl 1 rfl) ?_
  refine z_fcallX hC (z_frX (rest := []) (As := [.int (iI x)]) (n := 1) (ci := 15) hC hZ (met_X12_lineCount l D cs (zfA G s.heap) G ob g sa so hL tx inp out c0 sv hs er fa x hlt hg hi_x hwi) gv_L_64 hd_X12_lineCount rfl hg.1 rfl hl rfl (Nat.le_of_ble_eq_true rfl) ⟨Nat.le_of_ble_eq_true rfl, Nat.le_of_ble_eq_true rfl⟩ ⟨Nat.le_of_ble_eq_true rfl, Nat.le_of_ble_eq_true rfl⟩ dL_lineCount_2) hZ (fun E ce q9 G1 H locs hpE hZ hfr hce hcv hcl => ?_) (fun v G1 H locs hpv hZ hfr => ?_)
  · skip
    obtain ⟨hg1, hd⟩ := hpE
    rcases hd with ⟨hc, rfl⟩ | ⟨hc, rfl⟩
    · skip
      refine vx_catch (name := "java/util/NoSuchElementException") hC.ow [] ⟨0, 5, 6, 27⟩ [⟨0, 5, 10, 22⟩] (hT.trans rfl) (fun z hz => absurd hz List.not_mem_nil) rfl (by decide) (hC.ts qk_L_27) (va_Nw.use rfl (hC.G.2.1 _ q_712)) hce hcv hcl ?_
      refine lv_astore_n (lv' := [(2, .ref q9), (0, .ref ob), (1, .int (iI x))]) hx hb dL_lineCount_6 rfl hl (by decide) rfl (fun ls hl => ?_)
      refine z_bipush hx hb dL_lineCount_7 (by decide) ?_
      exact z_iret hC hr hlk hZ (Nat.le_of_ble_eq_true rfl) (Nat.le_of_ble_eq_true rfl) ⟨⟨⟨g, sa, so, hL, sv, er, fa, hg1⟩, hG.2⟩, (wq_e (codes := [-13, -15]) (q := (sLn c0 x (fun ls => ls.length))) 0 hc).symm⟩ dL_lineCount_9
    · skip
      refine vx_catch (name := "java/lang/UnsupportedOperationException") hC.ow [⟨0, 5, 6, 27⟩] ⟨0, 5, 10, 22⟩ [] (hT.trans rfl) (fun z hz => by rw [List.mem_singleton.mp hz]; exact (Or.inr ⟨(by decide), "java/util/NoSuchElementException", hC.ts qk_L_27, hNc _ _ (by decide) (by decide) (by decide)⟩)) rfl (by decide) (hC.ts qk_L_22) (va_Nw.use rfl (hC.G.2.1 _ q_531)) hce hcv hcl ?_
      refine lv_astore_n (lv' := [(2, .ref q9), (0, .ref ob), (1, .int (iI x))]) hx hb dL_lineCount_10 rfl hl (by decide) rfl (fun ls hl => ?_)
      refine z_bipush hx hb dL_lineCount_11 (by decide) ?_
      exact z_iret hC hr hlk hZ (Nat.le_of_ble_eq_true rfl) (Nat.le_of_ble_eq_true rfl) ⟨⟨⟨g, sa, so, hL, sv, er, fa, hg1⟩, hG.2⟩, (wq_e (codes := [-13, -15]) (q := (sLn c0 x (fun ls => ls.length))) 1 hc).symm⟩ dL_lineCount_13
  · skip
    obtain ⟨r, rfl, hpr⟩ := hpv
    obtain ⟨hg1, hc, rfl⟩ := hpr
    exact z_iret hC hr hlk hZ (Nat.le_of_ble_eq_true rfl) (Nat.le_of_ble_eq_true rfl) ⟨⟨⟨g, sa, so, hL, sv, er, fa, hg1⟩, hG.2⟩, (wq_0 (codes := [-13, -15]) (q := (sLn c0 x (fun ls => ls.length))) hc).symm⟩ dL_lineCount_5

set_option maxHeartbeats 4000000 in
set_option maxRecDepth 100000 in
theorem lw_hyphens (l : Launch) (D : va_G) (cs : Nat → ClassId) (A : Nat → Prop) (G : zF) (ob : Nat) (x : Int) (N : Nat) (tx inp out : List Int) (c0 : zCo) (hs : List zCo) (hlt : l.stackTraces = false) (hG : lG cs G ob N tx inp out c0 hs) (hi_x : InR x) : zMW l D cs A yL_hyphens cL_hyphens 3 (some FieldType.int) [((0 : Nat), (5 : Nat), (6 : Nat), (27 : Nat)), ((0 : Nat), (5 : Nat), (10 : Nat), (22 : Nat))] 9 2 12 [.ref ob, .int (iI x)] G (pI (fun r G1 => lG cs G1 ob N tx inp out c0 hs ∧ r = wq [-13, -15] (sLn c0 x sHy))) := by
  obtain ⟨⟨g, sa, so, hL, sv, er, fa, hg⟩, hK, hh8, hhs, htz, ht60, hin, hN9⟩ := id hG
  obtain ⟨cap, hso⟩ := hg.2.2.2.2.1
  have hwi := hK.2.2.2.2.2.2.2.2.1
  refine zW_of (own := RL) (by decide) rfl (Nat.le_of_ble_eq_true rfl) ?_
  intro p e s m below meth c hC hr hlk hT hNc hZ ls hl
  have hx := hC.x
  have hb := hC.b
  have hl : lv_has ls 3 [(0, .ref ob), (1, .int (iI x))] := hl
  refine lv_aload_n hx hb dL_hyphens_0 rfl (lv_at hl 0 rfl) ?_
  refine lv_iload_n hx hb dL_hyphens_1 rfl (lv_at hl 1 rfl) ?_
  refine z_fcallX hC (z_frX (rest := []) (As := [.int (iI x)]) (n := 1) (ci := 15) hC hZ (met_X12_hyphenCount l D cs (zfA G s.heap) G ob g sa so hL tx inp out c0 sv hs er fa x hlt hg hi_x hwi) gv_L_70 hd_X12_hyphenCount rfl hg.1 rfl hl rfl (Nat.le_of_ble_eq_true rfl) ⟨Nat.le_of_ble_eq_true rfl, Nat.le_of_ble_eq_true rfl⟩ ⟨Nat.le_of_ble_eq_true rfl, Nat.le_of_ble_eq_true rfl⟩ dL_hyphens_2) hZ (fun E ce q9 G1 H locs hpE hZ hfr hce hcv hcl => ?_) (fun v G1 H locs hpv hZ hfr => ?_)
  · skip
    obtain ⟨hg1, hd⟩ := hpE
    rcases hd with ⟨hc, rfl⟩ | ⟨hc, rfl⟩
    · skip
      refine vx_catch (name := "java/util/NoSuchElementException") hC.ow [] ⟨0, 5, 6, 27⟩ [⟨0, 5, 10, 22⟩] (hT.trans rfl) (fun z hz => absurd hz List.not_mem_nil) rfl (by decide) (hC.ts qk_L_27) (va_Nw.use rfl (hC.G.2.1 _ q_712)) hce hcv hcl ?_
      refine lv_astore_n (lv' := [(2, .ref q9), (0, .ref ob), (1, .int (iI x))]) hx hb dL_hyphens_6 rfl hl (by decide) rfl (fun ls hl => ?_)
      refine z_bipush hx hb dL_hyphens_7 (by decide) ?_
      exact z_iret hC hr hlk hZ (Nat.le_of_ble_eq_true rfl) (Nat.le_of_ble_eq_true rfl) ⟨⟨⟨g, sa, so, hL, sv, er, fa, hg1⟩, hG.2⟩, (wq_e (codes := [-13, -15]) (q := (sLn c0 x sHy)) 0 hc).symm⟩ dL_hyphens_9
    · skip
      refine vx_catch (name := "java/lang/UnsupportedOperationException") hC.ow [⟨0, 5, 6, 27⟩] ⟨0, 5, 10, 22⟩ [] (hT.trans rfl) (fun z hz => by rw [List.mem_singleton.mp hz]; exact (Or.inr ⟨(by decide), "java/util/NoSuchElementException", hC.ts qk_L_27, hNc _ _ (by decide) (by decide) (by decide)⟩)) rfl (by decide) (hC.ts qk_L_22) (va_Nw.use rfl (hC.G.2.1 _ q_531)) hce hcv hcl ?_
      refine lv_astore_n (lv' := [(2, .ref q9), (0, .ref ob), (1, .int (iI x))]) hx hb dL_hyphens_10 rfl hl (by decide) rfl (fun ls hl => ?_)
      refine z_bipush hx hb dL_hyphens_11 (by decide) ?_
      exact z_iret hC hr hlk hZ (Nat.le_of_ble_eq_true rfl) (Nat.le_of_ble_eq_true rfl) ⟨⟨⟨g, sa, so, hL, sv, er, fa, hg1⟩, hG.2⟩, (wq_e (codes := [-13, -15]) (q := (sLn c0 x sHy)) 1 hc).symm⟩ dL_hyphens_13
  · skip
    obtain ⟨r, rfl, hpr⟩ := hpv
    obtain ⟨hg1, hc, rfl⟩ := hpr
    exact z_iret hC hr hlk hZ (Nat.le_of_ble_eq_true rfl) (Nat.le_of_ble_eq_true rfl) ⟨⟨⟨g, sa, so, hL, sv, er, fa, hg1⟩, hG.2⟩, (wq_0 (codes := [-13, -15]) (q := (sLn c0 x sHy)) hc).symm⟩ dL_hyphens_5

set_option maxHeartbeats 4000000 in
set_option maxRecDepth 100000 in
theorem lw_lineLength (l : Launch) (D : va_G) (cs : Nat → ClassId) (A : Nat → Prop) (G : zF) (ob : Nat) (x : Int) (z : Int) (N : Nat) (tx inp out : List Int) (c0 : zCo) (hs : List zCo) (hlt : l.stackTraces = false) (hG : lG cs G ob N tx inp out c0 hs) (hi_x : InR x) (hi_z : InR z) : zMW l D cs A yL_lineLength cL_lineLength 4 (some FieldType.int) [((0 : Nat), (6 : Nat), (7 : Nat), (27 : Nat)), ((0 : Nat), (6 : Nat), (11 : Nat), (22 : Nat)), ((0 : Nat), (6 : Nat), (15 : Nat), (33 : Nat))] 10 3 18 [.ref ob, .int (iI x), .int (iI z)] G (pI (fun r G1 => lG cs G1 ob N tx inp out c0 hs ∧ r = wq [-13, -15, -11] ((zlq c0 x z).1, ((zlq c0 x z).2.length : Int)))) := by
  obtain ⟨⟨g, sa, so, hL, sv, er, fa, hg⟩, hK, hh8, hhs, htz, ht60, hin, hN9⟩ := id hG
  obtain ⟨cap, hso⟩ := hg.2.2.2.2.1
  have hwi := hK.2.2.2.2.2.2.2.2.1
  refine zW_of (own := RL) (by decide) rfl (Nat.le_of_ble_eq_true rfl) ?_
  intro p e s m below meth c hC hr hlk hT hNc hZ ls hl
  have hx := hC.x
  have hb := hC.b
  have hl : lv_has ls 4 [(0, .ref ob), (1, .int (iI x)), (2, .int (iI z))] := hl
  refine lv_aload_n hx hb dL_lineLength_0 rfl (lv_at hl 0 rfl) ?_
  refine lv_iload_n hx hb dL_lineLength_1 rfl (lv_at hl 1 rfl) ?_
  refine lv_iload_n hx hb dL_lineLength_2 rfl (lv_at hl 2 rfl) ?_
  refine z_fcallX hC (z_frX (rest := []) (As := [.int (iI x), .int (iI z)]) (n := 2) (ci := 15) hC hZ (met_X12_lineLength l D cs (zfA G s.heap) G ob g sa so hL tx inp out c0 sv hs er fa x z hlt hg hi_x hi_z hwi) gv_L_67 hd_X12_lineLength rfl hg.1 rfl hl rfl (Nat.le_of_ble_eq_true rfl) ⟨Nat.le_of_ble_eq_true rfl, Nat.le_of_ble_eq_true rfl⟩ ⟨Nat.le_of_ble_eq_true rfl, Nat.le_of_ble_eq_true rfl⟩ dL_lineLength_3) hZ (fun E ce q9 G1 H locs hpE hZ hfr hce hcv hcl => ?_) (fun v G1 H locs hpv hZ hfr => ?_)
  · skip
    obtain ⟨hg1, hd⟩ := hpE
    rcases hd with ⟨hc, rfl⟩ | ⟨hc, rfl⟩ | ⟨hc, rfl⟩
    · skip
      refine vx_catch (name := "java/util/NoSuchElementException") hC.ow [] ⟨0, 6, 7, 27⟩ [⟨0, 6, 11, 22⟩, ⟨0, 6, 15, 33⟩] (hT.trans rfl) (fun z hz => absurd hz List.not_mem_nil) rfl (by decide) (hC.ts qk_L_27) (va_Nw.use rfl (hC.G.2.1 _ q_712)) hce hcv hcl ?_
      refine lv_astore_n (lv' := [(3, .ref q9), (0, .ref ob), (1, .int (iI x)), (2, .int (iI z))]) hx hb dL_lineLength_7 rfl hl (by decide) rfl (fun ls hl => ?_)
      refine z_bipush hx hb dL_lineLength_8 (by decide) ?_
      exact z_iret hC hr hlk hZ (Nat.le_of_ble_eq_true rfl) (Nat.le_of_ble_eq_true rfl) ⟨⟨⟨g, sa, so, hL, sv, er, fa, hg1⟩, hG.2⟩, (wq_e (codes := [-13, -15, -11]) (q := ((zlq c0 x z).1, ((zlq c0 x z).2.length : Int))) 0 hc).symm⟩ dL_lineLength_10
    · skip
      refine vx_catch (name := "java/lang/UnsupportedOperationException") hC.ow [⟨0, 6, 7, 27⟩] ⟨0, 6, 11, 22⟩ [⟨0, 6, 15, 33⟩] (hT.trans rfl) (fun z hz => by rw [List.mem_singleton.mp hz]; exact (Or.inr ⟨(by decide), "java/util/NoSuchElementException", hC.ts qk_L_27, hNc _ _ (by decide) (by decide) (by decide)⟩)) rfl (by decide) (hC.ts qk_L_22) (va_Nw.use rfl (hC.G.2.1 _ q_531)) hce hcv hcl ?_
      refine lv_astore_n (lv' := [(3, .ref q9), (0, .ref ob), (1, .int (iI x)), (2, .int (iI z))]) hx hb dL_lineLength_11 rfl hl (by decide) rfl (fun ls hl => ?_)
      refine z_bipush hx hb dL_lineLength_12 (by decide) ?_
      exact z_iret hC hr hlk hZ (Nat.le_of_ble_eq_true rfl) (Nat.le_of_ble_eq_true rfl) ⟨⟨⟨g, sa, so, hL, sv, er, fa, hg1⟩, hG.2⟩, (wq_e (codes := [-13, -15, -11]) (q := ((zlq c0 x z).1, ((zlq c0 x z).2.length : Int))) 1 hc).symm⟩ dL_lineLength_14
    · skip
      refine vx_catch (name := "java/lang/IndexOutOfBoundsException") hC.ow [⟨0, 6, 7, 27⟩, ⟨0, 6, 11, 22⟩] ⟨0, 6, 15, 33⟩ [] (hT.trans rfl) (fun z hz => by
            rcases List.mem_cons.mp hz with rfl | hz
            · exact (Or.inr ⟨(by decide), "java/util/NoSuchElementException", hC.ts qk_L_27, hNc _ _ (by decide) (by decide) (by decide)⟩)
            · rw [List.mem_singleton.mp hz]; exact (Or.inr ⟨(by decide), "java/lang/UnsupportedOperationException", hC.ts qk_L_22, hNc _ _ (by decide) (by decide) (by decide)⟩)) rfl (by decide) (hC.ts qk_L_33) (va_Nw.use rfl (hC.G.2.1 _ q_771)) hce hcv hcl ?_
      refine lv_astore_n (lv' := [(3, .ref q9), (0, .ref ob), (1, .int (iI x)), (2, .int (iI z))]) hx hb dL_lineLength_15 rfl hl (by decide) rfl (fun ls hl => ?_)
      refine z_bipush hx hb dL_lineLength_16 (by decide) ?_
      exact z_iret hC hr hlk hZ (Nat.le_of_ble_eq_true rfl) (Nat.le_of_ble_eq_true rfl) ⟨⟨⟨g, sa, so, hL, sv, er, fa, hg1⟩, hG.2⟩, (wq_e (codes := [-13, -15, -11]) (q := ((zlq c0 x z).1, ((zlq c0 x z).2.length : Int))) 2 hc).symm⟩ dL_lineLength_18
  · skip
    obtain ⟨r, rfl, hpr⟩ := hpv
    obtain ⟨hg1, hc, rfl⟩ := hpr
    exact z_iret hC hr hlk hZ (Nat.le_of_ble_eq_true rfl) (Nat.le_of_ble_eq_true rfl) ⟨⟨⟨g, sa, so, hL, sv, er, fa, hg1⟩, hG.2⟩, (wq_0 (codes := [-13, -15, -11]) (q := ((zlq c0 x z).1, ((zlq c0 x z).2.length : Int))) hc).symm⟩ dL_lineLength_6

set_option maxHeartbeats 4000000 in
set_option maxRecDepth 100000 in
theorem lw_smallest (l : Launch) (D : va_G) (cs : Nat → ClassId) (A : Nat → Prop) (G : zF) (ob : Nat) (x : Int) (N : Nat) (tx inp out : List Int) (c0 : zCo) (hs : List zCo) (hlt : l.stackTraces = false) (hG : lG cs G ob N tx inp out c0 hs) (hi_x : InR x) : zMW l D cs A yL_smallest cL_smallest 3 (some FieldType.int) [((0 : Nat), (5 : Nat), (6 : Nat), (27 : Nat))] 8 1 6 [.ref ob, .int (iI x)] G (pI (fun r G1 => lG cs G1 ob N tx inp out c0 hs ∧ r = wq [-13] (sSm c0 x))) := by
  obtain ⟨⟨g, sa, so, hL, sv, er, fa, hg⟩, hK, hh8, hhs, htz, ht60, hin, hN9⟩ := id hG
  obtain ⟨cap, hso⟩ := hg.2.2.2.2.1
  have hwi := hK.2.2.2.2.2.2.2.2.1
  refine zW_of (own := RL) (by decide) rfl (Nat.le_of_ble_eq_true rfl) ?_
  intro p e s m below meth c hC hr hlk hT hNc hZ ls hl
  have hx := hC.x
  have hb := hC.b
  have hl : lv_has ls 3 [(0, .ref ob), (1, .int (iI x))] := hl
  refine lv_aload_n hx hb dL_smallest_0 rfl (lv_at hl 0 rfl) ?_
  refine lv_iload_n hx hb dL_smallest_1 rfl (lv_at hl 1 rfl) ?_
  refine z_fcallX hC (z_frX (rest := []) (As := [.int (iI x)]) (n := 1) (ci := 15) hC hZ (met_X12_smallestWidth l D cs (zfA G s.heap) G ob g sa so hL tx inp out c0 sv hs er fa x hlt hg hi_x) gv_L_76 hd_X12_smallestWidth rfl hg.1 rfl hl rfl (Nat.le_of_ble_eq_true rfl) ⟨Nat.le_of_ble_eq_true rfl, Nat.le_of_ble_eq_true rfl⟩ ⟨Nat.le_of_ble_eq_true rfl, Nat.le_of_ble_eq_true rfl⟩ dL_smallest_2) hZ (fun E ce q9 G1 H locs hpE hZ hfr hce hcv hcl => ?_) (fun v G1 H locs hpv hZ hfr => ?_)
  · skip
    obtain ⟨hg1, hd⟩ := hpE
    obtain ⟨hc, rfl⟩ := hd
    refine vx_catch (name := "java/util/NoSuchElementException") hC.ow [] ⟨0, 5, 6, 27⟩ [] (hT.trans rfl) (fun z hz => absurd hz List.not_mem_nil) rfl (by decide) (hC.ts qk_L_27) (va_Nw.use rfl (hC.G.2.1 _ q_712)) hce hcv hcl ?_
    refine lv_astore_n (lv' := [(2, .ref q9), (0, .ref ob), (1, .int (iI x))]) hx hb dL_smallest_6 rfl hl (by decide) rfl (fun ls hl => ?_)
    refine z_bipush hx hb dL_smallest_7 (by decide) ?_
    exact z_iret hC hr hlk hZ (Nat.le_of_ble_eq_true rfl) (Nat.le_of_ble_eq_true rfl) ⟨⟨⟨g, sa, so, hL, sv, er, fa, hg1⟩, hG.2⟩, (wq_e (codes := [-13]) (q := (sSm c0 x)) 0 hc).symm⟩ dL_smallest_9
  · skip
    obtain ⟨r, rfl, hpr⟩ := hpv
    obtain ⟨hg1, hc, rfl⟩ := hpr
    exact z_iret hC hr hlk hZ (Nat.le_of_ble_eq_true rfl) (Nat.le_of_ble_eq_true rfl) ⟨⟨⟨g, sa, so, hL, sv, er, fa, hg1⟩, hG.2⟩, (wq_0 (codes := [-13]) (q := (sSm c0 x)) hc).symm⟩ dL_smallest_5

set_option maxHeartbeats 4000000 in
set_option maxRecDepth 100000 in
theorem lw_badness (l : Launch) (D : va_G) (cs : Nat → ClassId) (A : Nat → Prop) (G : zF) (ob : Nat) (x : Int) (N : Nat) (tx inp out : List Int) (c0 : zCo) (hs : List zCo) (hlt : l.stackTraces = false) (hG : lG cs G ob N tx inp out c0 hs) (hi_x : InR x) : zMW l D cs A yL_badness cL_badness 3 (some FieldType.int) [((0 : Nat), (5 : Nat), (6 : Nat), (27 : Nat)), ((0 : Nat), (5 : Nat), (10 : Nat), (22 : Nat))] 9 2 12 [.ref ob, .int (iI x)] G (pI (fun r G1 => lG cs G1 ob N tx inp out c0 hs ∧ r = wq [-13, -15] (sLb c0 x))) := by
  obtain ⟨⟨g, sa, so, hL, sv, er, fa, hg⟩, hK, hh8, hhs, htz, ht60, hin, hN9⟩ := id hG
  obtain ⟨cap, hso⟩ := hg.2.2.2.2.1
  have hwi := hK.2.2.2.2.2.2.2.2.1
  refine zW_of (own := RL) (by decide) rfl (Nat.le_of_ble_eq_true rfl) ?_
  intro p e s m below meth c hC hr hlk hT hNc hZ ls hl
  have hx := hC.x
  have hb := hC.b
  have hl : lv_has ls 3 [(0, .ref ob), (1, .int (iI x))] := hl
  refine lv_aload_n hx hb dL_badness_0 rfl (lv_at hl 0 rfl) ?_
  refine lv_iload_n hx hb dL_badness_1 rfl (lv_at hl 1 rfl) ?_
  refine z_fcallX hC (z_frX (rest := []) (As := [.int (iI x)]) (n := 1) (ci := 15) hC hZ (met_X12_leastBadness l D cs (zfA G s.heap) G ob g sa so hL tx inp out c0 sv hs er fa x hlt hg hi_x hwi) gv_L_79 hd_X12_leastBadness rfl hg.1 rfl hl rfl (Nat.le_of_ble_eq_true rfl) ⟨Nat.le_of_ble_eq_true rfl, Nat.le_of_ble_eq_true rfl⟩ ⟨Nat.le_of_ble_eq_true rfl, Nat.le_of_ble_eq_true rfl⟩ dL_badness_2) hZ (fun E ce q9 G1 H locs hpE hZ hfr hce hcv hcl => ?_) (fun v G1 H locs hpv hZ hfr => ?_)
  · skip
    obtain ⟨hg1, hd⟩ := hpE
    rcases hd with ⟨hc, rfl⟩ | ⟨hc, rfl⟩
    · skip
      refine vx_catch (name := "java/util/NoSuchElementException") hC.ow [] ⟨0, 5, 6, 27⟩ [⟨0, 5, 10, 22⟩] (hT.trans rfl) (fun z hz => absurd hz List.not_mem_nil) rfl (by decide) (hC.ts qk_L_27) (va_Nw.use rfl (hC.G.2.1 _ q_712)) hce hcv hcl ?_
      refine lv_astore_n (lv' := [(2, .ref q9), (0, .ref ob), (1, .int (iI x))]) hx hb dL_badness_6 rfl hl (by decide) rfl (fun ls hl => ?_)
      refine z_bipush hx hb dL_badness_7 (by decide) ?_
      exact z_iret hC hr hlk hZ (Nat.le_of_ble_eq_true rfl) (Nat.le_of_ble_eq_true rfl) ⟨⟨⟨g, sa, so, hL, sv, er, fa, hg1⟩, hG.2⟩, (wq_e (codes := [-13, -15]) (q := (sLb c0 x)) 0 hc).symm⟩ dL_badness_9
    · skip
      refine vx_catch (name := "java/lang/UnsupportedOperationException") hC.ow [⟨0, 5, 6, 27⟩] ⟨0, 5, 10, 22⟩ [] (hT.trans rfl) (fun z hz => by rw [List.mem_singleton.mp hz]; exact (Or.inr ⟨(by decide), "java/util/NoSuchElementException", hC.ts qk_L_27, hNc _ _ (by decide) (by decide) (by decide)⟩)) rfl (by decide) (hC.ts qk_L_22) (va_Nw.use rfl (hC.G.2.1 _ q_531)) hce hcv hcl ?_
      refine lv_astore_n (lv' := [(2, .ref q9), (0, .ref ob), (1, .int (iI x))]) hx hb dL_badness_10 rfl hl (by decide) rfl (fun ls hl => ?_)
      refine z_bipush hx hb dL_badness_11 (by decide) ?_
      exact z_iret hC hr hlk hZ (Nat.le_of_ble_eq_true rfl) (Nat.le_of_ble_eq_true rfl) ⟨⟨⟨g, sa, so, hL, sv, er, fa, hg1⟩, hG.2⟩, (wq_e (codes := [-13, -15]) (q := (sLb c0 x)) 1 hc).symm⟩ dL_badness_13
  · skip
    obtain ⟨r, rfl, hpr⟩ := hpv
    obtain ⟨hg1, hc, rfl⟩ := hpr
    exact z_iret hC hr hlk hZ (Nat.le_of_ble_eq_true rfl) (Nat.le_of_ble_eq_true rfl) ⟨⟨⟨g, sa, so, hL, sv, er, fa, hg1⟩, hG.2⟩, (wq_0 (codes := [-13, -15]) (q := (sLb c0 x)) hc).symm⟩ dL_badness_5

set_option maxHeartbeats 4000000 in
set_option maxRecDepth 100000 in
theorem lw_forward (l : Launch) (D : va_G) (cs : Nat → ClassId) (A : Nat → Prop) (G : zF) (ob : Nat) (x : Int) (N : Nat) (tx inp out : List Int) (c0 : zCo) (hs : List zCo) (hlt : l.stackTraces = false) (hG : lG cs G ob N tx inp out c0 hs) (hi_x : InR x) : zMW l D cs A yL_forward cL_forward 3 (some FieldType.int) [((0 : Nat), (5 : Nat), (6 : Nat), (27 : Nat)), ((0 : Nat), (5 : Nat), (10 : Nat), (22 : Nat))] 9 2 12 [.ref ob, .int (iI x)] G (pI (fun r G1 => lG cs G1 ob N tx inp out c0 hs ∧ r = wq [-13, -15] (sLb c0 x))) := by
  obtain ⟨⟨g, sa, so, hL, sv, er, fa, hg⟩, hK, hh8, hhs, htz, ht60, hin, hN9⟩ := id hG
  obtain ⟨cap, hso⟩ := hg.2.2.2.2.1
  have hwi := hK.2.2.2.2.2.2.2.2.1
  refine zW_of (own := RL) (by decide) rfl (Nat.le_of_ble_eq_true rfl) ?_
  intro p e s m below meth c hC hr hlk hT hNc hZ ls hl
  have hx := hC.x
  have hb := hC.b
  have hl : lv_has ls 3 [(0, .ref ob), (1, .int (iI x))] := hl
  refine lv_aload_n hx hb dL_forward_0 rfl (lv_at hl 0 rfl) ?_
  refine lv_iload_n hx hb dL_forward_1 rfl (lv_at hl 1 rfl) ?_
  refine z_fcallX hC (z_frX (rest := []) (As := [.int (iI x)]) (n := 1) (ci := 15) hC hZ (met_X12_leastBadnessForward l D cs (zfA G s.heap) G ob g sa so hL tx inp out c0 sv hs er fa x hlt hg hi_x hwi) gv_L_82 hd_X12_leastBadnessForward rfl hg.1 rfl hl rfl (Nat.le_of_ble_eq_true rfl) ⟨Nat.le_of_ble_eq_true rfl, Nat.le_of_ble_eq_true rfl⟩ ⟨Nat.le_of_ble_eq_true rfl, Nat.le_of_ble_eq_true rfl⟩ dL_forward_2) hZ (fun E ce q9 G1 H locs hpE hZ hfr hce hcv hcl => ?_) (fun v G1 H locs hpv hZ hfr => ?_)
  · skip
    obtain ⟨hg1, hd⟩ := hpE
    rcases hd with ⟨hc, rfl⟩ | ⟨hc, rfl⟩
    · skip
      refine vx_catch (name := "java/util/NoSuchElementException") hC.ow [] ⟨0, 5, 6, 27⟩ [⟨0, 5, 10, 22⟩] (hT.trans rfl) (fun z hz => absurd hz List.not_mem_nil) rfl (by decide) (hC.ts qk_L_27) (va_Nw.use rfl (hC.G.2.1 _ q_712)) hce hcv hcl ?_
      refine lv_astore_n (lv' := [(2, .ref q9), (0, .ref ob), (1, .int (iI x))]) hx hb dL_forward_6 rfl hl (by decide) rfl (fun ls hl => ?_)
      refine z_bipush hx hb dL_forward_7 (by decide) ?_
      exact z_iret hC hr hlk hZ (Nat.le_of_ble_eq_true rfl) (Nat.le_of_ble_eq_true rfl) ⟨⟨⟨g, sa, so, hL, sv, er, fa, hg1⟩, hG.2⟩, (wq_e (codes := [-13, -15]) (q := (sLb c0 x)) 0 hc).symm⟩ dL_forward_9
    · skip
      refine vx_catch (name := "java/lang/UnsupportedOperationException") hC.ow [⟨0, 5, 6, 27⟩] ⟨0, 5, 10, 22⟩ [] (hT.trans rfl) (fun z hz => by rw [List.mem_singleton.mp hz]; exact (Or.inr ⟨(by decide), "java/util/NoSuchElementException", hC.ts qk_L_27, hNc _ _ (by decide) (by decide) (by decide)⟩)) rfl (by decide) (hC.ts qk_L_22) (va_Nw.use rfl (hC.G.2.1 _ q_531)) hce hcv hcl ?_
      refine lv_astore_n (lv' := [(2, .ref q9), (0, .ref ob), (1, .int (iI x))]) hx hb dL_forward_10 rfl hl (by decide) rfl (fun ls hl => ?_)
      refine z_bipush hx hb dL_forward_11 (by decide) ?_
      exact z_iret hC hr hlk hZ (Nat.le_of_ble_eq_true rfl) (Nat.le_of_ble_eq_true rfl) ⟨⟨⟨g, sa, so, hL, sv, er, fa, hg1⟩, hG.2⟩, (wq_e (codes := [-13, -15]) (q := (sLb c0 x)) 1 hc).symm⟩ dL_forward_13
  · skip
    obtain ⟨r, rfl, hpr⟩ := hpv
    obtain ⟨hg1, hc, rfl⟩ := hpr
    exact z_iret hC hr hlk hZ (Nat.le_of_ble_eq_true rfl) (Nat.le_of_ble_eq_true rfl) ⟨⟨⟨g, sa, so, hL, sv, er, fa, hg1⟩, hG.2⟩, (wq_0 (codes := [-13, -15]) (q := (sLb c0 x)) hc).symm⟩ dL_forward_5

set_option maxHeartbeats 4000000 in
set_option maxRecDepth 100000 in
theorem lw_writeLine (l : Launch) (D : va_G) (cs : Nat → ClassId) (A : Nat → Prop) (G : zF) (ob : Nat) (x : Int) (z : Int) (N : Nat) (tx inp out : List Int) (c0 : zCo) (hs : List zCo) (hlt : l.stackTraces = false) (hG : lG cs G ob N tx inp out c0 hs) (hi_x : InR x) (hi_z : InR z) : zMW l D cs A yL_writeLine cL_writeLine 4 (some FieldType.int) [((0 : Nat), (6 : Nat), (7 : Nat), (27 : Nat)), ((0 : Nat), (6 : Nat), (11 : Nat), (22 : Nat)), ((0 : Nat), (6 : Nat), (15 : Nat), (33 : Nat))] 25 4 58 [.ref ob, .int (iI x), .int (iI z)] G (pI (fun r G1 => lG cs G1 ob N tx inp (if (zlq c0 x z).1 = 0 then (zlq c0 x z).2 else out) c0 hs ∧ r = wq [-13, -15, -11] ((zlq c0 x z).1, ((zlq c0 x z).2.length : Int)))) := by
  obtain ⟨⟨g, sa, so, hL, sv, er, fa, hg⟩, hK, hh8, hhs, htz, ht60, hin, hN9⟩ := id hG
  obtain ⟨cap, hso⟩ := hg.2.2.2.2.1
  have hwi := hK.2.2.2.2.2.2.2.2.1
  refine zW_of (own := RL) (by decide) rfl (Nat.le_of_ble_eq_true rfl) ?_
  intro p e s m below meth c hC hr hlk hT hNc hZ ls hl
  have hx := hC.x
  have hb := hC.b
  have hl : lv_has ls 4 [(0, .ref ob), (1, .int (iI x)), (2, .int (iI z))] := hl
  refine lv_aload_n hx hb dL_writeLine_0 rfl (lv_at hl 0 rfl) ?_
  refine lv_iload_n hx hb dL_writeLine_1 rfl (lv_at hl 1 rfl) ?_
  refine lv_iload_n hx hb dL_writeLine_2 rfl (lv_at hl 2 rfl) ?_
  refine z_fcallX hC (z_frX (rest := []) (As := [.int (iI x), .int (iI z)]) (n := 2) (ci := 15) hC hZ (met_X12_writeLine l D cs (zfA G s.heap) G ob g sa so hL tx inp out c0 sv hs er fa x z hlt hg hi_x hi_z hwi) gv_L_73 hd_X12_writeLine rfl hg.1 rfl hl rfl (Nat.le_of_ble_eq_true rfl) ⟨Nat.le_of_ble_eq_true rfl, Nat.le_of_ble_eq_true rfl⟩ ⟨Nat.le_of_ble_eq_true rfl, Nat.le_of_ble_eq_true rfl⟩ dL_writeLine_3) hZ (fun E ce q9 G1 H locs hpE hZ hfr hce hcv hcl => ?_) (fun v G1 H locs hpv hZ hfr => ?_)
  · skip
    obtain ⟨hg1, hd⟩ := hpE
    rcases hd with ⟨hc, rfl⟩ | ⟨hc, rfl⟩ | ⟨hc, rfl⟩
    · skip
      refine vx_catch (name := "java/util/NoSuchElementException") hC.ow [] ⟨0, 6, 7, 27⟩ [⟨0, 6, 11, 22⟩, ⟨0, 6, 15, 33⟩] (hT.trans rfl) (fun z hz => absurd hz List.not_mem_nil) rfl (by decide) (hC.ts qk_L_27) (va_Nw.use rfl (hC.G.2.1 _ q_712)) hce hcv hcl ?_
      refine lv_astore_n (lv' := [(3, .ref q9), (0, .ref ob), (1, .int (iI x)), (2, .int (iI z))]) hx hb dL_writeLine_7 rfl hl (by decide) rfl (fun ls hl => ?_)
      refine z_bipush hx hb dL_writeLine_8 (by decide) ?_
      exact z_iret hC hr hlk hZ (Nat.le_of_ble_eq_true rfl) (Nat.le_of_ble_eq_true rfl) ⟨by rw [if_neg (by omega)]; exact ⟨⟨g, sa, so, hL, sv, er, fa, hg1⟩, hG.2⟩, (wq_e (codes := [-13, -15, -11]) (q := ((zlq c0 x z).1, ((zlq c0 x z).2.length : Int))) 0 hc).symm⟩ dL_writeLine_10
    · skip
      refine vx_catch (name := "java/lang/UnsupportedOperationException") hC.ow [⟨0, 6, 7, 27⟩] ⟨0, 6, 11, 22⟩ [⟨0, 6, 15, 33⟩] (hT.trans rfl) (fun z hz => by rw [List.mem_singleton.mp hz]; exact (Or.inr ⟨(by decide), "java/util/NoSuchElementException", hC.ts qk_L_27, hNc _ _ (by decide) (by decide) (by decide)⟩)) rfl (by decide) (hC.ts qk_L_22) (va_Nw.use rfl (hC.G.2.1 _ q_531)) hce hcv hcl ?_
      refine lv_astore_n (lv' := [(3, .ref q9), (0, .ref ob), (1, .int (iI x)), (2, .int (iI z))]) hx hb dL_writeLine_11 rfl hl (by decide) rfl (fun ls hl => ?_)
      refine z_bipush hx hb dL_writeLine_12 (by decide) ?_
      exact z_iret hC hr hlk hZ (Nat.le_of_ble_eq_true rfl) (Nat.le_of_ble_eq_true rfl) ⟨by rw [if_neg (by omega)]; exact ⟨⟨g, sa, so, hL, sv, er, fa, hg1⟩, hG.2⟩, (wq_e (codes := [-13, -15, -11]) (q := ((zlq c0 x z).1, ((zlq c0 x z).2.length : Int))) 1 hc).symm⟩ dL_writeLine_14
    · skip
      refine vx_catch (name := "java/lang/IndexOutOfBoundsException") hC.ow [⟨0, 6, 7, 27⟩, ⟨0, 6, 11, 22⟩] ⟨0, 6, 15, 33⟩ [] (hT.trans rfl) (fun z hz => by
            rcases List.mem_cons.mp hz with rfl | hz
            · exact (Or.inr ⟨(by decide), "java/util/NoSuchElementException", hC.ts qk_L_27, hNc _ _ (by decide) (by decide) (by decide)⟩)
            · rw [List.mem_singleton.mp hz]; exact (Or.inr ⟨(by decide), "java/lang/UnsupportedOperationException", hC.ts qk_L_22, hNc _ _ (by decide) (by decide) (by decide)⟩)) rfl (by decide) (hC.ts qk_L_33) (va_Nw.use rfl (hC.G.2.1 _ q_771)) hce hcv hcl ?_
      refine lv_astore_n (lv' := [(3, .ref q9), (0, .ref ob), (1, .int (iI x)), (2, .int (iI z))]) hx hb dL_writeLine_15 rfl hl (by decide) rfl (fun ls hl => ?_)
      refine z_bipush hx hb dL_writeLine_16 (by decide) ?_
      exact z_iret hC hr hlk hZ (Nat.le_of_ble_eq_true rfl) (Nat.le_of_ble_eq_true rfl) ⟨by rw [if_neg (by omega)]; exact ⟨⟨g, sa, so, hL, sv, er, fa, hg1⟩, hG.2⟩, (wq_e (codes := [-13, -15, -11]) (q := ((zlq c0 x z).1, ((zlq c0 x z).2.length : Int))) 2 hc).symm⟩ dL_writeLine_18
  · skip
    obtain ⟨r, rfl, hpr⟩ := hpv
    obtain ⟨hc, rfl, g1, hg1⟩ := hpr
    exact z_iret hC hr hlk hZ (Nat.le_of_ble_eq_true rfl) (Nat.le_of_ble_eq_true rfl) ⟨by rw [if_pos hc]; exact ⟨⟨g1, sa, so, hL, sv, er, fa, hg1⟩, hG.2⟩, (wq_0 (codes := [-13, -15, -11]) (q := ((zlq c0 x z).1, ((zlq c0 x z).2.length : Int))) hc).symm⟩ dL_writeLine_6

set_option maxHeartbeats 4000000 in
set_option maxRecDepth 100000 in
theorem lw_writeArticle (l : Launch) (D : va_G) (cs : Nat → ClassId) (A : Nat → Prop) (G : zF) (ob : Nat) (x : Int) (N : Nat) (tx inp out : List Int) (c0 : zCo) (hs : List zCo) (hlt : l.stackTraces = false) (hG : lG cs G ob N tx inp out c0 hs) (hi_x : InR x) : zMW l D cs A yL_writeArticle cL_writeArticle 3 (some FieldType.int) [((0 : Nat), (5 : Nat), (6 : Nat), (27 : Nat))] 25 51 1606 [.ref ob, .int (iI x)] G (pI (fun r G1 => lG cs G1 ob N tx inp (if (sWr c0 x).1 = 0 then (sWr c0 x).2 else out) c0 hs ∧ r = wq [-13] ((sWr c0 x).1, ((sWr c0 x).2.length : Int)))) := by
  obtain ⟨⟨g, sa, so, hL, sv, er, fa, hg⟩, hK, hh8, hhs, htz, ht60, hin, hN9⟩ := id hG
  obtain ⟨cap, hso⟩ := hg.2.2.2.2.1
  have hwi := hK.2.2.2.2.2.2.2.2.1
  refine zW_of (own := RL) (by decide) rfl (Nat.le_of_ble_eq_true rfl) ?_
  intro p e s m below meth c hC hr hlk hT hNc hZ ls hl
  have hx := hC.x
  have hb := hC.b
  have hl : lv_has ls 3 [(0, .ref ob), (1, .int (iI x))] := hl
  refine lv_aload_n hx hb dL_writeArticle_0 rfl (lv_at hl 0 rfl) ?_
  refine lv_iload_n hx hb dL_writeArticle_1 rfl (lv_at hl 1 rfl) ?_
  refine z_fcallX hC (z_frX (rest := []) (As := [.int (iI x)]) (n := 1) (ci := 15) hC hZ (met_X12_writeArticle l D cs (zfA G s.heap) G ob g sa so hL tx inp out c0 sv hs er fa x N hlt hg hi_x hK (by omega)) gv_L_116 hd_X12_writeArticle rfl hg.1 rfl hl rfl (Nat.le_of_ble_eq_true rfl) ⟨Nat.le_of_ble_eq_true rfl, Nat.le_of_ble_eq_true rfl⟩ ⟨Nat.le_of_ble_eq_true rfl, Nat.le_of_ble_eq_true rfl⟩ dL_writeArticle_2) hZ (fun E ce q9 G1 H locs hpE hZ hfr hce hcv hcl => ?_) (fun v G1 H locs hpv hZ hfr => ?_)
  · skip
    obtain ⟨hg1, hd⟩ := hpE
    obtain ⟨hc, rfl⟩ := hd
    refine vx_catch (name := "java/util/NoSuchElementException") hC.ow [] ⟨0, 5, 6, 27⟩ [] (hT.trans rfl) (fun z hz => absurd hz List.not_mem_nil) rfl (by decide) (hC.ts qk_L_27) (va_Nw.use rfl (hC.G.2.1 _ q_712)) hce hcv hcl ?_
    refine lv_astore_n (lv' := [(2, .ref q9), (0, .ref ob), (1, .int (iI x))]) hx hb dL_writeArticle_6 rfl hl (by decide) rfl (fun ls hl => ?_)
    refine z_bipush hx hb dL_writeArticle_7 (by decide) ?_
    exact z_iret hC hr hlk hZ (Nat.le_of_ble_eq_true rfl) (Nat.le_of_ble_eq_true rfl) ⟨by rw [if_neg (by omega)]; exact ⟨⟨g, sa, so, hL, sv, er, fa, hg1⟩, hG.2⟩, (wq_e (codes := [-13]) (q := ((sWr c0 x).1, ((sWr c0 x).2.length : Int))) 0 hc).symm⟩ dL_writeArticle_9
  · skip
    obtain ⟨r, rfl, hpr⟩ := hpv
    obtain ⟨hc, rfl, g1, hg1⟩ := hpr
    exact z_iret hC hr hlk hZ (Nat.le_of_ble_eq_true rfl) (Nat.le_of_ble_eq_true rfl) ⟨by rw [if_pos hc]; exact ⟨⟨g1, sa, so, hL, sv, er, fa, hg1⟩, hG.2⟩, (wq_0 (codes := [-13]) (q := ((sWr c0 x).1, ((sWr c0 x).2.length : Int))) hc).symm⟩ dL_writeArticle_5

theorem sAdd_c {c : zCo} {x : Int} {tx : List Int} (h : (sAdd c x tx).1 ≠ 0) : (sAdd c x tx).2.1 = c := by
  unfold sAdd at h ⊢
  split
  · rename_i h1; rw [if_pos h1] at h
    split
    · rfl
    · rename_i h2; rw [if_neg h2] at h
      split
      · rename_i h3; rw [if_pos h3] at h; exact absurd rfl h
      · rfl
  · rfl
theorem sRem_c {c : zCo} {x : Int} (h : (sRem c x).1 ≠ 0) : (sRem c x).2.1 = c := by
  unfold sRem at h ⊢
  cases h1 : zix (cAr c) x with
  | none => rfl
  | some i => rw [h1] at h; exact absurd rfl h
theorem sWid_c {c : zCo} {x : Int} (h : (sWid c x).1 ≠ 0) : (sWid c x).2.1 = c := by
  unfold sWid at h ⊢
  split
  · rename_i h1; rw [if_pos h1] at h; exact absurd rfl h
  · rfl
theorem sPag_c {c : zCo} {x y : Int} (h : (sPag c x y).1 ≠ 0) : (sPag c x y).2.1 = c := by
  unfold sPag at h ⊢
  split
  · rename_i h1; rw [if_pos h1] at h; exact absurd rfl h
  · rfl
theorem sDay_c {c : zCo} {x : Int} (h : (sDay c x).1 ≠ 0) : (sDay c x).2.1 = c := by
  unfold sDay at h ⊢
  split
  · rename_i h1; rw [if_pos h1] at h; exact absurd rfl h
  · rfl
theorem sPrt_c {c : zCo} (h : (sPrt c).1 ≠ 0) : (sPrt c).2.1 = c := by
  unfold sPrt at h ⊢
  split
  · rfl
  · rename_i h1; rw [if_neg h1] at h; exact absurd rfl h
theorem sCor_c0 {c : zCo} {x b : Int} {tx : List Int} (h : (sCor c x b tx).1 ≠ 0) : (sCor c x b tx).2.1 = c := by
  unfold sCor at h ⊢
  cases h1 : zix (cAr c) x with
  | none => rfl
  | some i =>
    rw [h1] at h
    dsimp only at h ⊢
    cases h2 : (cAr c)[i]? with
    | none => rfl
    | some a =>
      rw [h2] at h
      dsimp only at h ⊢
      repeat' split
      all_goals first | rfl | (exfalso; revert h; simp_all)
set_option maxHeartbeats 4000000 in
set_option maxRecDepth 100000 in
theorem lw_addArticle (l : Launch) (D : va_G) (cs : Nat → ClassId) (A : Nat → Prop) (G : zF) (ob : Nat) (x : Int) (N : Nat) (tx inp out : List Int) (c0 : zCo) (hs : List zCo) (hlt : l.stackTraces = false) (hG : lG cs G ob N tx inp out c0 hs) (hi_x : InR x) (hN8 : N ≤ 898) : zMW l D cs A yL_addArticle cL_addArticle 3 (some FieldType.int) [((0 : Nat), (5 : Nat), (6 : Nat), (14 : Nat)), ((0 : Nat), (5 : Nat), (9 : Nat), (16 : Nat)), ((0 : Nat), (5 : Nat), (13 : Nat), (22 : Nat))] 10 108 990 [.ref ob, .int (iI x)] G (pI (fun r G1 => lG cs G1 ob (N + 1) (if (sAdd c0 x tx).1 = 0 then [] else tx) inp out (sAdd c0 x tx).2.1 (if (sAdd c0 x tx).1 = 0 then pushH hs c0 else hs) ∧ r = wq [-1, -2, -3] ((sAdd c0 x tx).1, (sAdd c0 x tx).2.2))) := by
  obtain ⟨⟨g, sa, so, hL, sv, er, fa, hg⟩, hK, hh8, hhs, htz, ht60, hin, hN9⟩ := id hG
  obtain ⟨cap, hso⟩ := hg.2.2.2.2.1
  have hwi := hK.2.2.2.2.2.2.2.2.1
  refine zW_of (own := RL) (by decide) rfl (Nat.le_of_ble_eq_true rfl) ?_
  intro p e s m below meth c hC hr hlk hT hNc hZ ls hl
  have hx := hC.x
  have hb := hC.b
  have hl : lv_has ls 3 [(0, .ref ob), (1, .int (iI x))] := hl
  refine lv_aload_n hx hb dL_addArticle_0 rfl (lv_at hl 0 rfl) ?_
  refine lv_iload_n hx hb dL_addArticle_1 rfl (lv_at hl 1 rfl) ?_
  refine z_fcallX hC (z_frX (rest := []) (As := [.int (iI x)]) (n := 1) (ci := 15) hC hZ (met_X12_addArticle l D cs (zfA G s.heap) G ob g sa so hL tx inp out c0 sv hs er fa x N hlt hg hi_x htz hK (by omega) hh8) gv_L_18 hd_X12_addArticle rfl hg.1 rfl hl rfl (Nat.le_of_ble_eq_true rfl) ⟨Nat.le_of_ble_eq_true rfl, Nat.le_of_ble_eq_true rfl⟩ ⟨Nat.le_of_ble_eq_true rfl, Nat.le_of_ble_eq_true rfl⟩ dL_addArticle_2) hZ (fun E ce q9 G1 H locs hpE hZ hfr hce hcv hcl => ?_) (fun v G1 H locs hpv hZ hfr => ?_)
  · skip
    obtain ⟨hg1, hd⟩ := hpE
    rcases hd with ⟨hc, rfl⟩ | ⟨hc, rfl⟩ | ⟨hc, rfl⟩
    · skip
      refine vx_catch (name := "java/lang/IllegalArgumentException") hC.ow [] ⟨0, 5, 6, 14⟩ [⟨0, 5, 9, 16⟩, ⟨0, 5, 13, 22⟩] (hT.trans rfl) (fun z hz => absurd hz List.not_mem_nil) rfl (by decide) (hC.ts qk_L_14) (va_Nw.use rfl (hC.G.2.1 _ q_421)) hce hcv hcl ?_
      refine lv_astore_n (lv' := [(2, .ref q9), (0, .ref ob), (1, .int (iI x))]) hx hb dL_addArticle_6 rfl hl (by decide) rfl (fun ls hl => ?_)
      refine z_iconst hx hb dL_addArticle_7 ?_
      exact z_iret hC hr hlk hZ (Nat.le_of_ble_eq_true rfl) (Nat.le_of_ble_eq_true rfl) ⟨by rw [if_neg (by omega), if_neg (by omega), show (sAdd c0 x tx).2.1 = c0 from sAdd_c (by omega)]; exact lG.up ⟨⟨g, sa, so, hL, sv, er, fa, hg1⟩, hG.2⟩ (by omega), (wq_e (codes := [-1, -2, -3]) (q := ((sAdd c0 x tx).1, (sAdd c0 x tx).2.2)) 0 hc).symm⟩ dL_addArticle_8
    · skip
      refine vx_catch (name := "java/lang/IllegalStateException") hC.ow [⟨0, 5, 6, 14⟩] ⟨0, 5, 9, 16⟩ [⟨0, 5, 13, 22⟩] (hT.trans rfl) (fun z hz => by rw [List.mem_singleton.mp hz]; exact (Or.inr ⟨(by decide), "java/lang/IllegalArgumentException", hC.ts qk_L_14, hNc _ _ (by decide) (by decide) (by decide)⟩)) rfl (by decide) (hC.ts qk_L_16) (va_Nw.use rfl (hC.G.2.1 _ q_497)) hce hcv hcl ?_
      refine lv_astore_n (lv' := [(2, .ref q9), (0, .ref ob), (1, .int (iI x))]) hx hb dL_addArticle_9 rfl hl (by decide) rfl (fun ls hl => ?_)
      refine z_bipush hx hb dL_addArticle_10 (by decide) ?_
      exact z_iret hC hr hlk hZ (Nat.le_of_ble_eq_true rfl) (Nat.le_of_ble_eq_true rfl) ⟨by rw [if_neg (by omega), if_neg (by omega), show (sAdd c0 x tx).2.1 = c0 from sAdd_c (by omega)]; exact lG.up ⟨⟨g, sa, so, hL, sv, er, fa, hg1⟩, hG.2⟩ (by omega), (wq_e (codes := [-1, -2, -3]) (q := ((sAdd c0 x tx).1, (sAdd c0 x tx).2.2)) 1 hc).symm⟩ dL_addArticle_12
    · skip
      refine vx_catch (name := "java/lang/UnsupportedOperationException") hC.ow [⟨0, 5, 6, 14⟩, ⟨0, 5, 9, 16⟩] ⟨0, 5, 13, 22⟩ [] (hT.trans rfl) (fun z hz => by
            rcases List.mem_cons.mp hz with rfl | hz
            · exact (Or.inr ⟨(by decide), "java/lang/IllegalArgumentException", hC.ts qk_L_14, hNc _ _ (by decide) (by decide) (by decide)⟩)
            · rw [List.mem_singleton.mp hz]; exact (Or.inr ⟨(by decide), "java/lang/IllegalStateException", hC.ts qk_L_16, hNc _ _ (by decide) (by decide) (by decide)⟩)) rfl (by decide) (hC.ts qk_L_22) (va_Nw.use rfl (hC.G.2.1 _ q_531)) hce hcv hcl ?_
      refine lv_astore_n (lv' := [(2, .ref q9), (0, .ref ob), (1, .int (iI x))]) hx hb dL_addArticle_13 rfl hl (by decide) rfl (fun ls hl => ?_)
      refine z_bipush hx hb dL_addArticle_14 (by decide) ?_
      exact z_iret hC hr hlk hZ (Nat.le_of_ble_eq_true rfl) (Nat.le_of_ble_eq_true rfl) ⟨by rw [if_neg (by omega), if_neg (by omega), show (sAdd c0 x tx).2.1 = c0 from sAdd_c (by omega)]; exact lG.up ⟨⟨g, sa, so, hL, sv, er, fa, hg1⟩, hG.2⟩ (by omega), (wq_e (codes := [-1, -2, -3]) (q := ((sAdd c0 x tx).1, (sAdd c0 x tx).2.2)) 2 hc).symm⟩ dL_addArticle_16
  · skip
    obtain ⟨r, rfl, hpr⟩ := hpv
    obtain ⟨hc, rfl, g1, sa1, hL1, hg1⟩ := hpr
    exact z_iret hC hr hlk hZ (Nat.le_of_ble_eq_true rfl) (Nat.le_of_ble_eq_true rfl) ⟨by rw [if_pos hc, if_pos hc]; exact lG.ch hK hh8 hhs ⟨fun _ h => absurd h List.not_mem_nil, Nat.zero_le _⟩ hin (by omega) (sAdd_K hK ht60 htz hc) hg1, (wq_0 (codes := [-1, -2, -3]) (q := ((sAdd c0 x tx).1, (sAdd c0 x tx).2.2)) hc).symm⟩ dL_addArticle_5

set_option maxHeartbeats 4000000 in
set_option maxRecDepth 100000 in
theorem lw_remove (l : Launch) (D : va_G) (cs : Nat → ClassId) (A : Nat → Prop) (G : zF) (ob : Nat) (x : Int) (N : Nat) (tx inp out : List Int) (c0 : zCo) (hs : List zCo) (hlt : l.stackTraces = false) (hG : lG cs G ob N tx inp out c0 hs) (hi_x : InR x) (hN8 : N ≤ 898) : zMW l D cs A yL_remove cL_remove 3 (some FieldType.int) [((0 : Nat), (5 : Nat), (6 : Nat), (27 : Nat))] 10 14 131 [.ref ob, .int (iI x)] G (pI (fun r G1 => lG cs G1 ob (N + 1) (if (sRem c0 x).1 = 0 then tx else tx) inp out (sRem c0 x).2.1 (if (sRem c0 x).1 = 0 then pushH hs c0 else hs) ∧ r = wq [-1] ((sRem c0 x).1, (sRem c0 x).2.2))) := by
  obtain ⟨⟨g, sa, so, hL, sv, er, fa, hg⟩, hK, hh8, hhs, htz, ht60, hin, hN9⟩ := id hG
  obtain ⟨cap, hso⟩ := hg.2.2.2.2.1
  have hwi := hK.2.2.2.2.2.2.2.2.1
  refine zW_of (own := RL) (by decide) rfl (Nat.le_of_ble_eq_true rfl) ?_
  intro p e s m below meth c hC hr hlk hT hNc hZ ls hl
  have hx := hC.x
  have hb := hC.b
  have hl : lv_has ls 3 [(0, .ref ob), (1, .int (iI x))] := hl
  refine lv_aload_n hx hb dL_remove_0 rfl (lv_at hl 0 rfl) ?_
  refine lv_iload_n hx hb dL_remove_1 rfl (lv_at hl 1 rfl) ?_
  refine z_fcallX hC (z_frX (rest := []) (As := [.int (iI x)]) (n := 1) (ci := 15) hC hZ (met_X12_removeArticle l D cs (zfA G s.heap) G ob g sa so hL tx inp out c0 sv hs er fa x N hlt hg hi_x hK (by omega) hh8) gv_L_24 hd_X12_removeArticle rfl hg.1 rfl hl rfl (Nat.le_of_ble_eq_true rfl) ⟨Nat.le_of_ble_eq_true rfl, Nat.le_of_ble_eq_true rfl⟩ ⟨Nat.le_of_ble_eq_true rfl, Nat.le_of_ble_eq_true rfl⟩ dL_remove_2) hZ (fun E ce q9 G1 H locs hpE hZ hfr hce hcv hcl => ?_) (fun v G1 H locs hpv hZ hfr => ?_)
  · skip
    obtain ⟨hg1, hd⟩ := hpE
    obtain ⟨hc, rfl⟩ := hd
    refine vx_catch (name := "java/util/NoSuchElementException") hC.ow [] ⟨0, 5, 6, 27⟩ [] (hT.trans rfl) (fun z hz => absurd hz List.not_mem_nil) rfl (by decide) (hC.ts qk_L_27) (va_Nw.use rfl (hC.G.2.1 _ q_712)) hce hcv hcl ?_
    refine lv_astore_n (lv' := [(2, .ref q9), (0, .ref ob), (1, .int (iI x))]) hx hb dL_remove_6 rfl hl (by decide) rfl (fun ls hl => ?_)
    refine z_iconst hx hb dL_remove_7 ?_
    exact z_iret hC hr hlk hZ (Nat.le_of_ble_eq_true rfl) (Nat.le_of_ble_eq_true rfl) ⟨by rw [if_neg (by omega), if_neg (by omega), show (sRem c0 x).2.1 = c0 from sRem_c (by omega)]; exact lG.up ⟨⟨g, sa, so, hL, sv, er, fa, hg1⟩, hG.2⟩ (by omega), (wq_e (codes := [-1]) (q := ((sRem c0 x).1, (sRem c0 x).2.2)) 0 hc).symm⟩ dL_remove_8
  · skip
    obtain ⟨r, rfl, hpr⟩ := hpv
    obtain ⟨hc, rfl, g1, sa1, hL1, hg1⟩ := hpr
    exact z_iret hC hr hlk hZ (Nat.le_of_ble_eq_true rfl) (Nat.le_of_ble_eq_true rfl) ⟨by rw [if_pos hc, if_pos hc]; exact lG.ch hK hh8 hhs ⟨htz, ht60⟩ hin (by omega) (sRem_K hK hc) hg1, (wq_0 (codes := [-1]) (q := ((sRem c0 x).1, (sRem c0 x).2.2)) hc).symm⟩ dL_remove_5

set_option maxHeartbeats 4000000 in
set_option maxRecDepth 100000 in
theorem lw_correct (l : Launch) (D : va_G) (cs : Nat → ClassId) (A : Nat → Prop) (G : zF) (ob : Nat) (x : Int) (z : Int) (N : Nat) (tx inp out : List Int) (c0 : zCo) (hs : List zCo) (hlt : l.stackTraces = false) (hG : lG cs G ob N tx inp out c0 hs) (hi_x : InR x) (hi_z : InR z) (hN8 : N ≤ 898) : zMW l D cs A yL_correct cL_correct 4 (some FieldType.int) [((0 : Nat), (6 : Nat), (7 : Nat), (27 : Nat)), ((0 : Nat), (6 : Nat), (10 : Nat), (33 : Nat)), ((0 : Nat), (6 : Nat), (14 : Nat), (22 : Nat))] 10 24 210 [.ref ob, .int (iI x), .int (iI z)] G (pI (fun r G1 => lG cs G1 ob (N + 1) (if (sCor c0 x z tx).1 = 0 then [] else tx) inp out (sCor c0 x z tx).2.1 (if (sCor c0 x z tx).1 = 0 then pushH hs c0 else hs) ∧ r = wq [-1, -2, -3] ((sCor c0 x z tx).1, (sCor c0 x z tx).2.2))) := by
  obtain ⟨⟨g, sa, so, hL, sv, er, fa, hg⟩, hK, hh8, hhs, htz, ht60, hin, hN9⟩ := id hG
  obtain ⟨cap, hso⟩ := hg.2.2.2.2.1
  have hwi := hK.2.2.2.2.2.2.2.2.1
  refine zW_of (own := RL) (by decide) rfl (Nat.le_of_ble_eq_true rfl) ?_
  intro p e s m below meth c hC hr hlk hT hNc hZ ls hl
  have hx := hC.x
  have hb := hC.b
  have hl : lv_has ls 4 [(0, .ref ob), (1, .int (iI x)), (2, .int (iI z))] := hl
  refine lv_aload_n hx hb dL_correct_0 rfl (lv_at hl 0 rfl) ?_
  refine lv_iload_n hx hb dL_correct_1 rfl (lv_at hl 1 rfl) ?_
  refine lv_iload_n hx hb dL_correct_2 rfl (lv_at hl 2 rfl) ?_
  refine z_fcallX hC (z_frX (rest := []) (As := [.int (iI x), .int (iI z)]) (n := 2) (ci := 15) hC hZ (met_X12_correct l D cs (zfA G s.heap) G ob g sa so hL tx inp out c0 sv hs er fa x z N hlt hg hi_x hi_z htz hK (by omega) hh8) gv_L_29 hd_X12_correct rfl hg.1 rfl hl rfl (Nat.le_of_ble_eq_true rfl) ⟨Nat.le_of_ble_eq_true rfl, Nat.le_of_ble_eq_true rfl⟩ ⟨Nat.le_of_ble_eq_true rfl, Nat.le_of_ble_eq_true rfl⟩ dL_correct_3) hZ (fun E ce q9 G1 H locs hpE hZ hfr hce hcv hcl => ?_) (fun v G1 H locs hpv hZ hfr => ?_)
  · skip
    obtain ⟨hg1, hd⟩ := hpE
    rcases hd with ⟨hc, rfl⟩ | ⟨hc, rfl⟩ | ⟨hc, rfl⟩
    · skip
      refine vx_catch (name := "java/util/NoSuchElementException") hC.ow [] ⟨0, 6, 7, 27⟩ [⟨0, 6, 10, 33⟩, ⟨0, 6, 14, 22⟩] (hT.trans rfl) (fun z hz => absurd hz List.not_mem_nil) rfl (by decide) (hC.ts qk_L_27) (va_Nw.use rfl (hC.G.2.1 _ q_712)) hce hcv hcl ?_
      refine lv_astore_n (lv' := [(3, .ref q9), (0, .ref ob), (1, .int (iI x)), (2, .int (iI z))]) hx hb dL_correct_7 rfl hl (by decide) rfl (fun ls hl => ?_)
      refine z_iconst hx hb dL_correct_8 ?_
      exact z_iret hC hr hlk hZ (Nat.le_of_ble_eq_true rfl) (Nat.le_of_ble_eq_true rfl) ⟨by rw [if_neg (by omega), if_neg (by omega), show (sCor c0 x z tx).2.1 = c0 from sCor_c0 (by omega)]; exact lG.up ⟨⟨g, sa, so, hL, sv, er, fa, hg1⟩, hG.2⟩ (by omega), (wq_e (codes := [-1, -2, -3]) (q := ((sCor c0 x z tx).1, (sCor c0 x z tx).2.2)) 0 hc).symm⟩ dL_correct_9
    · skip
      refine vx_catch (name := "java/lang/IndexOutOfBoundsException") hC.ow [⟨0, 6, 7, 27⟩] ⟨0, 6, 10, 33⟩ [⟨0, 6, 14, 22⟩] (hT.trans rfl) (fun z hz => by rw [List.mem_singleton.mp hz]; exact (Or.inr ⟨(by decide), "java/util/NoSuchElementException", hC.ts qk_L_27, hNc _ _ (by decide) (by decide) (by decide)⟩)) rfl (by decide) (hC.ts qk_L_33) (va_Nw.use rfl (hC.G.2.1 _ q_771)) hce hcv hcl ?_
      refine lv_astore_n (lv' := [(3, .ref q9), (0, .ref ob), (1, .int (iI x)), (2, .int (iI z))]) hx hb dL_correct_10 rfl hl (by decide) rfl (fun ls hl => ?_)
      refine z_bipush hx hb dL_correct_11 (by decide) ?_
      exact z_iret hC hr hlk hZ (Nat.le_of_ble_eq_true rfl) (Nat.le_of_ble_eq_true rfl) ⟨by rw [if_neg (by omega), if_neg (by omega), show (sCor c0 x z tx).2.1 = c0 from sCor_c0 (by omega)]; exact lG.up ⟨⟨g, sa, so, hL, sv, er, fa, hg1⟩, hG.2⟩ (by omega), (wq_e (codes := [-1, -2, -3]) (q := ((sCor c0 x z tx).1, (sCor c0 x z tx).2.2)) 1 hc).symm⟩ dL_correct_13
    · skip
      refine vx_catch (name := "java/lang/UnsupportedOperationException") hC.ow [⟨0, 6, 7, 27⟩, ⟨0, 6, 10, 33⟩] ⟨0, 6, 14, 22⟩ [] (hT.trans rfl) (fun z hz => by
            rcases List.mem_cons.mp hz with rfl | hz
            · exact (Or.inr ⟨(by decide), "java/util/NoSuchElementException", hC.ts qk_L_27, hNc _ _ (by decide) (by decide) (by decide)⟩)
            · rw [List.mem_singleton.mp hz]; exact (Or.inr ⟨(by decide), "java/lang/IndexOutOfBoundsException", hC.ts qk_L_33, hNc _ _ (by decide) (by decide) (by decide)⟩)) rfl (by decide) (hC.ts qk_L_22) (va_Nw.use rfl (hC.G.2.1 _ q_531)) hce hcv hcl ?_
      refine lv_astore_n (lv' := [(3, .ref q9), (0, .ref ob), (1, .int (iI x)), (2, .int (iI z))]) hx hb dL_correct_14 rfl hl (by decide) rfl (fun ls hl => ?_)
      refine z_bipush hx hb dL_correct_15 (by decide) ?_
      exact z_iret hC hr hlk hZ (Nat.le_of_ble_eq_true rfl) (Nat.le_of_ble_eq_true rfl) ⟨by rw [if_neg (by omega), if_neg (by omega), show (sCor c0 x z tx).2.1 = c0 from sCor_c0 (by omega)]; exact lG.up ⟨⟨g, sa, so, hL, sv, er, fa, hg1⟩, hG.2⟩ (by omega), (wq_e (codes := [-1, -2, -3]) (q := ((sCor c0 x z tx).1, (sCor c0 x z tx).2.2)) 2 hc).symm⟩ dL_correct_17
  · skip
    obtain ⟨r, rfl, hpr⟩ := hpv
    obtain ⟨hc, rfl, g1, sa1, hL1, hg1⟩ := hpr
    exact z_iret hC hr hlk hZ (Nat.le_of_ble_eq_true rfl) (Nat.le_of_ble_eq_true rfl) ⟨by rw [if_pos hc, if_pos hc]; exact lG.ch hK hh8 hhs ⟨fun _ h => absurd h List.not_mem_nil, Nat.zero_le _⟩ hin (by omega) (sCor_K hK ht60 htz hc) hg1, (wq_0 (codes := [-1, -2, -3]) (q := ((sCor c0 x z tx).1, (sCor c0 x z tx).2.2)) hc).symm⟩ dL_correct_6

set_option maxHeartbeats 4000000 in
set_option maxRecDepth 100000 in
theorem lw_setWidth (l : Launch) (D : va_G) (cs : Nat → ClassId) (A : Nat → Prop) (G : zF) (ob : Nat) (x : Int) (N : Nat) (tx inp out : List Int) (c0 : zCo) (hs : List zCo) (hlt : l.stackTraces = false) (hG : lG cs G ob N tx inp out c0 hs) (hi_x : InR x) (hN8 : N ≤ 898) : zMW l D cs A yL_setWidth cL_setWidth 3 (some FieldType.int) [((0 : Nat), (5 : Nat), (6 : Nat), (14 : Nat))] 10 14 131 [.ref ob, .int (iI x)] G (pI (fun r G1 => lG cs G1 ob (N + 1) (if (sWid c0 x).1 = 0 then tx else tx) inp out (sWid c0 x).2.1 (if (sWid c0 x).1 = 0 then pushH hs c0 else hs) ∧ r = wq [-1] ((sWid c0 x).1, (sWid c0 x).2.2))) := by
  obtain ⟨⟨g, sa, so, hL, sv, er, fa, hg⟩, hK, hh8, hhs, htz, ht60, hin, hN9⟩ := id hG
  obtain ⟨cap, hso⟩ := hg.2.2.2.2.1
  have hwi := hK.2.2.2.2.2.2.2.2.1
  refine zW_of (own := RL) (by decide) rfl (Nat.le_of_ble_eq_true rfl) ?_
  intro p e s m below meth c hC hr hlk hT hNc hZ ls hl
  have hx := hC.x
  have hb := hC.b
  have hl : lv_has ls 3 [(0, .ref ob), (1, .int (iI x))] := hl
  refine lv_aload_n hx hb dL_setWidth_0 rfl (lv_at hl 0 rfl) ?_
  refine lv_iload_n hx hb dL_setWidth_1 rfl (lv_at hl 1 rfl) ?_
  refine z_fcallX hC (z_frX (rest := []) (As := [.int (iI x)]) (n := 1) (ci := 15) hC hZ (met_X12_setWidth l D cs (zfA G s.heap) G ob g sa so hL tx inp out c0 sv hs er fa x N hlt hg hi_x hK (by omega) hh8) gv_L_57 hd_X12_setWidth rfl hg.1 rfl hl rfl (Nat.le_of_ble_eq_true rfl) ⟨Nat.le_of_ble_eq_true rfl, Nat.le_of_ble_eq_true rfl⟩ ⟨Nat.le_of_ble_eq_true rfl, Nat.le_of_ble_eq_true rfl⟩ dL_setWidth_2) hZ (fun E ce q9 G1 H locs hpE hZ hfr hce hcv hcl => ?_) (fun v G1 H locs hpv hZ hfr => ?_)
  · skip
    obtain ⟨hg1, hd⟩ := hpE
    obtain ⟨hc, rfl⟩ := hd
    refine vx_catch (name := "java/lang/IllegalArgumentException") hC.ow [] ⟨0, 5, 6, 14⟩ [] (hT.trans rfl) (fun z hz => absurd hz List.not_mem_nil) rfl (by decide) (hC.ts qk_L_14) (va_Nw.use rfl (hC.G.2.1 _ q_421)) hce hcv hcl ?_
    refine lv_astore_n (lv' := [(2, .ref q9), (0, .ref ob), (1, .int (iI x))]) hx hb dL_setWidth_6 rfl hl (by decide) rfl (fun ls hl => ?_)
    refine z_iconst hx hb dL_setWidth_7 ?_
    exact z_iret hC hr hlk hZ (Nat.le_of_ble_eq_true rfl) (Nat.le_of_ble_eq_true rfl) ⟨by rw [if_neg (by omega), if_neg (by omega), show (sWid c0 x).2.1 = c0 from sWid_c (by omega)]; exact lG.up ⟨⟨g, sa, so, hL, sv, er, fa, hg1⟩, hG.2⟩ (by omega), (wq_e (codes := [-1]) (q := ((sWid c0 x).1, (sWid c0 x).2.2)) 0 hc).symm⟩ dL_setWidth_8
  · skip
    obtain ⟨r, rfl, hpr⟩ := hpv
    obtain ⟨hc, rfl, g1, sa1, hL1, hg1⟩ := hpr
    exact z_iret hC hr hlk hZ (Nat.le_of_ble_eq_true rfl) (Nat.le_of_ble_eq_true rfl) ⟨by rw [if_pos hc, if_pos hc]; exact lG.ch hK hh8 hhs ⟨htz, ht60⟩ hin (by omega) (sWid_K hK hc) hg1, (wq_0 (codes := [-1]) (q := ((sWid c0 x).1, (sWid c0 x).2.2)) hc).symm⟩ dL_setWidth_5

set_option maxHeartbeats 4000000 in
set_option maxRecDepth 100000 in
theorem lw_setPage (l : Launch) (D : va_G) (cs : Nat → ClassId) (A : Nat → Prop) (G : zF) (ob : Nat) (x : Int) (y : Int) (N : Nat) (tx inp out : List Int) (c0 : zCo) (hs : List zCo) (hlt : l.stackTraces = false) (hG : lG cs G ob N tx inp out c0 hs) (hi_x : InR x) (hi_y : InR y) (hN8 : N ≤ 898) : zMW l D cs A yL_setPage cL_setPage 4 (some FieldType.int) [((0 : Nat), (6 : Nat), (7 : Nat), (14 : Nat))] 10 14 131 [.ref ob, .int (iI x), .int (iI y)] G (pI (fun r G1 => lG cs G1 ob (N + 1) (if (sPag c0 x y).1 = 0 then tx else tx) inp out (sPag c0 x y).2.1 (if (sPag c0 x y).1 = 0 then pushH hs c0 else hs) ∧ r = wq [-1] ((sPag c0 x y).1, (sPag c0 x y).2.2))) := by
  obtain ⟨⟨g, sa, so, hL, sv, er, fa, hg⟩, hK, hh8, hhs, htz, ht60, hin, hN9⟩ := id hG
  obtain ⟨cap, hso⟩ := hg.2.2.2.2.1
  have hwi := hK.2.2.2.2.2.2.2.2.1
  refine zW_of (own := RL) (by decide) rfl (Nat.le_of_ble_eq_true rfl) ?_
  intro p e s m below meth c hC hr hlk hT hNc hZ ls hl
  have hx := hC.x
  have hb := hC.b
  have hl : lv_has ls 4 [(0, .ref ob), (1, .int (iI x)), (2, .int (iI y))] := hl
  refine lv_aload_n hx hb dL_setPage_0 rfl (lv_at hl 0 rfl) ?_
  refine lv_iload_n hx hb dL_setPage_1 rfl (lv_at hl 1 rfl) ?_
  refine lv_iload_n hx hb dL_setPage_2 rfl (lv_at hl 2 rfl) ?_
  refine z_fcallX hC (z_frX (rest := []) (As := [.int (iI x), .int (iI y)]) (n := 2) (ci := 15) hC hZ (met_X12_setPage l D cs (zfA G s.heap) G ob g sa so hL tx inp out c0 sv hs er fa x y N hlt hg hi_x hi_y hK (by omega) hh8) gv_L_85 hd_X12_setPage rfl hg.1 rfl hl rfl (Nat.le_of_ble_eq_true rfl) ⟨Nat.le_of_ble_eq_true rfl, Nat.le_of_ble_eq_true rfl⟩ ⟨Nat.le_of_ble_eq_true rfl, Nat.le_of_ble_eq_true rfl⟩ dL_setPage_3) hZ (fun E ce q9 G1 H locs hpE hZ hfr hce hcv hcl => ?_) (fun v G1 H locs hpv hZ hfr => ?_)
  · skip
    obtain ⟨hg1, hd⟩ := hpE
    obtain ⟨hc, rfl⟩ := hd
    refine vx_catch (name := "java/lang/IllegalArgumentException") hC.ow [] ⟨0, 6, 7, 14⟩ [] (hT.trans rfl) (fun z hz => absurd hz List.not_mem_nil) rfl (by decide) (hC.ts qk_L_14) (va_Nw.use rfl (hC.G.2.1 _ q_421)) hce hcv hcl ?_
    refine lv_astore_n (lv' := [(3, .ref q9), (0, .ref ob), (1, .int (iI x)), (2, .int (iI y))]) hx hb dL_setPage_7 rfl hl (by decide) rfl (fun ls hl => ?_)
    refine z_iconst hx hb dL_setPage_8 ?_
    exact z_iret hC hr hlk hZ (Nat.le_of_ble_eq_true rfl) (Nat.le_of_ble_eq_true rfl) ⟨by rw [if_neg (by omega), if_neg (by omega), show (sPag c0 x y).2.1 = c0 from sPag_c (by omega)]; exact lG.up ⟨⟨g, sa, so, hL, sv, er, fa, hg1⟩, hG.2⟩ (by omega), (wq_e (codes := [-1]) (q := ((sPag c0 x y).1, (sPag c0 x y).2.2)) 0 hc).symm⟩ dL_setPage_9
  · skip
    obtain ⟨r, rfl, hpr⟩ := hpv
    obtain ⟨hc, rfl, g1, sa1, hL1, hg1⟩ := hpr
    exact z_iret hC hr hlk hZ (Nat.le_of_ble_eq_true rfl) (Nat.le_of_ble_eq_true rfl) ⟨by rw [if_pos hc, if_pos hc]; exact lG.ch hK hh8 hhs ⟨htz, ht60⟩ hin (by omega) (sPag_K hK hc) hg1, (wq_0 (codes := [-1]) (q := ((sPag c0 x y).1, (sPag c0 x y).2.2)) hc).symm⟩ dL_setPage_6

set_option maxHeartbeats 4000000 in
set_option maxRecDepth 100000 in
theorem lw_pass (l : Launch) (D : va_G) (cs : Nat → ClassId) (A : Nat → Prop) (G : zF) (ob : Nat) (x : Int) (N : Nat) (tx inp out : List Int) (c0 : zCo) (hs : List zCo) (hlt : l.stackTraces = false) (hG : lG cs G ob N tx inp out c0 hs) (hi_x : InR x) (hN8 : N ≤ 898) : zMW l D cs A yL_pass cL_pass 3 (some FieldType.int) [((0 : Nat), (5 : Nat), (6 : Nat), (14 : Nat))] 10 18 143 [.ref ob, .int (iI x)] G (pI (fun r G1 => lG cs G1 ob (N + 1) (if (sDay c0 x).1 = 0 then tx else tx) inp out (sDay c0 x).2.1 (if (sDay c0 x).1 = 0 then pushH hs c0 else hs) ∧ r = wq [-1] ((sDay c0 x).1, (sDay c0 x).2.2))) := by
  obtain ⟨⟨g, sa, so, hL, sv, er, fa, hg⟩, hK, hh8, hhs, htz, ht60, hin, hN9⟩ := id hG
  obtain ⟨cap, hso⟩ := hg.2.2.2.2.1
  have hwi := hK.2.2.2.2.2.2.2.2.1
  refine zW_of (own := RL) (by decide) rfl (Nat.le_of_ble_eq_true rfl) ?_
  intro p e s m below meth c hC hr hlk hT hNc hZ ls hl
  have hx := hC.x
  have hb := hC.b
  have hl : lv_has ls 3 [(0, .ref ob), (1, .int (iI x))] := hl
  refine lv_aload_n hx hb dL_pass_0 rfl (lv_at hl 0 rfl) ?_
  refine lv_iload_n hx hb dL_pass_1 rfl (lv_at hl 1 rfl) ?_
  refine z_fcallX hC (z_frX (rest := []) (As := [.int (iI x)]) (n := 1) (ci := 15) hC hZ (met_X12_passDays l D cs (zfA G s.heap) G ob g sa so hL tx inp out c0 sv hs er fa x N hlt hg hi_x hK (by omega) hh8) gv_L_104 hd_X12_passDays rfl hg.1 rfl hl rfl (Nat.le_of_ble_eq_true rfl) ⟨Nat.le_of_ble_eq_true rfl, Nat.le_of_ble_eq_true rfl⟩ ⟨Nat.le_of_ble_eq_true rfl, Nat.le_of_ble_eq_true rfl⟩ dL_pass_2) hZ (fun E ce q9 G1 H locs hpE hZ hfr hce hcv hcl => ?_) (fun v G1 H locs hpv hZ hfr => ?_)
  · skip
    obtain ⟨hg1, hd⟩ := hpE
    obtain ⟨hc, rfl⟩ := hd
    refine vx_catch (name := "java/lang/IllegalArgumentException") hC.ow [] ⟨0, 5, 6, 14⟩ [] (hT.trans rfl) (fun z hz => absurd hz List.not_mem_nil) rfl (by decide) (hC.ts qk_L_14) (va_Nw.use rfl (hC.G.2.1 _ q_421)) hce hcv hcl ?_
    refine lv_astore_n (lv' := [(2, .ref q9), (0, .ref ob), (1, .int (iI x))]) hx hb dL_pass_6 rfl hl (by decide) rfl (fun ls hl => ?_)
    refine z_iconst hx hb dL_pass_7 ?_
    exact z_iret hC hr hlk hZ (Nat.le_of_ble_eq_true rfl) (Nat.le_of_ble_eq_true rfl) ⟨by rw [if_neg (by omega), if_neg (by omega), show (sDay c0 x).2.1 = c0 from sDay_c (by omega)]; exact lG.up ⟨⟨g, sa, so, hL, sv, er, fa, hg1⟩, hG.2⟩ (by omega), (wq_e (codes := [-1]) (q := ((sDay c0 x).1, (sDay c0 x).2.2)) 0 hc).symm⟩ dL_pass_8
  · skip
    obtain ⟨r, rfl, hpr⟩ := hpv
    obtain ⟨hc, rfl, g1, sa1, hL1, hg1⟩ := hpr
    exact z_iret hC hr hlk hZ (Nat.le_of_ble_eq_true rfl) (Nat.le_of_ble_eq_true rfl) ⟨by rw [if_pos hc, if_pos hc]; exact lG.ch hK hh8 hhs ⟨htz, ht60⟩ hin (by omega) (sDay_K hK hc) hg1, (wq_0 (codes := [-1]) (q := ((sDay c0 x).1, (sDay c0 x).2.2)) hc).symm⟩ dL_pass_5

set_option maxHeartbeats 4000000 in
set_option maxRecDepth 100000 in
theorem lw_prints (l : Launch) (D : va_G) (cs : Nat → ClassId) (A : Nat → Prop) (G : zF) (ob : Nat) (N : Nat) (tx inp out : List Int) (c0 : zCo) (hs : List zCo) (hlt : l.stackTraces = false) (hG : lG cs G ob N tx inp out c0 hs) (hN8 : N ≤ 898) : zMW l D cs A yL_prints cL_prints 2 (some FieldType.int) [((0 : Nat), (4 : Nat), (5 : Nat), (16 : Nat))] 10 19 160 [.ref ob] G (pI (fun r G1 => lG cs G1 ob (N + 1) (if (sPrt c0).1 = 0 then tx else tx) inp out (sPrt c0).2.1 (if (sPrt c0).1 = 0 then pushH hs c0 else hs) ∧ r = wq [-1] ((sPrt c0).1, (sPrt c0).2.2))) := by
  obtain ⟨⟨g, sa, so, hL, sv, er, fa, hg⟩, hK, hh8, hhs, htz, ht60, hin, hN9⟩ := id hG
  obtain ⟨cap, hso⟩ := hg.2.2.2.2.1
  have hwi := hK.2.2.2.2.2.2.2.2.1
  refine zW_of (own := RL) (by decide) rfl (Nat.le_of_ble_eq_true rfl) ?_
  intro p e s m below meth c hC hr hlk hT hNc hZ ls hl
  have hx := hC.x
  have hb := hC.b
  have hl : lv_has ls 2 [(0, .ref ob)] := hl
  refine lv_aload_n hx hb dL_prints_0 rfl (lv_at hl 0 rfl) ?_
  refine z_fcallX hC (z_frX (rest := []) (As := []) (n := 0) (ci := 15) hC hZ (met_X12_print l D cs (zfA G s.heap) G ob g sa so hL tx inp out c0 sv hs er fa N hlt hg hK (by omega) hh8) gv_L_88 hd_X12_print rfl hg.1 rfl hl rfl (Nat.le_of_ble_eq_true rfl) ⟨Nat.le_of_ble_eq_true rfl, Nat.le_of_ble_eq_true rfl⟩ ⟨Nat.le_of_ble_eq_true rfl, Nat.le_of_ble_eq_true rfl⟩ dL_prints_1) hZ (fun E ce q9 G1 H locs hpE hZ hfr hce hcv hcl => ?_) (fun v G1 H locs hpv hZ hfr => ?_)
  · skip
    obtain ⟨hg1, hd⟩ := hpE
    obtain ⟨hc, rfl⟩ := hd
    refine vx_catch (name := "java/lang/IllegalStateException") hC.ow [] ⟨0, 4, 5, 16⟩ [] (hT.trans rfl) (fun z hz => absurd hz List.not_mem_nil) rfl (by decide) (hC.ts qk_L_16) (va_Nw.use rfl (hC.G.2.1 _ q_497)) hce hcv hcl ?_
    refine lv_astore_n (lv' := [(1, .ref q9), (0, .ref ob)]) hx hb dL_prints_5 rfl hl (by decide) rfl (fun ls hl => ?_)
    refine z_iconst hx hb dL_prints_6 ?_
    exact z_iret hC hr hlk hZ (Nat.le_of_ble_eq_true rfl) (Nat.le_of_ble_eq_true rfl) ⟨by rw [if_neg (by omega), if_neg (by omega), show (sPrt c0).2.1 = c0 from sPrt_c (by omega)]; exact lG.up ⟨⟨g, sa, so, hL, sv, er, fa, hg1⟩, hG.2⟩ (by omega), (wq_e (codes := [-1]) (q := ((sPrt c0).1, (sPrt c0).2.2)) 0 hc).symm⟩ dL_prints_7
  · skip
    obtain ⟨r, rfl, hpr⟩ := hpv
    obtain ⟨hc, rfl, g1, sa1, hL1, hg1⟩ := hpr
    exact z_iret hC hr hlk hZ (Nat.le_of_ble_eq_true rfl) (Nat.le_of_ble_eq_true rfl) ⟨by rw [if_pos hc, if_pos hc]; exact lG.ch hK hh8 hhs ⟨htz, ht60⟩ hin (by omega) (sPrt_K hK hc) hg1, (wq_0 (codes := [-1]) (q := ((sPrt c0).1, (sPrt c0).2.2)) hc).symm⟩ dL_prints_4

theorem zlt2_snoc {tx : List Int} {x : Int} (h : zlt2 tx) (hx : (97 ≤ x ∧ x ≤ 122) ∨ x = 32) : zlt2 (tx ++ [x]) := fun y hy => by
  rcases List.mem_append.mp hy with h1 | h1
  · exact h y h1
  · rw [List.mem_singleton.mp h1]; exact hx.elim Or.inr Or.inl
theorem inOK_snoc {inp : List Int} {x : Int} (h : inOK inp) (hl : inp.length < 60) (hx : 0 ≤ x ∧ x ≤ 65535) : inOK (inp ++ [x]) := ⟨by rw [List.length_append, List.length_singleton]; omega, fun y hy => by
  rcases List.mem_append.mp hy with h1 | h1
  · exact h.2 y h1
  · rw [List.mem_singleton.mp h1]; exact hx⟩
set_option maxHeartbeats 4000000 in
set_option maxRecDepth 100000 in
theorem lw_type (l : Launch) (D : va_G) (cs : Nat → ClassId) (A : Nat → Prop) (G : zF) (ob : Nat) (x : Int) (N : Nat) (tx inp out : List Int) (c0 : zCo) (hs : List zCo) (hlt : l.stackTraces = false) (hG : lG cs G ob N tx inp out c0 hs) (hxl : ((97 ≤ x ∧ x ≤ 122) ∨ x = 32) ∧ tx.length < 60) : zMW l D cs A yL_type cL_type 3 (some FieldType.int) [((0 : Nat), (5 : Nat), (6 : Nat), (14 : Nat)), ((0 : Nat), (5 : Nat), (10 : Nat), (16 : Nat))] 7 1 6 [.ref ob, .int (iI x)] G (pI (fun r G1 => lG cs G1 ob N (tx ++ [x]) inp out c0 hs ∧ r = wq [-12, -14] ((0 : Int), (tx.length : Int) + 1))) := by
  obtain ⟨⟨g, sa, so, hL, sv, er, fa, hg⟩, hK, hh8, hhs, htz, ht60, hin, hN9⟩ := id hG
  obtain ⟨cap, hso⟩ := hg.2.2.2.2.1
  have hwi := hK.2.2.2.2.2.2.2.2.1
  have hxc : 0 ≤ x ∧ x ≤ 65535 := by omega
  refine zW_of (own := RL) (by decide) rfl (Nat.le_of_ble_eq_true rfl) ?_
  intro p e s m below meth c hC hr hlk hT hNc hZ ls hl
  have hx := hC.x
  have hb := hC.b
  have hl : lv_has ls 3 [(0, .ref ob), (1, .int (iI x))] := hl
  refine lv_aload_n hx hb dL_type_0 rfl (lv_at hl 0 rfl) ?_
  refine lv_iload_n hx hb dL_type_1 rfl (lv_at hl 1 rfl) ?_
  refine z_fcallX hC (z_frX (rest := []) (As := [.int (iI x)]) (n := 1) (ci := 15) hC hZ (met_X12_type l D cs (zfA G s.heap) G ob g sa so hL tx inp out c0 sv hs er fa x hlt hg hxc) gv_L_8 hd_X12_type rfl hg.1 rfl hl rfl (Nat.le_of_ble_eq_true rfl) ⟨Nat.le_of_ble_eq_true rfl, Nat.le_of_ble_eq_true rfl⟩ ⟨Nat.le_of_ble_eq_true rfl, Nat.le_of_ble_eq_true rfl⟩ dL_type_2) hZ (fun E ce q9 G1 H locs hpE hZ hfr hce hcv hcl => ?_) (fun v G1 H locs hpv hZ hfr => ?_)
  · skip
    obtain ⟨hg1, hd⟩ := hpE
    rcases hd with ⟨hc, rfl⟩ | ⟨hc, rfl⟩
    · skip
      refine vx_catch (name := "java/lang/IllegalArgumentException") hC.ow [] ⟨0, 5, 6, 14⟩ [⟨0, 5, 10, 16⟩] (hT.trans rfl) (fun z hz => absurd hz List.not_mem_nil) rfl (by decide) (hC.ts qk_L_14) (va_Nw.use rfl (hC.G.2.1 _ q_421)) hce hcv hcl ?_
      refine lv_astore_n (lv' := [(2, .ref q9), (0, .ref ob), (1, .int (iI x))]) hx hb dL_type_6 rfl hl (by decide) rfl (fun ls hl => ?_)
      refine z_bipush hx hb dL_type_7 (by decide) ?_
      exact z_iret hC hr hlk hZ (Nat.le_of_ble_eq_true rfl) (Nat.le_of_ble_eq_true rfl) ⟨(absurd hxl (by omega)), (wq_e (codes := [-12, -14]) (q := ((0 : Int), (tx.length : Int) + 1)) 0 (absurd hxl (by omega))).symm⟩ dL_type_9
    · skip
      refine vx_catch (name := "java/lang/IllegalStateException") hC.ow [⟨0, 5, 6, 14⟩] ⟨0, 5, 10, 16⟩ [] (hT.trans rfl) (fun z hz => by rw [List.mem_singleton.mp hz]; exact (Or.inr ⟨(by decide), "java/lang/IllegalArgumentException", hC.ts qk_L_14, hNc _ _ (by decide) (by decide) (by decide)⟩)) rfl (by decide) (hC.ts qk_L_16) (va_Nw.use rfl (hC.G.2.1 _ q_497)) hce hcv hcl ?_
      refine lv_astore_n (lv' := [(2, .ref q9), (0, .ref ob), (1, .int (iI x))]) hx hb dL_type_10 rfl hl (by decide) rfl (fun ls hl => ?_)
      refine z_bipush hx hb dL_type_11 (by decide) ?_
      exact z_iret hC hr hlk hZ (Nat.le_of_ble_eq_true rfl) (Nat.le_of_ble_eq_true rfl) ⟨(absurd hxl (by omega)), (wq_e (codes := [-12, -14]) (q := ((0 : Int), (tx.length : Int) + 1)) 1 (absurd hxl (by omega))).symm⟩ dL_type_13
  · skip
    obtain ⟨r, rfl, hpr⟩ := hpv
    obtain ⟨hc, hc2, rfl, hg1⟩ := hpr
    exact z_iret hC hr hlk hZ (Nat.le_of_ble_eq_true rfl) (Nat.le_of_ble_eq_true rfl) ⟨⟨⟨g, sa, so, hL, sv, er, fa, hg1⟩, hK, hh8, hhs, zlt2_snoc htz hxl.1, by rw [List.length_append, List.length_singleton]; omega, hin, hN9⟩, rfl⟩ dL_type_5

set_option maxHeartbeats 4000000 in
set_option maxRecDepth 100000 in
theorem lw_feed (l : Launch) (D : va_G) (cs : Nat → ClassId) (A : Nat → Prop) (G : zF) (ob : Nat) (x : Int) (N : Nat) (tx inp out : List Int) (c0 : zCo) (hs : List zCo) (hlt : l.stackTraces = false) (hG : lG cs G ob N tx inp out c0 hs) (hxl : (0 ≤ x ∧ x ≤ 65535) ∧ inp.length < 60) : zMW l D cs A yL_feed cL_feed 3 (some FieldType.int) [((0 : Nat), (5 : Nat), (6 : Nat), (16 : Nat))] 7 1 6 [.ref ob, .int (iI x)] G (pI (fun r G1 => lG cs G1 ob N tx (inp ++ [x]) out c0 hs ∧ r = wq [-14] ((0 : Int), (inp.length : Int) + 1))) := by
  obtain ⟨⟨g, sa, so, hL, sv, er, fa, hg⟩, hK, hh8, hhs, htz, ht60, hin, hN9⟩ := id hG
  obtain ⟨cap, hso⟩ := hg.2.2.2.2.1
  have hwi := hK.2.2.2.2.2.2.2.2.1
  have hxc := hxl.1
  refine zW_of (own := RL) (by decide) rfl (Nat.le_of_ble_eq_true rfl) ?_
  intro p e s m below meth c hC hr hlk hT hNc hZ ls hl
  have hx := hC.x
  have hb := hC.b
  have hl : lv_has ls 3 [(0, .ref ob), (1, .int (iI x))] := hl
  refine lv_aload_n hx hb dL_feed_0 rfl (lv_at hl 0 rfl) ?_
  refine lv_iload_n hx hb dL_feed_1 rfl (lv_at hl 1 rfl) ?_
  refine z_fcallX hC (z_frX (rest := []) (As := [.int (iI x)]) (n := 1) (ci := 15) hC hZ (met_X12_feed l D cs (zfA G s.heap) G ob g sa so hL tx inp out c0 sv hs er fa x hlt hg hxc) gv_L_123 hd_X12_feed rfl hg.1 rfl hl rfl (Nat.le_of_ble_eq_true rfl) ⟨Nat.le_of_ble_eq_true rfl, Nat.le_of_ble_eq_true rfl⟩ ⟨Nat.le_of_ble_eq_true rfl, Nat.le_of_ble_eq_true rfl⟩ dL_feed_2) hZ (fun E ce q9 G1 H locs hpE hZ hfr hce hcv hcl => ?_) (fun v G1 H locs hpv hZ hfr => ?_)
  · skip
    obtain ⟨hg1, hd⟩ := hpE
    obtain ⟨hc, rfl⟩ := hd
    refine vx_catch (name := "java/lang/IllegalStateException") hC.ow [] ⟨0, 5, 6, 16⟩ [] (hT.trans rfl) (fun z hz => absurd hz List.not_mem_nil) rfl (by decide) (hC.ts qk_L_16) (va_Nw.use rfl (hC.G.2.1 _ q_497)) hce hcv hcl ?_
    refine lv_astore_n (lv' := [(2, .ref q9), (0, .ref ob), (1, .int (iI x))]) hx hb dL_feed_6 rfl hl (by decide) rfl (fun ls hl => ?_)
    refine z_bipush hx hb dL_feed_7 (by decide) ?_
    exact z_iret hC hr hlk hZ (Nat.le_of_ble_eq_true rfl) (Nat.le_of_ble_eq_true rfl) ⟨(absurd hc (by omega)), (wq_e (codes := [-14]) (q := ((0 : Int), (inp.length : Int) + 1)) 0 (absurd hc (by omega))).symm⟩ dL_feed_9
  · skip
    obtain ⟨r, rfl, hpr⟩ := hpv
    obtain ⟨hc2, rfl, hg1⟩ := hpr
    exact z_iret hC hr hlk hZ (Nat.le_of_ble_eq_true rfl) (Nat.le_of_ble_eq_true rfl) ⟨⟨⟨g, sa, so, hL, sv, er, fa, hg1⟩, hK, hh8, hhs, htz, ht60, inOK_snoc hin hxl.2 hxl.1, hN9⟩, rfl⟩ dL_feed_5

theorem sEx_c {c : zCo} {inp : List Int} (h : (sEx c inp).1 ≠ 0) : (sEx c inp).2.1 = c := by
  unfold sEx sExe at h ⊢
  cases h1 : zparse inp with
  | inl p => rfl
  | inr l =>
    rw [h1] at h
    dsimp only at h ⊢
    cases h2 : zrun l c 0 with
    | inl k => rfl
    | inr c2 => rw [h2] at h; exact absurd rfl h
set_option maxHeartbeats 4000000 in
set_option maxRecDepth 100000 in
theorem lw_executes (l : Launch) (D : va_G) (cs : Nat → ClassId) (A : Nat → Prop) (G : zF) (ob : Nat) (N : Nat) (tx inp out : List Int) (c0 : zCo) (hs : List zCo) (hlt : l.stackTraces = false) (hG : lG cs G ob N tx inp out c0 hs) (hN8 : N ≤ 898) : zMW l D cs A yL_executes cL_executes 2 (some FieldType.int) [((0 : Nat), (4 : Nat), (5 : Nat), (14 : Nat)), ((0 : Nat), (4 : Nat), (8 : Nat), (22 : Nat))] 11 100 640 [.ref ob] G (pI (fun r G1 => lG cs G1 ob (N + 1) tx [] out (sEx c0 inp).2.1 (if (sEx c0 inp).1 = 0 then pushH hs c0 else hs) ∧ r = wq [-1, -2] ((sEx c0 inp).1, (sEx c0 inp).2.2))) := by
  obtain ⟨⟨g, sa, so, hL, sv, er, fa, hg⟩, hK, hh8, hhs, htz, ht60, hin, hN9⟩ := id hG
  obtain ⟨cap, hso⟩ := hg.2.2.2.2.1
  have hwi := hK.2.2.2.2.2.2.2.2.1
  refine zW_of (own := RL) (by decide) rfl (Nat.le_of_ble_eq_true rfl) ?_
  intro p e s m below meth c hC hr hlk hT hNc hZ ls hl
  have hx := hC.x
  have hb := hC.b
  have hl : lv_has ls 2 [(0, .ref ob)] := hl
  refine lv_aload_n hx hb dL_executes_0 rfl (lv_at hl 0 rfl) ?_
  refine z_fcallX hC (z_frX (rest := []) (As := []) (n := 0) (ci := 15) hC hZ (met_X12_execute l D cs (zfA G s.heap) G ob g sa so hL tx inp out c0 sv hs er fa N hlt hg hK (by omega) hh8) gv_L_126 hd_X12_execute rfl hg.1 rfl hl rfl (Nat.le_of_ble_eq_true rfl) ⟨Nat.le_of_ble_eq_true rfl, Nat.le_of_ble_eq_true rfl⟩ ⟨Nat.le_of_ble_eq_true rfl, Nat.le_of_ble_eq_true rfl⟩ dL_executes_1) hZ (fun E ce q9 G1 H locs hpE hZ hfr hce hcv hcl => ?_) (fun v G1 H locs hpv hZ hfr => ?_)
  · skip
    obtain ⟨⟨gx, hg1⟩, hd⟩ := hpE
    rcases hd with ⟨hc, rfl⟩ | ⟨hc, rfl⟩
    · skip
      refine vx_catch (name := "java/lang/IllegalArgumentException") hC.ow [] ⟨0, 4, 5, 14⟩ [⟨0, 4, 8, 22⟩] (hT.trans rfl) (fun z hz => absurd hz List.not_mem_nil) rfl (by decide) (hC.ts qk_L_14) (va_Nw.use rfl (hC.G.2.1 _ q_421)) hce hcv hcl ?_
      refine lv_astore_n (lv' := [(1, .ref q9), (0, .ref ob)]) hx hb dL_executes_5 rfl hl (by decide) rfl (fun ls hl => ?_)
      refine z_iconst hx hb dL_executes_6 ?_
      exact z_iret hC hr hlk hZ (Nat.le_of_ble_eq_true rfl) (Nat.le_of_ble_eq_true rfl) ⟨by rw [sEx_e] at hc; rw [if_neg (by omega), sEx_c (by omega)]; exact lG.up ⟨⟨gx, sa, so, hL, sv, _, _, hg1⟩, hK, hh8, hhs, htz, ht60, ⟨Nat.zero_le _, fun _ h => absurd h List.not_mem_nil⟩, hN9⟩ (by omega), (wq_e (codes := [-1, -2]) (q := ((sEx c0 inp).1, (sEx c0 inp).2.2)) 0 ((congrArg Prod.fst (sEx_e c0 inp er fa)).symm.trans hc)).symm⟩ dL_executes_7
    · skip
      refine vx_catch (name := "java/lang/UnsupportedOperationException") hC.ow [⟨0, 4, 5, 14⟩] ⟨0, 4, 8, 22⟩ [] (hT.trans rfl) (fun z hz => by rw [List.mem_singleton.mp hz]; exact (Or.inr ⟨(by decide), "java/lang/IllegalArgumentException", hC.ts qk_L_14, hNc _ _ (by decide) (by decide) (by decide)⟩)) rfl (by decide) (hC.ts qk_L_22) (va_Nw.use rfl (hC.G.2.1 _ q_531)) hce hcv hcl ?_
      refine lv_astore_n (lv' := [(1, .ref q9), (0, .ref ob)]) hx hb dL_executes_8 rfl hl (by decide) rfl (fun ls hl => ?_)
      refine z_bipush hx hb dL_executes_9 (by decide) ?_
      exact z_iret hC hr hlk hZ (Nat.le_of_ble_eq_true rfl) (Nat.le_of_ble_eq_true rfl) ⟨by rw [sEx_e] at hc; rw [if_neg (by omega), sEx_c (by omega)]; exact lG.up ⟨⟨gx, sa, so, hL, sv, _, _, hg1⟩, hK, hh8, hhs, htz, ht60, ⟨Nat.zero_le _, fun _ h => absurd h List.not_mem_nil⟩, hN9⟩ (by omega), (wq_e (codes := [-1, -2]) (q := ((sEx c0 inp).1, (sEx c0 inp).2.2)) 1 ((congrArg Prod.fst (sEx_e c0 inp er fa)).symm.trans hc)).symm⟩ dL_executes_11
  · skip
    obtain ⟨r, rfl, hpr⟩ := hpv
    obtain ⟨hc, rfl, g1, sa1, hL1, hg1⟩ := hpr
    rw [sEx_e] at hc hg1 ⊢
    exact z_iret hC hr hlk hZ (Nat.le_of_ble_eq_true rfl) (Nat.le_of_ble_eq_true rfl) ⟨by rw [if_pos hc]; exact lG.ch hK hh8 hhs ⟨htz, ht60⟩ ⟨Nat.zero_le _, fun _ h => absurd h List.not_mem_nil⟩ (by omega) (ex_K hK hin.1 hc) hg1, (wq_0 (codes := [-1, -2]) (q := ((sEx c0 inp).1, (sEx c0 inp).2.2)) hc).symm⟩ dL_executes_4

set_option maxHeartbeats 4000000 in
set_option maxRecDepth 100000 in
theorem lw_undo (l : Launch) (D : va_G) (cs : Nat → ClassId) (A : Nat → Prop) (G : zF) (ob : Nat) (N : Nat) (tx inp out : List Int) (c0 : zCo) (hs : List zCo) (hlt : l.stackTraces = false) (hG : lG cs G ob N tx inp out c0 hs) : zMW l D cs A yL_undo cL_undo 2 (some FieldType.int) [((0 : Nat), (4 : Nat), (5 : Nat), (16 : Nat))] 7 1 6 [.ref ob] G (pI (fun r G1 => lG cs G1 ob N tx inp out (if hs.length = 0 then c0 else hs.getD (hs.length - 1) cNew) (if hs.length = 0 then hs else hs.eraseIdx (hs.length - 1)) ∧ r = wq [-1] (sUn hs))) := by
  obtain ⟨⟨g, sa, so, hL, sv, er, fa, hg⟩, hK, hh8, hhs, htz, ht60, hin, hN9⟩ := id hG
  obtain ⟨cap, hso⟩ := hg.2.2.2.2.1
  have hwi := hK.2.2.2.2.2.2.2.2.1
  refine zW_of (own := RL) (by decide) rfl (Nat.le_of_ble_eq_true rfl) ?_
  intro p e s m below meth c hC hr hlk hT hNc hZ ls hl
  have hx := hC.x
  have hb := hC.b
  have hl : lv_has ls 2 [(0, .ref ob)] := hl
  refine lv_aload_n hx hb dL_undo_0 rfl (lv_at hl 0 rfl) ?_
  refine z_fcallX hC (z_frX (rest := []) (As := []) (n := 0) (ci := 15) hC hZ (met_X12_undo l D cs (zfA G s.heap) G ob g sa so hL tx inp out c0 sv hs er fa hlt hg hh8) gv_L_135 hd_X12_undo rfl hg.1 rfl hl rfl (Nat.le_of_ble_eq_true rfl) ⟨Nat.le_of_ble_eq_true rfl, Nat.le_of_ble_eq_true rfl⟩ ⟨Nat.le_of_ble_eq_true rfl, Nat.le_of_ble_eq_true rfl⟩ dL_undo_1) hZ (fun E ce q9 G1 H locs hpE hZ hfr hce hcv hcl => ?_) (fun v G1 H locs hpv hZ hfr => ?_)
  · skip
    obtain ⟨hg1, hd⟩ := hpE
    obtain ⟨hc, rfl⟩ := hd
    refine vx_catch (name := "java/lang/IllegalStateException") hC.ow [] ⟨0, 4, 5, 16⟩ [] (hT.trans rfl) (fun z hz => absurd hz List.not_mem_nil) rfl (by decide) (hC.ts qk_L_16) (va_Nw.use rfl (hC.G.2.1 _ q_497)) hce hcv hcl ?_
    refine lv_astore_n (lv' := [(1, .ref q9), (0, .ref ob)]) hx hb dL_undo_5 rfl hl (by decide) rfl (fun ls hl => ?_)
    refine z_iconst hx hb dL_undo_6 ?_
    exact z_iret hC hr hlk hZ (Nat.le_of_ble_eq_true rfl) (Nat.le_of_ble_eq_true rfl) ⟨by rw [if_pos hc, if_pos hc]; exact ⟨⟨g, sa, so, hL, sv, er, fa, hg1⟩, hG.2⟩, (wq_e (codes := [-1]) (q := (sUn hs)) 0 (by unfold sUn; rw [if_pos hc]; rfl)).symm⟩ dL_undo_7
  · skip
    obtain ⟨r, rfl, hpr⟩ := hpv
    obtain ⟨hc, rfl, g1, sa1, hL1, hg1⟩ := hpr
    exact z_iret hC hr hlk hZ (Nat.le_of_ble_eq_true rfl) (Nat.le_of_ble_eq_true rfl) ⟨by rw [if_neg (by omega), if_neg (by omega)]; exact ⟨⟨g1, sa1, so, hL1, sv, er, fa, hg1⟩, by rw [List.getD_eq_getElem?_getD, List.getElem?_eq_getElem (by omega)]; exact hhs _ (List.getElem_mem _), Nat.le_trans (List.length_eraseIdx_le _ _) hh8, fun x hx => hhs x (List.mem_of_mem_eraseIdx hx), htz, ht60, hin, hN9⟩, by unfold sUn; rw [wq_0] <;> rw [if_neg (by omega)]⟩ dL_undo_4

