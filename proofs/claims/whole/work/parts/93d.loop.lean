theorem and63 (x : Int32) : 0 ≤ (x &&& 63).toInt ∧ (x &&& 63).toInt ≤ 63 := by
  have h : (x &&& 63).toBitVec.toNat ≤ 63 := by
    rw [Int32.toBitVec_and, BitVec.toNat_and]
    exact Nat.and_le_right
  have e : (x &&& 63).toInt = (x &&& 63).toBitVec.toInt := rfl
  rw [e, BitVec.toInt_eq_toNat_of_lt (by omega)]
  omega
section LC
variable {p : Program} {l : Launch} {e : Env} {R : Room} {s : State} {m : MethodId} {args : Array Value} {below : List Frame} {meth : Method} {c : Code} {H : Heap} {locs : List Loc} {cells slots : Nat} {Q : State → Prop}
variable {ls : Array Slot} {D : va_G} {cs : Nat → ClassId} {A : Nat → Prop} {b L ob m0 ou od N : Nat} {xs : Nat → Int32} {ad : Nat → Nat} {Fg : zF} {v : Nat → Int} {gm : Nat → Int → Int} {f : Nat → Int64} {fd : Nat → UInt64} {i : Int}
set_option maxHeartbeats 4000000 in
set_option maxRecDepth 100000 in
theorem law_loop {cb sb : Nat} (hB : lCx l R D cs A p s m args c b L m0 xs ad) (hcb : cb + 56320 ≤ R.cells) (hsb : sb + 844800 ≤ R.slots)
  (kend : ∀ (H1 : Heap) (locs1 : List Loc) (ls1 : Array Slot) (F1 : zF), zS D A s F1 H1 locs1 → lv_has ls1 9 [(0, .ref b)] → W p l e R s m args below meth c H1 locs1 (cb + 56320) (sb + 844800) Q (F0 m 2904 ls1 [])) :
  ∀ (fu : Nat) (i : Int) (N : Nat) (H : Heap) (locs : List Loc) (Fg : zF) (v : Nat → Int) (gm : Nat → Int → Int) (f : Nat → Int64) (fd : Nat → UInt64) (ls : Array Slot), ((L : Int) - i).toNat < fu → 0 ≤ i → i ≤ (L : Int) → 4 * (N : Int) ≤ i → zLS D cs A s H locs m0 ou od ad Fg v gm f fd → zT2 cs N Fg ob v gm → mOK v gm → lv_has ls 9 [(5, .int (iI i)), (0, .ref b), (1, .ref ob), (2, .ref m0), (3, .ref ou), (4, .ref od)] → W p l e R s m args below meth c H locs (cb + 110 * N) (sb + 1650 * N) Q (F0 m 28 ls []) := by
  intro fu
  induction fu with
  | zero => intro i N H locs Fg v gm f fd ls h; exact absurd h (Nat.not_lt_zero _)
  | succ fu ih =>
    intro i N H locs Fg v gm f fd ls hfu hi0 hiL hN4 hS hT hok hl
    obtain ⟨hC, hlt, hNc, hX, hbl, hbA, hL2, hD, hR1, hR2⟩ := id hB
    have hx := hC.x
    have hb := hC.b
    refine lv_iload hx hb dL_law_28 (lv_at hl 0 rfl) ?_
    refine lv_aload_n hx hb dL_law_30 rfl (lv_at hl 1 rfl) ?_
    refine z_slen hC hS.1 hX hbl hbA dL_law_31 ?_
    refine z_iconst hx hb dL_law_32 ?_
    refine z_isub hx hb dL_law_33 ?_
    refine z_icmp_gt (tgt := 2904) hx hb dL_law_34 (by decide) (by omega) (by omega) (fun c9 => ?_) (fun c9 => ?_)
    · refine W.widen (k := cb + 56320) (n := sb + 844800) (by omega) (by omega) ?_
      exact kend _ _ _ _ hS.1 (lv_sub hl [1] rfl)
    refine lv_aload_n hx hb dL_law_37 rfl (lv_at hl 1 rfl) ?_
    refine lv_iload hx hb dL_law_38 (lv_at hl 0 rfl) ?_
    refine z_sld (k := i) hC hS.1 hX hbl hbA hL2 (by omega) dL_law_40 ?_
    refine z_bipush hx hb dL_law_41 (by decide) ?_
    refine lv_iand hx hb dL_law_43 ?_
    have hz := and63 (iI (sx xs i))
    have hz : 0 ≤ (iI (sx xs i) &&& iI 63).toInt ∧ (iI (sx xs i) &&& iI 63).toInt ≤ 63 := hz
    generalize iI (sx xs i) &&& iI 63 = z at hz ⊢
    have next : ∀ (N1 : Nat) (H1 : Heap) (locs1 : List Loc) (Fg1 : zF) (v1 : Nat → Int) (g1 : Nat → Int → Int) (f1 : Nat → Int64) (fd1 : Nat → UInt64) (ls1 : Array Slot), 4 * (N1 : Int) ≤ i + 4 → zLS D cs A s H1 locs1 m0 ou od ad Fg1 v1 g1 f1 fd1 → zT2 cs N1 Fg1 ob v1 g1 → mOK v1 g1 → lv_has ls1 9 [(5, .int (iI i)), (0, .ref b), (1, .ref ob), (2, .ref m0), (3, .ref ou), (4, .ref od)] → W p l e R s m args below meth c H1 locs1 (cb + 110 * N1) (sb + 1650 * N1) Q (F0 m 2898 ls1 []) := by
      intro N1 H1 locs1 Fg1 v1 g1 f1 fd1 ls1 h4 hS1 hT1 hok1 hl1
      refine z_iinc (lv' := [(5, .int (iI (i + 4))), (0, .ref b), (1, .ref ob), (2, .ref m0), (3, .ref ou), (4, .ref od)]) hx hb dL_law_2898 hl1 (k := 0) rfl (by decide) rfl (fun ls hl => ?_)
      refine lv_goto (tgt := 28) hx hb dL_law_2901 (by decide) ?_
      exact ih (i + 4) N1 H1 locs1 Fg1 v1 g1 f1 fd1 ls (by omega) (by omega) (by omega) h4 hS1 hT1 hok1 hl
    have step : ∀ (H1 : Heap) (locs1 : List Loc) (Fg1 : zF) (v1 : Nat → Int) (g1 : Nat → Int → Int) (f1 : Nat → Int64) (fd1 : Nat → UInt64) (ls1 : Array Slot), zLS D cs A s H1 locs1 m0 ou od ad Fg1 v1 g1 f1 fd1 → zT2 cs (N + 1) Fg1 ob v1 g1 → mOK v1 g1 → lv_has ls1 9 [(5, .int (iI i)), (0, .ref b), (1, .ref ob), (2, .ref m0), (3, .ref ou), (4, .ref od)] → W p l e R s m args below meth c H1 locs1 (cb + 110 * N + 110) (sb + 1650 * N + 1650) Q (F0 m 2898 ls1 []) := fun H1 locs1 Fg1 v1 g1 f1 fd1 ls1 a1 a2 a3 a4 =>
      W.widen (by omega) (by omega) (next (N + 1) H1 locs1 Fg1 v1 g1 f1 fd1 ls1 (by omega) a1 a2 a3 a4)
    by_cases h51 : 51 < z.toInt
    · refine lv_tableOut (tgt := 2898) hx hb dL_law_44 (Or.inr h51) (by decide) ?_
      exact next N H locs Fg v gm f fd ls (by omega) hS hT hok hl
    · have hcs : z.toInt = 0 ∨ z.toInt = 1 ∨ z.toInt = 2 ∨ z.toInt = 3 ∨ z.toInt = 4 ∨ z.toInt = 5 ∨ z.toInt = 6 ∨ z.toInt = 7 ∨ z.toInt = 8 ∨ z.toInt = 9 ∨ z.toInt = 10 ∨ z.toInt = 11 ∨ z.toInt = 12 ∨ z.toInt = 13 ∨ z.toInt = 14 ∨ z.toInt = 15 ∨ z.toInt = 16 ∨ z.toInt = 17 ∨ z.toInt = 18 ∨ z.toInt = 19 ∨ z.toInt = 20 ∨ z.toInt = 21 ∨ z.toInt = 22 ∨ z.toInt = 23 ∨ z.toInt = 24 ∨ z.toInt = 25 ∨ z.toInt = 26 ∨ z.toInt = 27 ∨ z.toInt = 28 ∨ z.toInt = 29 ∨ z.toInt = 30 ∨ z.toInt = 31 ∨ z.toInt = 32 ∨ z.toInt = 33 ∨ z.toInt = 34 ∨ z.toInt = 35 ∨ z.toInt = 36 ∨ z.toInt = 37 ∨ z.toInt = 38 ∨ z.toInt = 39 ∨ z.toInt = 40 ∨ z.toInt = 41 ∨ z.toInt = 42 ∨ z.toInt = 43 ∨ z.toInt = 44 ∨ z.toInt = 45 ∨ z.toInt = 46 ∨ z.toInt = 47 ∨ z.toInt = 48 ∨ z.toInt = 49 ∨ z.toInt = 50 ∨ z.toInt = 51 := by omega
      rcases hcs with hq | hq | hq | hq | hq | hq | hq | hq | hq | hq | hq | hq | hq | hq | hq | hq | hq | hq | hq | hq | hq | hq | hq | hq | hq | hq | hq | hq | hq | hq | hq | hq | hq | hq | hq | hq | hq | hq | hq | hq | hq | hq | hq | hq | hq | hq | hq | hq | hq | hq | hq | hq
      · refine lv_tableIn (off := 224) (tgt := 268) hx hb dL_law_44 (by rw [hq]; decide) (by rw [hq]; decide) (by rw [hq]; rfl) (by decide) ?_
        exact lc_type hB ⟨hi0, by omega⟩ (by omega) hS hT hok hl (by omega) (by omega) step
      · refine lv_tableIn (off := 282) (tgt := 326) hx hb dL_law_44 (by rw [hq]; decide) (by rw [hq]; decide) (by rw [hq]; rfl) (by decide) ?_
        exact lc_clearText hB ⟨hi0, by omega⟩ (by omega) hS hT hok hl (by omega) (by omega) step
      · refine lv_tableIn (off := 295) (tgt := 339) hx hb dL_law_44 (by rw [hq]; decide) (by rw [hq]; decide) (by rw [hq]; rfl) (by decide) ?_
        exact lc_addArticle hB ⟨hi0, by omega⟩ (by omega) hS hT hok hl (by omega) (by omega) step
      · refine lv_tableIn (off := 351) (tgt := 395) hx hb dL_law_44 (by rw [hq]; decide) (by rw [hq]; decide) (by rw [hq]; rfl) (by decide) ?_
        exact lc_removeArticle hB ⟨hi0, by omega⟩ (by omega) hS hT hok hl (by omega) (by omega) step
      · refine lv_tableIn (off := 407) (tgt := 451) hx hb dL_law_44 (by rw [hq]; decide) (by rw [hq]; decide) (by rw [hq]; rfl) (by decide) ?_
        exact lc_correct hB ⟨hi0, by omega⟩ (by omega) hS hT hok hl (by omega) (by omega) step
      · refine lv_tableIn (off := 475) (tgt := 519) hx hb dL_law_44 (by rw [hq]; decide) (by rw [hq]; decide) (by rw [hq]; rfl) (by decide) ?_
        exact lc_articleCount hB ⟨hi0, by omega⟩ (by omega) hS hT hok hl (by omega) (by omega) step
      · refine lv_tableIn (off := 488) (tgt := 532) hx hb dL_law_44 (by rw [hq]; decide) (by rw [hq]; decide) (by rw [hq]; rfl) (by decide) ?_
        exact lc_article hB ⟨hi0, by omega⟩ (by omega) hS hT hok hl (by omega) (by omega) step
      · refine lv_tableIn (off := 544) (tgt := 588) hx hb dL_law_44 (by rw [hq]; decide) (by rw [hq]; decide) (by rw [hq]; rfl) (by decide) ?_
        exact lc_articleByPriority hB ⟨hi0, by omega⟩ (by omega) hS hT hok hl (by omega) (by omega) step
      · refine lv_tableIn (off := 600) (tgt := 644) hx hb dL_law_44 (by rw [hq]; decide) (by rw [hq]; decide) (by rw [hq]; rfl) (by decide) ?_
        exact lc_priority hB ⟨hi0, by omega⟩ (by omega) hS hT hok hl (by omega) (by omega) step
      · refine lv_tableIn (off := 656) (tgt := 700) hx hb dL_law_44 (by rw [hq]; decide) (by rw [hq]; decide) (by rw [hq]; rfl) (by decide) ?_
        exact lc_wordCount hB ⟨hi0, by omega⟩ (by omega) hS hT hok hl (by omega) (by omega) step
      · refine lv_tableIn (off := 712) (tgt := 756) hx hb dL_law_44 (by rw [hq]; decide) (by rw [hq]; decide) (by rw [hq]; rfl) (by decide) ?_
        exact lc_wordLength hB ⟨hi0, by omega⟩ (by omega) hS hT hok hl (by omega) (by omega) step
      · refine lv_tableIn (off := 780) (tgt := 824) hx hb dL_law_44 (by rw [hq]; decide) (by rw [hq]; decide) (by rw [hq]; rfl) (by decide) ?_
        exact lc_divisions hB ⟨hi0, by omega⟩ (by omega) hS hT hok hl (by omega) (by omega) step
      · refine lv_tableIn (off := 848) (tgt := 892) hx hb dL_law_44 (by rw [hq]; decide) (by rw [hq]; decide) (by rw [hq]; rfl) (by decide) ?_
        exact lc_canDivide hB ⟨hi0, by omega⟩ (by omega) hS hT hok hl (by omega) (by omega) step
      · refine lv_tableIn (off := 935) (tgt := 979) hx hb dL_law_44 (by rw [hq]; decide) (by rw [hq]; decide) (by rw [hq]; rfl) (by decide) ?_
        exact lc_lateCorrections hB ⟨hi0, by omega⟩ (by omega) hS hT hok hl (by omega) (by omega) step
      · refine lv_tableIn (off := 948) (tgt := 992) hx hb dL_law_44 (by rw [hq]; decide) (by rw [hq]; decide) (by rw [hq]; rfl) (by decide) ?_
        exact lc_setWidth hB ⟨hi0, by omega⟩ (by omega) hS hT hok hl (by omega) (by omega) step
      · refine lv_tableIn (off := 1004) (tgt := 1048) hx hb dL_law_44 (by rw [hq]; decide) (by rw [hq]; decide) (by rw [hq]; rfl) (by decide) ?_
        exact lc_width hB ⟨hi0, by omega⟩ (by omega) hS hT hok hl (by omega) (by omega) step
      · refine lv_tableIn (off := 1017) (tgt := 1061) hx hb dL_law_44 (by rw [hq]; decide) (by rw [hq]; decide) (by rw [hq]; rfl) (by decide) ?_
        exact lc_canBeSet hB ⟨hi0, by omega⟩ (by omega) hS hT hok hl (by omega) (by omega) step
      · refine lv_tableIn (off := 1080) (tgt := 1124) hx hb dL_law_44 (by rw [hq]; decide) (by rw [hq]; decide) (by rw [hq]; rfl) (by decide) ?_
        exact lc_lineCount hB ⟨hi0, by omega⟩ (by omega) hS hT hok hl (by omega) (by omega) step
      · refine lv_tableIn (off := 1136) (tgt := 1180) hx hb dL_law_44 (by rw [hq]; decide) (by rw [hq]; decide) (by rw [hq]; rfl) (by decide) ?_
        exact lc_lineLength hB ⟨hi0, by omega⟩ (by omega) hS hT hok hl (by omega) (by omega) step
      · refine lv_tableIn (off := 1204) (tgt := 1248) hx hb dL_law_44 (by rw [hq]; decide) (by rw [hq]; decide) (by rw [hq]; rfl) (by decide) ?_
        exact lc_hyphenCount hB ⟨hi0, by omega⟩ (by omega) hS hT hok hl (by omega) (by omega) step
      · refine lv_tableIn (off := 1260) (tgt := 1304) hx hb dL_law_44 (by rw [hq]; decide) (by rw [hq]; decide) (by rw [hq]; rfl) (by decide) ?_
        exact lc_writeLine hB ⟨hi0, by omega⟩ (by omega) hS hT hok hl (by omega) (by omega) step
      · refine lv_tableIn (off := 1328) (tgt := 1372) hx hb dL_law_44 (by rw [hq]; decide) (by rw [hq]; decide) (by rw [hq]; rfl) (by decide) ?_
        exact lc_smallestWidth hB ⟨hi0, by omega⟩ (by omega) hS hT hok hl (by omega) (by omega) step
      · refine lv_tableIn (off := 1384) (tgt := 1428) hx hb dL_law_44 (by rw [hq]; decide) (by rw [hq]; decide) (by rw [hq]; rfl) (by decide) ?_
        exact lc_leastBadness hB ⟨hi0, by omega⟩ (by omega) hS hT hok hl (by omega) (by omega) step
      · refine lv_tableIn (off := 1440) (tgt := 1484) hx hb dL_law_44 (by rw [hq]; decide) (by rw [hq]; decide) (by rw [hq]; rfl) (by decide) ?_
        exact lc_leastBadnessForward hB ⟨hi0, by omega⟩ (by omega) hS hT hok hl (by omega) (by omega) step
      · refine lv_tableIn (off := 1496) (tgt := 1540) hx hb dL_law_44 (by rw [hq]; decide) (by rw [hq]; decide) (by rw [hq]; rfl) (by decide) ?_
        exact lc_setPage hB ⟨hi0, by omega⟩ (by omega) hS hT hok hl (by omega) (by omega) step
      · refine lv_tableIn (off := 1564) (tgt := 1608) hx hb dL_law_44 (by rw [hq]; decide) (by rw [hq]; decide) (by rw [hq]; rfl) (by decide) ?_
        exact lc_print hB ⟨hi0, by omega⟩ (by omega) hS hT hok hl (by omega) (by omega) step
      · refine lv_tableIn (off := 1608) (tgt := 1652) hx hb dL_law_44 (by rw [hq]; decide) (by rw [hq]; decide) (by rw [hq]; rfl) (by decide) ?_
        exact lc_issueCount hB ⟨hi0, by omega⟩ (by omega) hS hT hok hl (by omega) (by omega) step
      · refine lv_tableIn (off := 1621) (tgt := 1665) hx hb dL_law_44 (by rw [hq]; decide) (by rw [hq]; decide) (by rw [hq]; rfl) (by decide) ?_
        exact lc_isKept hB ⟨hi0, by omega⟩ (by omega) hS hT hok hl (by omega) (by omega) step
      · refine lv_tableIn (off := 1646) (tgt := 1690) hx hb dL_law_44 (by rw [hq]; decide) (by rw [hq]; decide) (by rw [hq]; rfl) (by decide) ?_
        exact lc_articlesIn hB ⟨hi0, by omega⟩ (by omega) hS hT hok hl (by omega) (by omega) step
      · refine lv_tableIn (off := 1702) (tgt := 1746) hx hb dL_law_44 (by rw [hq]; decide) (by rw [hq]; decide) (by rw [hq]; rfl) (by decide) ?_
        exact lc_linesIn hB ⟨hi0, by omega⟩ (by omega) hS hT hok hl (by omega) (by omega) step
      · refine lv_tableIn (off := 1758) (tgt := 1802) hx hb dL_law_44 (by rw [hq]; decide) (by rw [hq]; decide) (by rw [hq]; rfl) (by decide) ?_
        exact lc_columnOf hB ⟨hi0, by omega⟩ (by omega) hS hT hok hl (by omega) (by omega) step
      · refine lv_tableIn (off := 1826) (tgt := 1870) hx hb dL_law_44 (by rw [hq]; decide) (by rw [hq]; decide) (by rw [hq]; rfl) (by decide) ?_
        exact lc_rowOf hB ⟨hi0, by omega⟩ (by omega) hS hT hok hl (by omega) (by omega) step
      · refine lv_tableIn (off := 1894) (tgt := 1938) hx hb dL_law_44 (by rw [hq]; decide) (by rw [hq]; decide) (by rw [hq]; rfl) (by decide) ?_
        exact lc_coverage hB ⟨hi0, by omega⟩ (by omega) hS hT hok hl (by omega) (by omega) step
      · refine lv_tableIn (off := 1972) (tgt := 2016) hx hb dL_law_44 (by rw [hq]; decide) (by rw [hq]; decide) (by rw [hq]; rfl) (by decide) ?_
        exact lc_passDays hB ⟨hi0, by omega⟩ (by omega) hS hT hok hl (by omega) (by omega) step
      · refine lv_tableIn (off := 2028) (tgt := 2072) hx hb dL_law_44 (by rw [hq]; decide) (by rw [hq]; decide) (by rw [hq]; rfl) (by decide) ?_
        exact lc_day hB ⟨hi0, by omega⟩ (by omega) hS hT hok hl (by omega) (by omega) step
      · refine lv_tableIn (off := 2041) (tgt := 2085) hx hb dL_law_44 (by rw [hq]; decide) (by rw [hq]; decide) (by rw [hq]; rfl) (by decide) ?_
        exact lc_freshness hB ⟨hi0, by omega⟩ (by omega) hS hT hok hl (by omega) (by omega) step
      · refine lv_tableIn (off := 2119) (tgt := 2163) hx hb dL_law_44 (by rw [hq]; decide) (by rw [hq]; decide) (by rw [hq]; rfl) (by decide) ?_
        exact lc_freshnessBits hB ⟨hi0, by omega⟩ (by omega) hS hT hok hl (by omega) (by omega) step
      · refine lv_tableIn (off := 2175) (tgt := 2219) hx hb dL_law_44 (by rw [hq]; decide) (by rw [hq]; decide) (by rw [hq]; rfl) (by decide) ?_
        exact lc_isReadable hB ⟨hi0, by omega⟩ (by omega) hS hT hok hl (by omega) (by omega) step
      · refine lv_tableIn (off := 2238) (tgt := 2282) hx hb dL_law_44 (by rw [hq]; decide) (by rw [hq]; decide) (by rw [hq]; rfl) (by decide) ?_
        exact lc_daysUntilUnreadable hB ⟨hi0, by omega⟩ (by omega) hS hT hok hl (by omega) (by omega) step
      · refine lv_tableIn (off := 2294) (tgt := 2338) hx hb dL_law_44 (by rw [hq]; decide) (by rw [hq]; decide) (by rw [hq]; rfl) (by decide) ?_
        exact lc_meanWordLength hB ⟨hi0, by omega⟩ (by omega) hS hT hok hl (by omega) (by omega) step
      · refine lv_tableIn (off := 2359) (tgt := 2403) hx hb dL_law_44 (by rw [hq]; decide) (by rw [hq]; decide) (by rw [hq]; rfl) (by decide) ?_
        exact lc_meanFreshness hB ⟨hi0, by omega⟩ (by omega) hS hT hok hl (by omega) (by omega) step
      · refine lv_tableIn (off := 2425) (tgt := 2469) hx hb dL_law_44 (by rw [hq]; decide) (by rw [hq]; decide) (by rw [hq]; rfl) (by decide) ?_
        exact lc_writeArticle hB ⟨hi0, by omega⟩ (by omega) hS hT hok hl (by omega) (by omega) step
      · refine lv_tableIn (off := 2481) (tgt := 2525) hx hb dL_law_44 (by rw [hq]; decide) (by rw [hq]; decide) (by rw [hq]; rfl) (by decide) ?_
        exact lc_outputCharacter hB ⟨hi0, by omega⟩ (by omega) hS hT hok hl (by omega) (by omega) step
      · refine lv_tableIn (off := 2537) (tgt := 2581) hx hb dL_law_44 (by rw [hq]; decide) (by rw [hq]; decide) (by rw [hq]; rfl) (by decide) ?_
        exact lc_isConsistent hB ⟨hi0, by omega⟩ (by omega) hS hT hok hl (by omega) (by omega) step
      · refine lv_tableIn (off := 2550) (tgt := 2594) hx hb dL_law_44 (by rw [hq]; decide) (by rw [hq]; decide) (by rw [hq]; rfl) (by decide) ?_
        exact lc_feed hB ⟨hi0, by omega⟩ (by omega) hS hT hok hl (by omega) (by omega) step
      · refine lv_tableIn (off := 2608) (tgt := 2652) hx hb dL_law_44 (by rw [hq]; decide) (by rw [hq]; decide) (by rw [hq]; rfl) (by decide) ?_
        exact lc_execute hB ⟨hi0, by omega⟩ (by omega) hS hT hok hl (by omega) (by omega) step
      · refine lv_tableIn (off := 2652) (tgt := 2696) hx hb dL_law_44 (by rw [hq]; decide) (by rw [hq]; decide) (by rw [hq]; rfl) (by decide) ?_
        exact lc_errorPosition hB ⟨hi0, by omega⟩ (by omega) hS hT hok hl (by omega) (by omega) step
      · refine lv_tableIn (off := 2696) (tgt := 2740) hx hb dL_law_44 (by rw [hq]; decide) (by rw [hq]; decide) (by rw [hq]; rfl) (by decide) ?_
        exact lc_failedCommand hB ⟨hi0, by omega⟩ (by omega) hS hT hok hl (by omega) (by omega) step
      · refine lv_tableIn (off := 2740) (tgt := 2784) hx hb dL_law_44 (by rw [hq]; decide) (by rw [hq]; decide) (by rw [hq]; rfl) (by decide) ?_
        exact lc_undo hB ⟨hi0, by omega⟩ (by omega) hS hT hok hl (by omega) (by omega) step
      · refine lv_tableIn (off := 2784) (tgt := 2828) hx hb dL_law_44 (by rw [hq]; decide) (by rw [hq]; decide) (by rw [hq]; rfl) (by decide) ?_
        exact lc_undoCount hB ⟨hi0, by omega⟩ (by omega) hS hT hok hl (by omega) (by omega) step
      · refine lv_tableIn (off := 2797) (tgt := 2841) hx hb dL_law_44 (by rw [hq]; decide) (by rw [hq]; decide) (by rw [hq]; rfl) (by decide) ?_
        exact lc_save hB ⟨hi0, by omega⟩ (by omega) hS hT hok hl (by omega) (by omega) step
      · refine lv_tableIn (off := 2810) (tgt := 2854) hx hb dL_law_44 (by rw [hq]; decide) (by rw [hq]; decide) (by rw [hq]; rfl) (by decide) ?_
        exact lc_restore hB ⟨hi0, by omega⟩ (by omega) hS hT hok hl (by omega) (by omega) step
end LC
