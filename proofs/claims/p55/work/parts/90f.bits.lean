/-! The bits of a freshness as the class counts them: by doublings. -/
def blo (y : UInt32) : Bool := decide ((Op.cmpValue (FP.fcmp y FP.fconst1) .g).toInt < 0)
def bfin (k : Nat) (y x : UInt32) : Bool :=
  if blo y then decide ((FP.fmul y 1258291200).toNat ≤ 2139095040) && (FP.f2i (FP.fmul y 1258291200) == x.toInt32)
  else decide ((FP.fsub y FP.fconst1).toNat ≤ 2139095040) && (decide ((FP.fmul (FP.fsub y FP.fconst1) 1258291200).toNat ≤ 2139095040) && ((iI (127 - (k : Int)) <<< (iI 23 &&& 31) ||| FP.f2i (FP.fmul (FP.fsub y FP.fconst1) 1258291200)) == x.toInt32))
/-- what holds of the walk from k doublings on, y the number doubled so far, x the number asked for -/
def blc : Nat → Nat → UInt32 → UInt32 → Bool
  | 0, k, y, x => bfin k y x
  | f + 1, k, y, x => if blo y then decide ((FP.fmul y FP.fconst2).toNat ≤ 2139095040) && blc f (k + 1) (FP.fmul y FP.fconst2) x else bfin k y x
def bsg0 : List UInt32 := [1065353216, 1061158912, 1058013184, 1054343168, 1050804224, 1047724032, 1043742720, 1040756736, 1036847104, 1033487872, 1030138112, 1026358976, 1023524624, 1019387544, 1016198898, 1012593259, 1009006032, 1005998264, 1001962634, 998935912, 995087388, 991682325, 988401312, 984570616, 981697594, 977618519, 974386369, 970845986, 967209818, 964275463, 960184773, 957116756, 953330174, 949878654, 946667325, 942784366, 939872146, 935851867, 932575620, 929101382, 925415604, 922555662, 918409162, 915299288, 911575492, 908076883, 904936188, 901000253, 898048302, 894087621]
theorem bsg0_ok : bsg0.all (fun x => blc 126 0 x x) = true := by decide +kernel
def bsg1 : List UInt32 := [890766676, 887359486, 883623422, 880821374, 876635837, 873483534, 869823381, 866277040, 863207944, 859218310, 856226084, 852325814, 848959560, 845620332, 841833297, 838993021, 834864828, 831669517, 828073876, 824479151, 821482630, 817438564, 814405515, 810566480]
theorem bsg1_ok : bsg1.all (fun x => blc 126 0 x x) = true := by decide +kernel
def bsg2 : List UInt32 := [807154300, 803883962, 800045260, 797166233, 793096166, 789857260, 786327010, 782683242, 779760287, 775661047, 772586617, 768809654, 765350920, 762150412, 758259337, 755341031, 751329882, 748046788]
theorem bsg2_ok : bsg2.all (fun x => blc 126 0 x x) = true := by decide +kernel
def bsg3 : List UInt32 := [744582822, 740889340, 738040954, 733885788, 730769413, 727055368, 723549446, 720419721, 716475559, 713517437, 709566012, 706238125, 702841348, 699097475, 696289570]
theorem bsg3_ok : bsg3.all (fun x => blc 126 0 x x) = true := by decide +kernel
def bsg4 : List UInt32 := [692112819, 688953926, 685303657, 681749903, 678691926, 674693952, 671695472, 667804584, 664431294, 661102621, 657307670, 654461456, 650342168]
theorem bsg4_ok : bsg4.all (fun x => blc 126 0 x x) = true := by decide +kernel
def bsg5 : List UInt32 := [647140178, 643554555, 639952316, 636967066, 632914548, 629875159, 626045634, 622626322, 619366683, 615519956, 612634911, 608573870]
theorem bsg5_ok : bsg5.all (fun x => blc 126 0 x x) = true := by decide +kernel
def bsg6 : List UInt32 := [605328194, 601808099, 598156714, 595245183, 591137375, 588056519, 584289194, 580823232, 577633568, 573734360, 570809954]
theorem bsg6_ok : bsg6.all (fun x => blc 126 0 x x) = true := by decide +kernel
def bsg7 : List UInt32 := [566807955, 563517998, 560064325, 556363124, 553526318, 549362466, 546239578, 542535303, 539022053, 535903320]
theorem bsg7_ok : bsg7.all (fun x => blc 126 0 x x) = true := by decide +kernel
def bsg8 : List UInt32 := [531950914, 528986610, 525044459, 521709616, 518323272, 514571574, 511757800, 507589852, 504424357, 500783992]
theorem bsg8_ok : bsg8.all (fun x => blc 126 0 x x) = true := by decide +kernel
def bsg9 : List UInt32 := [497222810, 494175975, 490169645, 487164898, 483283411, 479903070, 476584973, 472782090, 469929928]
theorem bsg9_ok : bsg9.all (fun x => blc 126 0 x x) = true := by decide +kernel
def bsg10 : List UInt32 := [465819564, 462610881, 459035298, 455425530, 452451575, 448390585, 445344843, 441524848, 438098388]
theorem bsg10_ok : bsg10.all (fun x => blc 126 0 x x) = true := by decide +kernel
def bsg11 : List UInt32 := [434849470, 430994702, 428103626, 424051631, 420799171, 417289252, 413630235, 410730152]
theorem bsg11_ok : bsg11.all (fun x => blc 126 0 x x) = true := by decide +kernel
def bsg12 : List UInt32 := [406613758, 403526462, 399768797, 396295590, 393116793, 389209435, 386278916, 382286086]
theorem bsg12_ok : bsg12.all (fun x => blc 126 0 x x) = true := by decide +kernel
def bsg13 : List UInt32 := [378989252, 375545894, 371836956, 369011754, 364839200, 361709784, 358015300, 354494707]
theorem bsg13_ok : bsg13.all (fun x => blc 126 0 x x) = true := by decide +kernel
def bsg14 : List UInt32 := [351386988, 347426321, 344455821, 340522964, 337181151, 333805262, 330045722]
theorem bsg14_ok : bsg14.all (fun x => blc 126 0 x x) = true := by decide +kernel
def bsg15 : List UInt32 := [327226068, 323066942, 319894830, 316264389, 312695764, 309660094, 305645390]
theorem bsg15_ok : bsg15.all (fun x => blc 126 0 x x) = true := by decide +kernel
def bsg16 : List UInt32 := [302634362, 298762295, 295374889, 292067390, 288256558, 285398434, 281297011]
theorem bsg16_ok : bsg16.all (fun x => blc 126 0 x x) = true := by decide +kernel
def bsg17 : List UInt32 := [278081622, 274516097, 270898785, 267936146, 263866670, 260814562, 257004115]
theorem bsg17_ok : bsg17.all (fun x => blc 126 0 x x) = true := by decide +kernel
def bsg18 : List UInt32 := [253570494, 250332317, 246469494, 243572376, 239529444, 236270187]
theorem bsg18_ok : bsg18.all (fun x => blc 126 0 x x) = true := by decide +kernel
def bsg19 : List UInt32 := [232770464, 229103800, 226215188, 222090191, 218996443, 215248456]
theorem bsg19_ok : bsg19.all (fun x => blc 126 0 x x) = true := by decide +kernel
def bsg20 : List UInt32 := [211767990, 208600081, 204684557, 201747914, 197764271, 194460547]
theorem bsg20_ok : bsg20.all (fun x => blc 126 0 x x) = true := by decide +kernel
def bsg21 : List UInt32 := [191027524, 187310835, 184497260, 180315985, 177180029, 173495356]
theorem bsg21_ok : bsg21.all (fun x => blc 126 0 x x) = true := by decide +kernel
def bsg22 : List UInt32 := [169967405, 166870724, 162901779, 159925070, 156001525, 152652728]
theorem bsg22_ok : bsg22.all (fun x => blc 126 0 x x) = true := by decide +kernel
def bsg23 : List UInt32 := [149287316, 145519919, 142694371, 138544084, 135365343, 131744846]
theorem bsg23_ok : bsg23.all (fun x => blc 126 0 x x) = true := by decide +kernel
def bsg24 : List UInt32 := [128168762, 125144279, 121121185, 118103865, 114241238, 110846752]
theorem bsg24_ok : bsg24.all (fun x => blc 126 0 x x) = true := by decide +kernel
def bsg25 : List UInt32 := [107549872, 103731076, 100866979, 96774516, 93552407]
theorem bsg25_ok : bsg25.all (fun x => blc 126 0 x x) = true := by decide +kernel
def bsg26 : List UInt32 := [89996962, 86372090, 83420791, 79342809, 76284323]
theorem bsg26_ok : bsg26.all (fun x => blc 126 0 x x) = true := by decide +kernel
def bsg27 : List UInt32 := [72483444, 69042647, 65815234, 61944338, 59041166]
theorem bsg27_ok : bsg27.all (fun x => blc 126 0 x x) = true := by decide +kernel
def bsg28 : List UInt32 := [55007317, 51741248, 48251744, 44577416, 41700300]
theorem bsg28_ok : bsg28.all (fun x => blc 126 0 x x) = true := by decide +kernel
def bsg29 : List UInt32 := [37566681, 34466467, 30728180, 27240439, 24083442]
theorem bsg29_ok : bsg29.all (fun x => blc 126 0 x x) = true := by decide +kernel
def bsg30 : List UInt32 := [20159734, 17216952, 13242516, 9931887, 7448915]
theorem bsg30_ok : bsg30.all (fun x => blc 126 0 x x) = true := by decide +kernel
def bsg31 : List UInt32 := [5586686, 4190014, 3142510, 2356882, 1767662]
theorem bsg31_ok : bsg31.all (fun x => blc 126 0 x x) = true := by decide +kernel
def bsg32 : List UInt32 := [1325746, 994310, 745732, 559299, 419474]
theorem bsg32_ok : bsg32.all (fun x => blc 126 0 x x) = true := by decide +kernel
def bsg33 : List UInt32 := [314606, 235954, 176966, 132724, 99543]
theorem bsg33_ok : bsg33.all (fun x => blc 126 0 x x) = true := by decide +kernel
def bsg34 : List UInt32 := [74657, 55993, 41995, 31496, 23622]
theorem bsg34_ok : bsg34.all (fun x => blc 126 0 x x) = true := by decide +kernel
def bsg35 : List UInt32 := [17716, 13287, 9965, 7474, 5606]
theorem bsg35_ok : bsg35.all (fun x => blc 126 0 x x) = true := by decide +kernel
def bsg36 : List UInt32 := [4204, 3153, 2365, 1774, 1330]
theorem bsg36_ok : bsg36.all (fun x => blc 126 0 x x) = true := by decide +kernel
def bsg37 : List UInt32 := [998, 748, 561, 421, 316]
theorem bsg37_ok : bsg37.all (fun x => blc 126 0 x x) = true := by decide +kernel
def bsg38 : List UInt32 := [237, 178, 134, 100, 75]
theorem bsg38_ok : bsg38.all (fun x => blc 126 0 x x) = true := by decide +kernel
def bsg39 : List UInt32 := [56, 42, 32, 24, 18]
theorem bsg39_ok : bsg39.all (fun x => blc 126 0 x x) = true := by decide +kernel
def bsg40 : List UInt32 := [14, 10, 8, 6, 4]
theorem bsg40_ok : bsg40.all (fun x => blc 126 0 x x) = true := by decide +kernel
def bsg41 : List UInt32 := [3, 2]
theorem bsg41_ok : bsg41.all (fun x => blc 126 0 x x) = true := by decide +kernel
def bsgL : List UInt32 := bsg0 ++ (bsg1 ++ (bsg2 ++ (bsg3 ++ (bsg4 ++ (bsg5 ++ (bsg6 ++ (bsg7 ++ (bsg8 ++ (bsg9 ++ (bsg10 ++ (bsg11 ++ (bsg12 ++ (bsg13 ++ (bsg14 ++ (bsg15 ++ (bsg16 ++ (bsg17 ++ (bsg18 ++ (bsg19 ++ (bsg20 ++ (bsg21 ++ (bsg22 ++ (bsg23 ++ (bsg24 ++ (bsg25 ++ (bsg26 ++ (bsg27 ++ (bsg28 ++ (bsg29 ++ (bsg30 ++ (bsg31 ++ (bsg32 ++ (bsg33 ++ (bsg34 ++ (bsg35 ++ (bsg36 ++ (bsg37 ++ (bsg38 ++ (bsg39 ++ (bsg40 ++ (bsg41)))))))))))))))))))))))))))))))))))))))))
theorem bsgL_ok : ∀ x ∈ bsgL, blc 126 0 x x = true := by
  intro x h
  rcases List.mem_append.mp h with h | h
  · exact List.all_eq_true.mp bsg0_ok x h
  rcases List.mem_append.mp h with h | h
  · exact List.all_eq_true.mp bsg1_ok x h
  rcases List.mem_append.mp h with h | h
  · exact List.all_eq_true.mp bsg2_ok x h
  rcases List.mem_append.mp h with h | h
  · exact List.all_eq_true.mp bsg3_ok x h
  rcases List.mem_append.mp h with h | h
  · exact List.all_eq_true.mp bsg4_ok x h
  rcases List.mem_append.mp h with h | h
  · exact List.all_eq_true.mp bsg5_ok x h
  rcases List.mem_append.mp h with h | h
  · exact List.all_eq_true.mp bsg6_ok x h
  rcases List.mem_append.mp h with h | h
  · exact List.all_eq_true.mp bsg7_ok x h
  rcases List.mem_append.mp h with h | h
  · exact List.all_eq_true.mp bsg8_ok x h
  rcases List.mem_append.mp h with h | h
  · exact List.all_eq_true.mp bsg9_ok x h
  rcases List.mem_append.mp h with h | h
  · exact List.all_eq_true.mp bsg10_ok x h
  rcases List.mem_append.mp h with h | h
  · exact List.all_eq_true.mp bsg11_ok x h
  rcases List.mem_append.mp h with h | h
  · exact List.all_eq_true.mp bsg12_ok x h
  rcases List.mem_append.mp h with h | h
  · exact List.all_eq_true.mp bsg13_ok x h
  rcases List.mem_append.mp h with h | h
  · exact List.all_eq_true.mp bsg14_ok x h
  rcases List.mem_append.mp h with h | h
  · exact List.all_eq_true.mp bsg15_ok x h
  rcases List.mem_append.mp h with h | h
  · exact List.all_eq_true.mp bsg16_ok x h
  rcases List.mem_append.mp h with h | h
  · exact List.all_eq_true.mp bsg17_ok x h
  rcases List.mem_append.mp h with h | h
  · exact List.all_eq_true.mp bsg18_ok x h
  rcases List.mem_append.mp h with h | h
  · exact List.all_eq_true.mp bsg19_ok x h
  rcases List.mem_append.mp h with h | h
  · exact List.all_eq_true.mp bsg20_ok x h
  rcases List.mem_append.mp h with h | h
  · exact List.all_eq_true.mp bsg21_ok x h
  rcases List.mem_append.mp h with h | h
  · exact List.all_eq_true.mp bsg22_ok x h
  rcases List.mem_append.mp h with h | h
  · exact List.all_eq_true.mp bsg23_ok x h
  rcases List.mem_append.mp h with h | h
  · exact List.all_eq_true.mp bsg24_ok x h
  rcases List.mem_append.mp h with h | h
  · exact List.all_eq_true.mp bsg25_ok x h
  rcases List.mem_append.mp h with h | h
  · exact List.all_eq_true.mp bsg26_ok x h
  rcases List.mem_append.mp h with h | h
  · exact List.all_eq_true.mp bsg27_ok x h
  rcases List.mem_append.mp h with h | h
  · exact List.all_eq_true.mp bsg28_ok x h
  rcases List.mem_append.mp h with h | h
  · exact List.all_eq_true.mp bsg29_ok x h
  rcases List.mem_append.mp h with h | h
  · exact List.all_eq_true.mp bsg30_ok x h
  rcases List.mem_append.mp h with h | h
  · exact List.all_eq_true.mp bsg31_ok x h
  rcases List.mem_append.mp h with h | h
  · exact List.all_eq_true.mp bsg32_ok x h
  rcases List.mem_append.mp h with h | h
  · exact List.all_eq_true.mp bsg33_ok x h
  rcases List.mem_append.mp h with h | h
  · exact List.all_eq_true.mp bsg34_ok x h
  rcases List.mem_append.mp h with h | h
  · exact List.all_eq_true.mp bsg35_ok x h
  rcases List.mem_append.mp h with h | h
  · exact List.all_eq_true.mp bsg36_ok x h
  rcases List.mem_append.mp h with h | h
  · exact List.all_eq_true.mp bsg37_ok x h
  rcases List.mem_append.mp h with h | h
  · exact List.all_eq_true.mp bsg38_ok x h
  rcases List.mem_append.mp h with h | h
  · exact List.all_eq_true.mp bsg39_ok x h
  rcases List.mem_append.mp h with h | h
  · exact List.all_eq_true.mp bsg40_ok x h
  exact List.all_eq_true.mp bsg41_ok x h
theorem bsgL_chain : (bsgL.zip bsgL.tail).all (fun q => FP.fmul q.1 1061158912 == q.2) = true := by decide +kernel
theorem bsgL_len : bsgL.length = 357 := by decide +kernel
theorem bsgL_fix : FP.fmul 2 1061158912 = 2 := by decide +kernel
theorem bsgL_last : bsgL.getD 356 0 = 2 := by decide +kernel
theorem bsgL_zfr : ∀ n : Nat, n < 357 → bsgL[n]? = some (zfr n)
  | 0, _ => rfl
  | n + 1, h => by
    have ih := bsgL_zfr n (by omega)
    have hl : n + 1 < bsgL.length := by rw [bsgL_len]; omega
    have h2 : bsgL[n + 1]? = some bsgL[n + 1] := List.getElem?_eq_getElem hl
    have h3 : (bsgL.zip bsgL.tail)[n]? = some (zfr n, bsgL[n + 1]) := by
      rw [List.getElem?_zip_eq_some]
      exact ⟨ih, by rw [List.getElem?_tail]; exact h2⟩
    have h4 := List.all_eq_true.mp bsgL_chain _ (List.mem_of_getElem? h3)
    have h5 : FP.fmul (zfr n) 1061158912 = bsgL[n + 1] := eq_of_beq h4
    rw [h2, ← h5]
    rfl
theorem bits_all (n : Nat) : blc 126 0 (zfr n) (zfr n) = true := by
  by_cases h : n < 357
  · exact bsgL_ok _ (List.mem_of_getElem? (bsgL_zfr n h))
  · have h1 := bsgL_zfr 356 (by decide)
    have h2 : zfr 356 = 2 := by
      have h3 := bsgL_last
      rw [List.getD_eq_getElem?_getD, h1] at h3
      exact h3
    rw [zfr_fix (j := 356) (by rw [h2]; exact bsgL_fix) n (by omega)]
    exact bsgL_ok _ (List.mem_of_getElem? h1)
theorem blc_go {f k : Nat} {y x : UInt32} (h : blc (f + 1) k y x = true) (hb : (Op.cmpValue (FP.fcmp y FP.fconst1) .g).toInt < 0) : fP (FP.fmul y FP.fconst2) ∧ blc f (k + 1) (FP.fmul y FP.fconst2) x = true := by
  unfold blc at h
  rw [if_pos (show blo y = true from decide_eq_true hb), Bool.and_eq_true] at h
  exact ⟨show _ ≤ _ from of_decide_eq_true h.1, h.2⟩
theorem blc_end {f k : Nat} {y x : UInt32} (h : blc f k y x = true) (hb : f = 0 ∨ ¬ (Op.cmpValue (FP.fcmp y FP.fconst1) .g).toInt < 0) : bfin k y x = true := by
  cases f with
  | zero => exact h
  | succ f =>
    unfold blc at h
    rw [if_neg (show ¬ blo y = true from fun z => (hb.resolve_left (Nat.succ_ne_zero f)) (of_decide_eq_true z))] at h
    exact h
theorem bfin_y {k : Nat} {y x : UInt32} (h : bfin k y x = true) (hb : (Op.cmpValue (FP.fcmp y FP.fconst1) .g).toInt < 0) : fP (FP.fmul y 1258291200) ∧ FP.f2i (FP.fmul y 1258291200) = x.toInt32 := by
  unfold bfin at h
  rw [if_pos (show blo y = true from decide_eq_true hb), Bool.and_eq_true] at h
  exact ⟨show _ ≤ _ from of_decide_eq_true h.1, eq_of_beq h.2⟩
theorem bfin_n {k : Nat} {y x : UInt32} (h : bfin k y x = true) (hb : ¬ (Op.cmpValue (FP.fcmp y FP.fconst1) .g).toInt < 0) : fP (FP.fsub y FP.fconst1) ∧ fP (FP.fmul (FP.fsub y FP.fconst1) 1258291200) ∧ (iI (127 - (k : Int)) <<< (iI 23 &&& 31) ||| FP.f2i (FP.fmul (FP.fsub y FP.fconst1) 1258291200)) = x.toInt32 := by
  unfold bfin at h
  rw [if_neg (show ¬ blo y = true from fun z => hb (of_decide_eq_true z)), Bool.and_eq_true, Bool.and_eq_true] at h
  exact ⟨show _ ≤ _ from of_decide_eq_true h.1, show _ ≤ _ from of_decide_eq_true h.2.1, eq_of_beq h.2.2⟩
