def zthN : List String := ["java/lang/RuntimeException", "java/lang/Exception"]
/-- the bytes of a constructor that hands its text on by index 13 -/
def zb13 : ByteArray := ⟨#[0x2a, 0x2b, 0xb7, 0x00, 0x0d, 0xb1]⟩
/-- the words of a throw whose class's constructor hands the text on by another index -/
def zatX (own : String) (ic : Nat) (X : String) (ix : Nat) (rx : ByteArray) (Y : String) (names : List String) : List Cond :=
  Bundle.throwableAtoms ++ Bundle.throwableSAtoms ++ (Bundle.passSAtoms X Y ix rx ++ Bundle.chainSAtoms Y names) ++
  [.methodLink own ic (Bundle.initS X), .instantiable X 6, .castable X X, .selects X Bundle.tFill0 Bundle.tFill0, .selects X Bundle.tFill Bundle.tFill,
   .lays X Bundle.tN "cause" "Ljava/lang/Throwable;", .lays X Bundle.tN "stackTrace" Bundle.steD, .lays X Bundle.tN "suppressedExceptions" Bundle.listD, .lays X Bundle.tN "detailMessage" "Ljava/lang/String;",
   .isRef (.static Bundle.tN "UNASSIGNED_STACK" Bundle.steD), .isRef (.static Bundle.tN "SUPPRESSED_SENTINEL" Bundle.listD),
   .fieldLink Bundle.tN 198 Bundle.tN "backtrace" "Ljava/lang/Object;", .lays Bundle.tN Bundle.tN "backtrace" "Ljava/lang/Object;", .lays X Bundle.tN "backtrace" "Ljava/lang/Object;"]
theorem zth_e0 : vx_atS "StoneGazette" 77 "java/lang/IllegalArgumentException" zthN = [20, 491, 500, 509, 512, 514, 492, 493, 53, 54, 494, 499, 510, 559, 481, 560, 483, 561, 485, 495, 497, 487, 555, 556, 558, 487, 546, 547, 548, 549, 473, 549, 550, 551, 552, 475, 552, 553, 554, 555, 477, 615, 470, 471, 478, 479, 480, 482, 484, 486, 490, 489, 488].filterMap (fun i => tables_1[i]?) := by decide +kernel
theorem zth_g0 : (vx_atS "StoneGazette" 77 "java/lang/IllegalArgumentException" zthN).all (fun w => goodWord w || znk w) = true := by decide +kernel
theorem zth_o0 : (Cond.classLink "StoneGazette" 73 "java/lang/IllegalArgumentException" :: Cond.initialized "java/lang/IllegalArgumentException" :: vx_atS "StoneGazette" 77 "java/lang/IllegalArgumentException" zthN).all vx_ot = true := by decide +kernel
theorem zth_k0 : Cond.classLink "StoneGazette" 73 "java/lang/IllegalArgumentException" ∈ ZALL := zin (i := 613) (by decide +kernel) rfl
theorem zth_i0 : Cond.initialized "java/lang/IllegalArgumentException" ∈ ZALL := zin (i := 23) (by decide +kernel) rfl
theorem zth_e1 : vx_atS "StoneGazette" 88 "java/lang/IllegalStateException" zthN = [20, 491, 500, 509, 512, 514, 492, 493, 53, 54, 494, 499, 510, 559, 481, 560, 483, 561, 485, 495, 497, 487, 555, 556, 558, 487, 631, 632, 633, 549, 473, 549, 550, 551, 552, 475, 552, 553, 554, 555, 477, 630, 621, 622, 623, 504, 624, 625, 626, 627, 490, 489, 628].filterMap (fun i => tables_1[i]?) := by decide +kernel
theorem zth_g1 : (vx_atS "StoneGazette" 88 "java/lang/IllegalStateException" zthN).all (fun w => goodWord w || znk w) = true := by decide +kernel
theorem zth_o1 : (Cond.classLink "StoneGazette" 84 "java/lang/IllegalStateException" :: Cond.initialized "java/lang/IllegalStateException" :: vx_atS "StoneGazette" 88 "java/lang/IllegalStateException" zthN).all vx_ot = true := by decide +kernel
theorem zth_k1 : Cond.classLink "StoneGazette" 84 "java/lang/IllegalStateException" ∈ ZALL := zin (i := 620) (by decide +kernel) rfl
theorem zth_i1 : Cond.initialized "java/lang/IllegalStateException" ∈ ZALL := zin (i := 26) (by decide +kernel) rfl
theorem zth_e2 : vx_atS "StoneGazette" 114 "java/lang/UnsupportedOperationException" zthN = [20, 491, 500, 509, 512, 514, 492, 493, 53, 54, 494, 499, 510, 559, 481, 560, 483, 561, 485, 495, 497, 487, 555, 556, 558, 487, 669, 670, 671, 549, 473, 549, 550, 551, 552, 475, 552, 553, 554, 555, 477, 668, 659, 660, 661, 507, 662, 663, 664, 665, 490, 489, 666].filterMap (fun i => tables_1[i]?) := by decide +kernel
theorem zth_g2 : (vx_atS "StoneGazette" 114 "java/lang/UnsupportedOperationException" zthN).all (fun w => goodWord w || znk w) = true := by decide +kernel
theorem zth_o2 : (Cond.classLink "StoneGazette" 110 "java/lang/UnsupportedOperationException" :: Cond.initialized "java/lang/UnsupportedOperationException" :: vx_atS "StoneGazette" 114 "java/lang/UnsupportedOperationException" zthN).all vx_ot = true := by decide +kernel
theorem zth_k2 : Cond.classLink "StoneGazette" 110 "java/lang/UnsupportedOperationException" ∈ ZALL := zin (i := 658) (by decide +kernel) rfl
theorem zth_i2 : Cond.initialized "java/lang/UnsupportedOperationException" ∈ ZALL := zin (i := 27) (by decide +kernel) rfl
theorem zth_e3 : (zatX "StoneGazette" 139 "java/util/NoSuchElementException" 13 zb13 "java/lang/RuntimeException" ["java/lang/Exception"]).filter vx_no = [20, 491, 500, 509, 512, 514, 492, 493, 53, 54, 494, 499, 510, 559, 481, 560, 483, 561, 485, 495, 497, 487, 555, 556, 558, 487, 1049, 1050, 1051, 549, 473, 549, 550, 551, 552, 475, 552, 553, 554, 555, 477, 1048, 1039, 1040, 1041, 508, 1042, 1043, 1044, 1045, 490, 489, 1046].filterMap (fun i => tables_1[i]?) := by decide +kernel
theorem zth_g3 : ((zatX "StoneGazette" 139 "java/util/NoSuchElementException" 13 zb13 "java/lang/RuntimeException" ["java/lang/Exception"]).filter vx_no).all (fun w => goodWord w || znk w) = true := by decide +kernel
theorem zth_o3 : (Cond.classLink "StoneGazette" 135 "java/util/NoSuchElementException" :: Cond.initialized "java/util/NoSuchElementException" :: (zatX "StoneGazette" 139 "java/util/NoSuchElementException" 13 zb13 "java/lang/RuntimeException" ["java/lang/Exception"]).filter vx_no).all vx_ot = true := by decide +kernel
theorem zth_k3 : Cond.classLink "StoneGazette" 135 "java/util/NoSuchElementException" ∈ ZALL := zin (i := 1038) (by decide +kernel) rfl
theorem zth_i3 : Cond.initialized "java/util/NoSuchElementException" ∈ ZALL := zin (i := 35) (by decide +kernel) rfl
theorem zth_e4 : vx_atS "StoneGazette" 165 "java/lang/IndexOutOfBoundsException" zthN = [20, 491, 500, 509, 512, 514, 492, 493, 53, 54, 494, 499, 510, 559, 481, 560, 483, 561, 485, 495, 497, 487, 555, 556, 558, 487, 1004, 1005, 1006, 549, 473, 549, 550, 551, 552, 475, 552, 553, 554, 555, 477, 1064, 1055, 1056, 1057, 505, 1058, 1059, 1060, 1061, 490, 489, 1062].filterMap (fun i => tables_1[i]?) := by decide +kernel
theorem zth_g4 : (vx_atS "StoneGazette" 165 "java/lang/IndexOutOfBoundsException" zthN).all (fun w => goodWord w || znk w) = true := by decide +kernel
theorem zth_o4 : (Cond.classLink "StoneGazette" 161 "java/lang/IndexOutOfBoundsException" :: Cond.initialized "java/lang/IndexOutOfBoundsException" :: vx_atS "StoneGazette" 165 "java/lang/IndexOutOfBoundsException" zthN).all vx_ot = true := by decide +kernel
theorem zth_k4 : Cond.classLink "StoneGazette" 161 "java/lang/IndexOutOfBoundsException" ∈ ZALL := zin (i := 1054) (by decide +kernel) rfl
theorem zth_i4 : Cond.initialized "java/lang/IndexOutOfBoundsException" ∈ ZALL := zin (i := 33) (by decide +kernel) rfl
theorem zth_e5 : vx_atS "StoneGazette" 334 "java/lang/ArithmeticException" zthN = [20, 491, 500, 509, 512, 514, 492, 493, 53, 54, 494, 499, 510, 559, 481, 560, 483, 561, 485, 495, 497, 487, 555, 556, 558, 487, 1332, 1333, 1334, 549, 473, 549, 550, 551, 552, 475, 552, 553, 554, 555, 477, 1331, 1323, 1324, 1325, 502, 1326, 1327, 1328, 1329, 490, 489, 1330].filterMap (fun i => tables_1[i]?) := by decide +kernel
theorem zth_g5 : (vx_atS "StoneGazette" 334 "java/lang/ArithmeticException" zthN).all (fun w => goodWord w || znk w) = true := by decide +kernel
theorem zth_o5 : (Cond.classLink "StoneGazette" 332 "java/lang/ArithmeticException" :: Cond.initialized "java/lang/ArithmeticException" :: vx_atS "StoneGazette" 334 "java/lang/ArithmeticException" zthN).all vx_ot = true := by decide +kernel
theorem zth_k5 : Cond.classLink "StoneGazette" 332 "java/lang/ArithmeticException" ∈ ZALL := zin (i := 1322) (by decide +kernel) rfl
theorem zth_i5 : Cond.initialized "java/lang/ArithmeticException" ∈ ZALL := zin (i := 38) (by decide +kernel) rfl
