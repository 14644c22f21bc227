def zthN : List String := ["java/lang/RuntimeException", "java/lang/Exception"]
/-- the bytes of a constructor that hands its text on by index 13 -/
def zb13 : ByteArray := ⟨#[0x2a, 0x2b, 0xb7, 0x00, 0x0d, 0xb1]⟩
/-- the words of a throw whose class's constructor hands the text on by another index -/
def zatX (own : String) (ic : Nat) (X : String) (ix : Nat) (rx : ByteArray) (Y : String) (names : List String) : List Cond :=
  Bundle.throwableAtoms ++ Bundle.throwableSAtoms ++ (Bundle.passSAtoms X Y ix rx ++ Bundle.chainSAtoms Y names) ++
  [.methodLink own ic (Bundle.initS X), .instantiable X 6, .castable X X, .selects X Bundle.tFill0 Bundle.tFill0, .selects X Bundle.tFill Bundle.tFill,
   .lays X Bundle.tN "cause" "Ljava/lang/Throwable;", .lays X Bundle.tN "stackTrace" Bundle.steD, .lays X Bundle.tN "suppressedExceptions" Bundle.listD, .lays X Bundle.tN "detailMessage" "Ljava/lang/String;",
   .isRef (.static Bundle.tN "UNASSIGNED_STACK" Bundle.steD), .isRef (.static Bundle.tN "SUPPRESSED_SENTINEL" Bundle.listD),
   .fieldLink Bundle.tN 198 Bundle.tN "backtrace" "Ljava/lang/Object;", .lays Bundle.tN Bundle.tN "backtrace" "Ljava/lang/Object;", .lays X Bundle.tN "backtrace" "Ljava/lang/Object;"]
theorem zth_e0 : vx_atS "StoneGazette" 77 "java/lang/IllegalArgumentException" zthN = [16, 441, 450, 459, 462, 464, 442, 443, 50, 51, 444, 449, 460, 480, 431, 481, 433, 482, 435, 445, 447, 437, 476, 477, 479, 437, 467, 468, 469, 470, 423, 470, 471, 472, 473, 425, 473, 474, 475, 476, 427, 466, 420, 421, 428, 429, 430, 432, 434, 436, 440, 439, 438].filterMap (fun i => tables_1[i]?) := by decide +kernel
theorem zth_g0 : (vx_atS "StoneGazette" 77 "java/lang/IllegalArgumentException" zthN).all (fun w => goodWord w || znk w) = true := by decide +kernel
theorem zth_o0 : (Cond.classLink "StoneGazette" 73 "java/lang/IllegalArgumentException" :: Cond.initialized "java/lang/IllegalArgumentException" :: vx_atS "StoneGazette" 77 "java/lang/IllegalArgumentException" zthN).all vx_ot = true := by decide +kernel
theorem zth_k0 : Cond.classLink "StoneGazette" 73 "java/lang/IllegalArgumentException" ∈ ZALL := zin (i := 419) (by decide +kernel) rfl
theorem zth_i0 : Cond.initialized "java/lang/IllegalArgumentException" ∈ ZALL := zin (i := 19) (by decide +kernel) rfl
theorem zth_e1 : vx_atS "StoneGazette" 88 "java/lang/IllegalStateException" zthN = [16, 441, 450, 459, 462, 464, 442, 443, 50, 51, 444, 449, 460, 480, 431, 481, 433, 482, 435, 445, 447, 437, 476, 477, 479, 437, 506, 507, 508, 470, 423, 470, 471, 472, 473, 425, 473, 474, 475, 476, 427, 505, 496, 497, 498, 454, 499, 500, 501, 502, 440, 439, 503].filterMap (fun i => tables_1[i]?) := by decide +kernel
theorem zth_g1 : (vx_atS "StoneGazette" 88 "java/lang/IllegalStateException" zthN).all (fun w => goodWord w || znk w) = true := by decide +kernel
theorem zth_o1 : (Cond.classLink "StoneGazette" 84 "java/lang/IllegalStateException" :: Cond.initialized "java/lang/IllegalStateException" :: vx_atS "StoneGazette" 88 "java/lang/IllegalStateException" zthN).all vx_ot = true := by decide +kernel
theorem zth_k1 : Cond.classLink "StoneGazette" 84 "java/lang/IllegalStateException" ∈ ZALL := zin (i := 495) (by decide +kernel) rfl
theorem zth_i1 : Cond.initialized "java/lang/IllegalStateException" ∈ ZALL := zin (i := 20) (by decide +kernel) rfl
theorem zth_e2 : vx_atS "StoneGazette" 114 "java/lang/UnsupportedOperationException" zthN = [16, 441, 450, 459, 462, 464, 442, 443, 50, 51, 444, 449, 460, 480, 431, 481, 433, 482, 435, 445, 447, 437, 476, 477, 479, 437, 540, 541, 542, 470, 423, 470, 471, 472, 473, 425, 473, 474, 475, 476, 427, 539, 530, 531, 532, 457, 533, 534, 535, 536, 440, 439, 537].filterMap (fun i => tables_1[i]?) := by decide +kernel
theorem zth_g2 : (vx_atS "StoneGazette" 114 "java/lang/UnsupportedOperationException" zthN).all (fun w => goodWord w || znk w) = true := by decide +kernel
theorem zth_o2 : (Cond.classLink "StoneGazette" 110 "java/lang/UnsupportedOperationException" :: Cond.initialized "java/lang/UnsupportedOperationException" :: vx_atS "StoneGazette" 114 "java/lang/UnsupportedOperationException" zthN).all vx_ot = true := by decide +kernel
theorem zth_k2 : Cond.classLink "StoneGazette" 110 "java/lang/UnsupportedOperationException" ∈ ZALL := zin (i := 529) (by decide +kernel) rfl
theorem zth_i2 : Cond.initialized "java/lang/UnsupportedOperationException" ∈ ZALL := zin (i := 21) (by decide +kernel) rfl
theorem zth_e3 : (zatX "StoneGazette" 139 "java/util/NoSuchElementException" 13 zb13 "java/lang/RuntimeException" ["java/lang/Exception"]).filter vx_no = [16, 441, 450, 459, 462, 464, 442, 443, 50, 51, 444, 449, 460, 480, 431, 481, 433, 482, 435, 445, 447, 437, 476, 477, 479, 437, 721, 722, 723, 470, 423, 470, 471, 472, 473, 425, 473, 474, 475, 476, 427, 720, 711, 712, 713, 458, 714, 715, 716, 717, 440, 439, 718].filterMap (fun i => tables_1[i]?) := by decide +kernel
theorem zth_g3 : ((zatX "StoneGazette" 139 "java/util/NoSuchElementException" 13 zb13 "java/lang/RuntimeException" ["java/lang/Exception"]).filter vx_no).all (fun w => goodWord w || znk w) = true := by decide +kernel
theorem zth_o3 : (Cond.classLink "StoneGazette" 135 "java/util/NoSuchElementException" :: Cond.initialized "java/util/NoSuchElementException" :: (zatX "StoneGazette" 139 "java/util/NoSuchElementException" 13 zb13 "java/lang/RuntimeException" ["java/lang/Exception"]).filter vx_no).all vx_ot = true := by decide +kernel
theorem zth_k3 : Cond.classLink "StoneGazette" 135 "java/util/NoSuchElementException" ∈ ZALL := zin (i := 710) (by decide +kernel) rfl
theorem zth_i3 : Cond.initialized "java/util/NoSuchElementException" ∈ ZALL := zin (i := 29) (by decide +kernel) rfl
theorem zth_e4 : vx_atS "StoneGazette" 165 "java/lang/IndexOutOfBoundsException" zthN = [16, 441, 450, 459, 462, 464, 442, 443, 50, 51, 444, 449, 460, 480, 431, 481, 433, 482, 435, 445, 447, 437, 476, 477, 479, 437, 734, 735, 736, 470, 423, 470, 471, 472, 473, 425, 473, 474, 475, 476, 427, 779, 770, 771, 772, 455, 773, 774, 775, 776, 440, 439, 777].filterMap (fun i => tables_1[i]?) := by decide +kernel
theorem zth_g4 : (vx_atS "StoneGazette" 165 "java/lang/IndexOutOfBoundsException" zthN).all (fun w => goodWord w || znk w) = true := by decide +kernel
theorem zth_o4 : (Cond.classLink "StoneGazette" 161 "java/lang/IndexOutOfBoundsException" :: Cond.initialized "java/lang/IndexOutOfBoundsException" :: vx_atS "StoneGazette" 165 "java/lang/IndexOutOfBoundsException" zthN).all vx_ot = true := by decide +kernel
theorem zth_k4 : Cond.classLink "StoneGazette" 161 "java/lang/IndexOutOfBoundsException" ∈ ZALL := zin (i := 769) (by decide +kernel) rfl
theorem zth_i4 : Cond.initialized "java/lang/IndexOutOfBoundsException" ∈ ZALL := zin (i := 30) (by decide +kernel) rfl
theorem zth_e5 : vx_atS "StoneGazette" 334 "java/lang/ArithmeticException" zthN = [16, 441, 450, 459, 462, 464, 442, 443, 50, 51, 444, 449, 460, 480, 431, 481, 433, 482, 435, 445, 447, 437, 476, 477, 479, 437, 1443, 1444, 1445, 470, 423, 470, 471, 472, 473, 425, 473, 474, 475, 476, 427, 1464, 1442, 1453, 1454, 452, 1448, 1449, 1451, 1447, 440, 439, 1446].filterMap (fun i => tables_1[i]?) := by decide +kernel
theorem zth_g5 : (vx_atS "StoneGazette" 334 "java/lang/ArithmeticException" zthN).all (fun w => goodWord w || znk w) = true := by decide +kernel
theorem zth_o5 : (Cond.classLink "StoneGazette" 332 "java/lang/ArithmeticException" :: Cond.initialized "java/lang/ArithmeticException" :: vx_atS "StoneGazette" 334 "java/lang/ArithmeticException" zthN).all vx_ot = true := by decide +kernel
theorem zth_k5 : Cond.classLink "StoneGazette" 332 "java/lang/ArithmeticException" ∈ ZALL := zin (i := 1463) (by decide +kernel) rfl
theorem zth_i5 : Cond.initialized "java/lang/ArithmeticException" ∈ ZALL := zin (i := 39) (by decide +kernel) rfl
