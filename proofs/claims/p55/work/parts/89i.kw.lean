section ZK
variable {p : Program} {l : Launch} {e : Env} {R : Room} {s : State} {m : MethodId} {args : Array Value} {below : List Frame} {meth : Method} {c : Code} {H : Heap} {locs : List Loc} {cells slots : Nat} {Q : State → Prop}
variable {cc : ByteArray} {pc nL : Nat} {ls : Array Slot} {rest : List Value} {own : String} {D : va_G} {cs : Nat → ClassId} {A : Nat → Prop} {F : zF} {a : Nat}
theorem z_getON (hC : zC p s m args c cc nL own D cs A) (hZ : zS D A s F H locs) {o n dd ref host : String} {v : Value} {index : Nat} (h : (o, n, dd, v, a) ∈ zfld cs) (hl : Cond.fieldLinkNest own index ref n dd host ∈ ZNW) (hr : o = ref) (d : decode cc pc = .ok (.getfield index, 3))
    (kk : W p l e R s m args below meth c H locs cells slots Q (F0 m (pc + 3) ls (v :: rest))) : W p l e R s m args below meth c H locs cells slots Q (F0 m pc ls (.ref a :: rest)) := by
  obtain ⟨cf, k, fi, f, cell, h1, h2, h3, h4, h5, h6⟩ := (hC.fl h).kept hZ.2.2.2.1
  exact va_Wgetf hC.x hC.b hC.ow (va_Nw.use rfl (hC.G.2.1 _ hl)) (by rw [← hr]; exact h1) h2 h3 h4 (v := v) h5 rfl rfl d kk
end ZK
theorem kw_o {cs : Nat → Nat} {j : Nat} (h : j < 5) : ("StoneGazette$Keyword", cs (20 + j)) ∈ zobj cs := by
  have h2 : j = 0 ∨ j = 1 ∨ j = 2 ∨ j = 3 ∨ j = 4 := by omega
  rcases h2 with rfl | rfl | rfl | rfl | rfl <;> simp [zobj]
theorem kw_l {cs : Nat → Nat} {j : Nat} (h : j < 5) : ("StoneGazette$Keyword", "letters", "Ljava/lang/String;", Value.ref (cs (30 + j)), cs (20 + j)) ∈ zfld cs := by
  have h2 : j = 0 ∨ j = 1 ∨ j = 2 ∨ j = 3 ∨ j = 4 := by omega
  rcases h2 with rfl | rfl | rfl | rfl | rfl <;> simp [zfld]
def kwN (j : Nat) : Int := match j with
  | 1 => 2
  | 2 => 0
  | _ => 1
theorem kw_n {cs : Nat → Nat} {j : Nat} (h : j < 5) : ("StoneGazette$Keyword", "numbers", "I", Value.int (iI (kwN j)), cs (20 + j)) ∈ zfld cs := by
  have h2 : j = 0 ∨ j = 1 ∨ j = 2 ∨ j = 3 ∨ j = 4 := by omega
  rcases h2 with rfl | rfl | rfl | rfl | rfl
  · exact List.mem_of_getElem? (i := 1) rfl
  · exact List.mem_of_getElem? (i := 4) rfl
  · exact List.mem_of_getElem? (i := 7) rfl
  · exact List.mem_of_getElem? (i := 10) rfl
  · exact List.mem_of_getElem? (i := 13) rfl
theorem sg_bh {inp : List Int} {x r : Int} (h0 : 0 ≤ x) (h : ((0 ≤ x ∧ x < inp.length ∧ r = inp.getD x.toNat 0) ∨ (¬ (0 ≤ x ∧ x < inp.length) ∧ r = 0)) ∧ 0 ≤ r ∧ r ≤ 65535) : (bh inp x = r ∧ x < inp.length) ∨ (bh inp x = -1 ∧ r = 0 ∧ ¬ x < inp.length) := by
  unfold bh
  rcases h.1 with ⟨-, h1, h2⟩ | ⟨h1, h2⟩
  · left; rw [if_pos h1]; exact ⟨h2.symm, h1⟩
  · right; rw [if_neg (fun q => h1 ⟨h0, q⟩)]; exact ⟨rfl, h2, fun q => h1 ⟨h0, q⟩⟩
theorem zstr_pos {j : Nat} {k : Int} (h0 : 0 ≤ k) (h : k < (zstr j).length) : 32 ≤ (zstr j).getD k.toNat 0 := by
  have hl : k.toNat < (zstr j).length := by omega
  have h2 : ∀ x ∈ zstr j, (32 : Int) ≤ x := by
    unfold zstr
    split <;> decide
  rw [List.getD_eq_getElem?_getD, List.getElem?_eq_getElem hl]
  exact h2 _ (List.getElem_mem hl)
/-- how many letters of keyword j the input keeps to at a -/
def cnt (inp : List Int) (j : Nat) (a : Int) : Int := (zskip inp (zstr j) a).2 - a
theorem zskip_ge (inp : List Int) : ∀ (l : List Int) (a : Int), a ≤ (zskip inp l a).2
  | [], a => Int.le_refl _
  | c :: l, a => by
    unfold zskip
    split
    · exact Int.le_trans (by omega) (zskip_ge inp l (a + 1))
    · exact Int.le_refl _
theorem zskip_c (inp : List Int) (c : Int) (l : List Int) (a : Int) : (bh inp a = c ∧ a + 1 ≤ (zskip inp (c :: l) a).2 ∧ zskip inp (c :: l) a = zskip inp l (a + 1)) ∨ (bh inp a ≠ c ∧ zskip inp (c :: l) a = (true, a)) := by
  by_cases h : bh inp a = c
  · left
    have e : zskip inp (c :: l) a = zskip inp l (a + 1) := by
      conv => lhs; unfold zskip
      rw [if_pos h]
    exact ⟨h, by rw [e]; exact zskip_ge inp l (a + 1), e⟩
  · right
    refine ⟨h, ?_⟩
    unfold zskip
    rw [if_neg h]
/-- the keyword that the reference takes -/
def zkw (inp : List Int) (a : Int) : Nat := if bh inp a = 112 ∧ bh inp (a + 1) = 114 then 2 else if bh inp a = 112 then 1 else if bh inp a = 100 ∧ bh inp (a + 1) = 114 then 4 else if bh inp a = 100 then 3 else 0
theorem zkw_5 (inp : List Int) (a : Int) : zkw inp a < 5 := by
  unfold zkw
  split
  · decide
  · split
    · decide
    · split
      · decide
      · split
        · decide
        · decide
theorem cnt_1 {inp : List Int} {j : Nat} {a c : Int} {l : List Int} (h : zstr j = c :: l) : (bh inp a = c ∧ 1 ≤ cnt inp j a) ∨ (bh inp a ≠ c ∧ cnt inp j a = 0) := by
  unfold cnt
  rw [h]
  rcases zskip_c inp c l a with ⟨h1, h2, -⟩ | ⟨h1, h2⟩
  · left; exact ⟨h1, by omega⟩
  · right; rw [h2]; exact ⟨h1, Int.sub_self a⟩
theorem cnt_2 {inp : List Int} {j : Nat} {a c d : Int} {l : List Int} (h : zstr j = c :: d :: l) (hc : bh inp a = c) : (bh inp (a + 1) = d ∧ 2 ≤ cnt inp j a) ∨ (bh inp (a + 1) ≠ d ∧ cnt inp j a = 1) := by
  unfold cnt
  rw [h]
  rcases zskip_c inp c (d :: l) a with ⟨h1, h2, h3⟩ | ⟨h1, h2⟩
  · rw [h3]
    rcases zskip_c inp d l (a + 1) with ⟨y1, y2, -⟩ | ⟨y1, y2⟩
    · left; exact ⟨y1, by omega⟩
    · right; rw [y2]; exact ⟨y1, by show a + 1 - a = 1; omega⟩
  · exact absurd hc h1
/-- the first that keeps to for longest is the keyword that the reference takes -/
theorem kw_best {inp : List Int} {a : Int} {b : Nat} (hb : b < 5) (h1 : ∀ i : Nat, (i : Int) < 5 → cnt inp i a ≤ cnt inp b a) (h2 : ∀ i : Nat, i < b → cnt inp i a < cnt inp b a) : zkw inp a = b := by
  have c0 := cnt_1 (inp := inp) (a := a) (show zstr 0 = 119 :: [105, 100, 116, 104, 32] from rfl)
  have c1 := cnt_1 (inp := inp) (a := a) (show zstr 1 = 112 :: [97, 103, 101, 32] from rfl)
  have c2 := cnt_1 (inp := inp) (a := a) (show zstr 2 = 112 :: [114, 105, 110, 116] from rfl)
  have c3 := cnt_1 (inp := inp) (a := a) (show zstr 3 = 100 :: [97, 121, 115, 32] from rfl)
  have c4 := cnt_1 (inp := inp) (a := a) (show zstr 4 = 100 :: [114, 111, 112, 32] from rfl)
  have d1 := fun h => cnt_2 (inp := inp) (a := a) (show zstr 1 = 112 :: 97 :: [103, 101, 32] from rfl) h
  have d2 := fun h => cnt_2 (inp := inp) (a := a) (show zstr 2 = 112 :: 114 :: [105, 110, 116] from rfl) h
  have d3 := fun h => cnt_2 (inp := inp) (a := a) (show zstr 3 = 100 :: 97 :: [121, 115, 32] from rfl) h
  have d4 := fun h => cnt_2 (inp := inp) (a := a) (show zstr 4 = 100 :: 114 :: [111, 112, 32] from rfl) h
  have a0 := h1 0 (by decide)
  have a1 := h1 1 (by decide)
  have a2 := h1 2 (by decide)
  have a3 := h1 3 (by decide)
  have a4 := h1 4 (by decide)
  have hb5 : b = 0 ∨ b = 1 ∨ b = 2 ∨ b = 3 ∨ b = 4 := by omega
  unfold zkw
  by_cases p1 : bh inp a = 112
  · have e1 := d1 p1
    have e2 := d2 p1
    by_cases p2 : bh inp (a + 1) = 114
    · rw [if_pos ⟨p1, p2⟩]
      rcases hb5 with rfl | rfl | rfl | rfl | rfl
      · omega
      · omega
      · rfl
      · omega
      · omega
    · rw [if_neg (fun z => p2 z.2), if_pos p1]
      rcases hb5 with rfl | rfl | rfl | rfl | rfl
      · omega
      · rfl
      · have := h2 1 (by decide); omega
      · omega
      · omega
  · rw [if_neg (fun z => p1 z.1), if_neg p1]
    by_cases q1 : bh inp a = 100
    · have e3 := d3 q1
      have e4 := d4 q1
      by_cases p2 : bh inp (a + 1) = 114
      · rw [if_pos ⟨q1, p2⟩]
        rcases hb5 with rfl | rfl | rfl | rfl | rfl
        · omega
        · omega
        · omega
        · omega
        · rfl
      · rw [if_neg (fun z => p2 z.2), if_pos q1]
        rcases hb5 with rfl | rfl | rfl | rfl | rfl
        · omega
        · omega
        · omega
        · rfl
        · have := h2 3 (by decide); omega
    · rw [if_neg (fun z => q1 z.1), if_neg q1]
      rcases hb5 with rfl | rfl | rfl | rfl | rfl
      · rfl
      · have := h2 0 (by decide); omega
      · have := h2 0 (by decide); omega
      · have := h2 0 (by decide); omega
      · have := h2 0 (by decide); omega
theorem cnt_full {inp : List Int} {j : Nat} {a k : Int} (h : zskip inp (zstr j) a = (false, a + k)) : cnt inp j a = k := by
  unfold cnt
  rw [h]
  show a + k - a = k
  omega
theorem cnt_part {inp : List Int} {j : Nat} {a k : Int} (h : zskip inp (zstr j) a = (true, a + k)) : cnt inp j a = k := by
  unfold cnt
  rw [h]
  show a + k - a = k
  omega
set_option maxHeartbeats 4000000 in
set_option maxRecDepth 100000 in
theorem met_X7_countShared (l : Launch) (D : va_G) (cs : Nat → ClassId) (A : Nat → Prop) (F : zF) (j b sg : Nat) (inp : List Int) (p0 : Int)  (hj5 : j < 5) (hb1 : oBf cs F b sg inp) (hp0 : 0 ≤ p0 ∧ p0 ≤ inp.length) : zM l D cs A yX7_countShared cX7_countShared 4 (some FieldType.int) 6 0 0 [.ref (cs (20 + j)), .ref b, .int (iI p0)] F (pI (fun r F1 => F = F1 ∧ (cnt inp j p0 = r ∧ (0 ≤ r ∧ r ≤ (zstr j).length) ∧ ((r < (zstr j).length ∧ zskip inp (zstr j) p0 = (true, p0 + r)) ∨ (r = (zstr j).length ∧ zskip inp (zstr j) p0 = (false, p0 + r)))))) := by
  refine zM_of (own := RX7) (by decide) rfl (Nat.le_of_ble_eq_true rfl) ?_
  intro p e s m below meth c hC hr hlk hnm hZ ls hl
  have hx := hC.x
  have hb := hC.b
  have hl : lv_has ls 4 [(0, .ref (cs (20 + j))), (1, .ref b), (2, .int (iI p0))] := hl
  obtain ⟨fb_, b0, b1, b2, b3, b4⟩ := id hb1
  have hj : j < 5 := by omega
  have hzl : (zstr j).length ≤ 6 := by unfold zstr; split <;> decide
  refine z_iconst hx hb dX7_countShared_0 ?_
  refine lv_istore_n (lv' := [(3, .int (iI 0)), (0, .ref (cs (20 + j))), (1, .ref b), (2, .int (iI p0))]) hx hb dX7_countShared_1 rfl hl (by decide) rfl (fun ls hl => ?_)
  have L2_k_1 : ∀ (fu : Nat) (k : Int)  (hfu : (((zstr j).length : Int) - k).toNat < fu) (hi2_0 : 0 ≤ k ∧ k ≤ (zstr j).length) (hi2_1 : zskip inp (zstr j) p0 = zskip inp ((zstr j).drop k.toNat) (p0 + k)) (H : Heap) (locs : List Loc) (hZ : zS D A s F H locs) (ls : Array Slot) (hl : lv_has ls 4 [(3, .int (iI k)), (0, .ref (cs (20 + j))), (1, .ref b), (2, .int (iI p0))]), W p l e (zR 6 0 0) s m [.ref (cs (20 + j)), .ref b, .int (iI p0)].toArray below meth c H locs 0 0 (MQ below (zQ D A (pI (fun r F1 => F = F1 ∧ (cnt inp j p0 = r ∧ (0 ≤ r ∧ r ≤ (zstr j).length) ∧ ((r < (zstr j).length ∧ zskip inp (zstr j) p0 = (true, p0 + r)) ∨ (r = (zstr j).length ∧ zskip inp (zstr j) p0 = (false, p0 + r))))))) [.ref (cs (20 + j)), .ref b, .int (iI p0)].toArray s 0 0 A) (F0 m 2 ls []) := by
    intro fu
    induction fu with
    | zero =>
      intro k  hfu
      exact absurd hfu (Nat.not_lt_zero _)
    | succ fu ih2 =>
      intro k  hfu hi2_0 hi2_1  H locs hZ ls hl
      refine lv_iload_n hx hb dX7_countShared_2 rfl (lv_at hl 0 rfl) ?_
      refine lv_aload_n hx hb dX7_countShared_3 rfl (lv_at hl 1 rfl) ?_
      refine z_getO hC hZ (kw_l hj5) ql_X7_38 rfl dX7_countShared_4 ?_
      refine z_calli (z_runO (rest := [.int (iI k)]) (As := []) (n := 0) hC hZ (met_J0_length_8abf5 l D cs A F j hj) gv_X7_46 hd_J0_length_8abf5 (zstr_o hj) rfl hl rfl (Nat.le_of_ble_eq_true rfl) ⟨Nat.le_of_ble_eq_true rfl, Nat.le_of_ble_eq_true rfl⟩ ⟨Nat.le_of_ble_eq_true rfl, Nat.le_of_ble_eq_true rfl⟩ dX7_countShared_7) hZ (fun r7 _ H locs hp7 hZ => ?_)
      obtain ⟨rfl, rfl⟩ := hp7
      refine z_icmp_ge (tgt := 37) hx hb dX7_countShared_10 (by decide) (by omega) (by omega) (fun c_2 => ?_) (fun c_2 => ?_)
      · skip
        have hfin : zskip inp (zstr j) p0 = (false, p0 + k) := by rw [hi2_1, zskip_0 (by omega)]
        refine lv_iload_n hx hb dX7_countShared_37 rfl (lv_at hl 0 rfl) ?_
        exact z_iret hC hr hlk hZ (by decide) (by decide) (⟨rfl, cnt_full hfin, ⟨by omega, by omega⟩, Or.inr ⟨by omega, hfin⟩⟩) dX7_countShared_38
      · skip
        have hzr := zstr_rng j k.toNat
        have hzp := zstr_pos (j := j) (k := k) (by omega) (by omega)
        have hst := zskip_s (inp := inp) (j := j) (a := p0 + k) hi2_0.1 (by omega : k < ((zstr j).length : Int))
        refine lv_aload_n hx hb dX7_countShared_13 rfl (lv_at hl 2 rfl) ?_
        refine lv_iload_n hx hb dX7_countShared_14 rfl (lv_at hl 3 rfl) ?_
        refine lv_iload_n hx hb dX7_countShared_15 rfl (lv_at hl 0 rfl) ?_
        refine z_iadd hx hb dX7_countShared_16 ?_
        refine z_calli (z_runV (rest := []) (As := [.int (iI (p0 + k))]) (n := 1) (ci := 6) hC hZ (met_X2_signAt l D cs A F b sg inp (p0 + k) hb1 (by omega)) gv_X7_52 hd_X2_signAt rfl b0 rfl hl rfl (Nat.le_of_ble_eq_true rfl) ⟨Nat.le_of_ble_eq_true rfl, Nat.le_of_ble_eq_true rfl⟩ ⟨Nat.le_of_ble_eq_true rfl, Nat.le_of_ble_eq_true rfl⟩ dX7_countShared_17) hZ (fun r17 F17 H locs hp17_c_3 hZ => ?_)
        obtain ⟨rfl, hp17_c_3⟩ := hp17_c_3
        have hsb := sg_bh (by omega) hp17_c_3
        have hsr := hp17_c_3.2
        refine lv_aload_n hx hb dX7_countShared_20 rfl (lv_at hl 1 rfl) ?_
        refine z_getO hC hZ (kw_l hj5) ql_X7_38 rfl dX7_countShared_21 ?_
        refine lv_iload_n hx hb dX7_countShared_24 rfl (lv_at hl 0 rfl) ?_
        refine z_calli (z_runO (rest := [.int (iI r17)]) (As := [.int (iI k)]) (n := 1) hC hZ (met_J0_charAt_5068e l D cs A F j k hj (by omega)) gv_X7_58 hd_J0_charAt_5068e (zstr_o hj) rfl hl rfl (Nat.le_of_ble_eq_true rfl) ⟨Nat.le_of_ble_eq_true rfl, Nat.le_of_ble_eq_true rfl⟩ ⟨Nat.le_of_ble_eq_true rfl, Nat.le_of_ble_eq_true rfl⟩ dX7_countShared_25) hZ (fun r25 _ H locs hp25 hZ => ?_)
        obtain ⟨rfl, rfl⟩ := hp25
        refine z_icmp_ne (tgt := 37) hx hb dX7_countShared_28 (by decide) (by omega) (by omega) (fun c_4 => ?_) (fun c_4 => ?_)
        · skip
          have hne : bh inp (p0 + k) ≠ (zstr j).getD k.toNat 0 := by clear hst; omega
          rw [if_neg hne] at hst
          have hfin : zskip inp (zstr j) p0 = (true, p0 + k) := by rw [hi2_1, hst]
          refine lv_iload_n hx hb dX7_countShared_37 rfl (lv_at hl 0 rfl) ?_
          exact z_iret hC hr hlk hZ (by decide) (by decide) (⟨rfl, cnt_part hfin, ⟨by omega, by omega⟩, Or.inl ⟨by omega, hfin⟩⟩) dX7_countShared_38
        · skip
          have hee : bh inp (p0 + k) = (zstr j).getD k.toNat 0 := by clear hst; omega
          rw [if_pos hee] at hst
          refine z_iinc (lv' := [(3, .int (iI (k + 1))), (0, .ref (cs (20 + j))), (1, .ref b), (2, .int (iI p0))]) hx hb dX7_countShared_31 hl (k := 0) rfl (by decide) rfl (fun ls hl => ?_)
          refine lv_goto (tgt := 2) hx hb dX7_countShared_34 (by decide) ?_
          exact ih2 (k + 1)  (by omega) (by omega) (by rw [hi2_1, hst]; congr 1; omega)  _ _ hZ ls (lv_sub hl [0, 1, 2, 3] rfl)
  exact L2_k_1 _ 0  (Nat.lt_succ_self _) (by omega) (by rw [show (0 : Int).toNat = 0 from rfl, List.drop_zero, Int.add_zero])  _ _ hZ ls (lv_sub hl [0, 1, 2, 3] rfl)
