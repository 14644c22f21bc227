/-- lines, a semicolon behind each -/
def zcode : List zWd → List Int
  | [] => []
  | x :: xs => x ++ 59 :: zcode xs
theorem zcode_snoc : ∀ (S : List zWd) (x : zWd), zcode (S ++ [x]) = zcode S ++ (x ++ [59])
  | [], x => rfl
  | y :: S, x => by
    show y ++ 59 :: zcode (S ++ [x]) = (y ++ 59 :: zcode S) ++ (x ++ [59])
    rw [zcode_snoc S x, List.append_assoc]
    rfl
theorem zcode_len (S : List zWd) (x : zWd) : (zcode (S ++ [x])).length = (zcode S).length + x.length + 1 := by rw [zcode_snoc]; simp; omega
def zLt (w : Int) (ws : List zWd) : List Int := match zlines w ws with
  | none => []
  | some L => zcode L
/-- what is left to do in the midst of word k -/
def zwgo (w : Int) (ws : List zWd) (k n fr : Nat) (st : zLn) : Option zLn := match zset w (ws.getD k []) n fr st with
  | none => none
  | some st' => zwords w (ws.drop (k + 1)) st'
theorem zwgo_put {w : Int} {ws : List zWd} {k n fr : Nat} {st st' : zLn} (h : zstep w (ws.getD k []) fr st = some ((ws.getD k []).length, st')) : zwgo w ws k (n + 1) fr st = zwords w (ws.drop (k + 1)) st' := by
  have e : zset w (ws.getD k []) (n + 1) fr st = some st' := by
    show (match zstep w (ws.getD k []) fr st with | none => none | some (f, st') => if f = (ws.getD k []).length then some st' else zset w (ws.getD k []) n f st') = _
    rw [h]
    exact if_pos rfl
  unfold zwgo
  rw [e]
theorem zwgo_go {w : Int} {ws : List zWd} {k n fr f : Nat} {st st' : zLn} (h : zstep w (ws.getD k []) fr st = some (f, st')) (hf : f ≠ (ws.getD k []).length) : zwgo w ws k (n + 1) fr st = zwgo w ws k n f st' := by
  have e : zset w (ws.getD k []) (n + 1) fr st = zset w (ws.getD k []) n f st' := by
    show (match zstep w (ws.getD k []) fr st with | none => none | some (f, st') => if f = (ws.getD k []).length then some st' else zset w (ws.getD k []) n f st') = _
    rw [h]
    exact if_neg hf
  unfold zwgo
  rw [e]
theorem zwgo_no {w : Int} {ws : List zWd} {k n fr : Nat} {st : zLn} (h : zstep w (ws.getD k []) fr st = none) : zwgo w ws k (n + 1) fr st = none := by
  have e : zset w (ws.getD k []) (n + 1) fr st = none := by
    show (match zstep w (ws.getD k []) fr st with | none => none | some (f, st') => if f = (ws.getD k []).length then some st' else zset w (ws.getD k []) n f st') = _
    rw [h]
  unfold zwgo
  rw [e]
/-- at the head of the words' loop -/
def lsO (w : Int) (ws : List zWd) (k : Int) (S : List zWd) (L : zWd) : Prop := zwords w ws ([], []) = zwords w (ws.drop k.toNat) (S, L) ∧ lnOK w [] k.toNat 0 (S, L) ∧ ((zcode S).length : Int) + L.length + k ≤ 2 * zpos ws k.toNat
/-- in the midst of word k -/
def lsI (w : Int) (ws : List zWd) (k fr : Int) (e n : Nat) (S : List zWd) (L : zWd) : Prop := fr < (ws.getD k.toNat []).length ∧ zwords w ws ([], []) = zwgo w ws k.toNat n fr.toNat (S, L) ∧ lnOK w (ws.getD k.toNat []) k.toNat fr.toNat (S, L) ∧ ((ws.getD k.toNat []).length : Int) - fr + 1 ≤ n + e ∧ ((L.length = 0 ∧ e = 1) ∨ (1 ≤ L.length ∧ fr = 0 ∧ e = 0)) ∧ ((zcode S).length : Int) + L.length + k ≤ 2 * zpos ws k.toNat + 2 * fr + e
theorem lnOK0 {w : Int} {wd wd' : zWd} {j : Nat} {st : zLn} (h : lnOK w wd j 0 st) : lnOK w wd' j 0 st := ⟨h.1, h.2.1, Or.inl rfl, h.2.2.2⟩
theorem ls_0 {w : Int} {ws : List zWd} (hw : 0 ≤ w) : lsO w ws 0 [] [] := ⟨rfl, ⟨by decide, fun h => absurd rfl h, Or.inl rfl, fun _ h => absurd h List.not_mem_nil, hw⟩, by show (0 : Int) + 0 + 0 ≤ _; omega⟩
theorem gD_wd {ws : List zWd} (hw : ∀ x ∈ ws, wdOK x) {k : Int} (h0 : 0 ≤ k) (h1 : k < ws.length) : ws[k.toNat]? = some (ws.getD k.toNat []) ∧ wdOK (ws.getD k.toNat []) := by
  have hl : k.toNat < ws.length := by omega
  have e : ws[k.toNat]? = some ws[k.toNat] := List.getElem?_eq_getElem hl
  have g : ws.getD k.toNat [] = ws[k.toNat] := by rw [List.getD_eq_getElem?_getD, e]; rfl
  rw [g]
  exact ⟨e, hw _ (List.getElem_mem hl)⟩
theorem ls_in {w : Int} {ws : List zWd} (hw : ∀ x ∈ ws, wdOK x) {k : Int} {S : List zWd} {L : zWd} (h0 : 0 ≤ k) (h1 : k < ws.length) (h : lsO w ws k S L) : ∃ e : Nat, lsI w ws k 0 e 24 S L := by
  obtain ⟨a1, a2, a3⟩ := h
  obtain ⟨g1, g2⟩ := gD_wd hw h0 h1
  have hl := g2.1
  refine ⟨if L.length = 0 then 1 else 0, by omega, ?_, lnOK0 a2, by omega, ?_, ?_⟩
  · have hd : ws.drop k.toNat = ws.getD k.toNat [] :: ws.drop (k.toNat + 1) := by
      have hl2 : k.toNat < ws.length := by omega
      rw [List.drop_eq_getElem_cons hl2]
      congr 1
      rw [List.getElem?_eq_getElem hl2] at g1
      exact Option.some.inj g1
    rw [a1, hd]
    rfl
  · split <;> omega
  · split <;> omega
theorem ls_put {w : Int} {ws : List zWd} (hw : ∀ x ∈ ws, wdOK x) {k fr : Int} {e n : Nat} {S : List zWd} {L : zWd} (h0 : 0 ≤ k) (h1 : k < ws.length) (hf : 0 ≤ fr) (h : lsI w ws k fr e n S L) (hr : ((ws.getD k.toNat []).length : Int) - fr ≤ zroom w L) : lsO w ws (k + 1) S (lnPut L ((ws.getD k.toNat []).drop fr.toNat)) := by
  obtain ⟨a1, a2, a3, a4, a5, a6⟩ := h
  obtain ⟨g1, g2⟩ := gD_wd hw h0 h1
  have hs : zstep w (ws.getD k.toNat []) fr.toNat (S, L) = some ((ws.getD k.toNat []).length, S, lnPut L ((ws.getD k.toNat []).drop fr.toNat)) := by
    unfold zstep
    exact if_pos (show _ - ((fr.toNat : Nat) : Int) ≤ zroom w L by omega)
  have hps := zpos_s g1
  have hk1 : (k + 1).toNat = k.toNat + 1 := by omega
  have hn : n = (n - 1) + 1 := by omega
  have hpl := lnPut_len L ((ws.getD k.toNat []).drop fr.toNat)
  rw [List.length_drop] at hpl
  rcases zstep_ok (j := k.toNat) g2 (by omega) a3 hs with ⟨-, -, b1, b2, b3, b4⟩ | ⟨b1, -⟩
  · refine ⟨?_, ⟨by show 2 * S.length ≤ _; have : S.length ≤ 6 * (k.toNat + 1) := b1; omega, fun _ => ⟨rfl, by rw [hk1]; exact b1⟩, Or.inl rfl, b2, b3⟩, ?_⟩
    · rw [a2, hn]
      show zwgo w ws k.toNat (n - 1 + 1) fr.toNat (S, L) = zwords w (ws.drop (k + 1).toNat) _
      rw [show (k + 1).toNat = k.toNat + 1 by omega]
      exact zwgo_put hs
    · rw [show (k + 1).toNat = k.toNat + 1 by omega, hps]
      split at hpl
      · omega
      · rename_i q
        have : 1 ≤ L.length := List.length_pos_iff.mpr q
        omega
  · omega
theorem ls_cut {w : Int} {ws : List zWd} (hw : ∀ x ∈ ws, wdOK x) {k fr : Int} {e n : Nat} {S : List zWd} {L : zWd} {c : Nat} (h0 : 0 ≤ k) (h1 : k < ws.length) (hf : 0 ≤ fr) (h : lsI w ws k fr e n S L) (hr : ¬ ((ws.getD k.toNat []).length : Int) - fr ≤ zroom w L) (hc : c = zcut (ws.getD k.toNat []) fr.toNat (zroom w L) ((ws.getD k.toNat []).length - 1)) (hc0 : c ≠ 0) :
    lsI w ws k (c : Int) 1 (n - 1) (S ++ [lnPut L (((ws.getD k.toNat []).drop fr.toNat).take (c - fr.toNat)) ++ [45]]) [] ∧ fr + 2 ≤ c ∧ c < (ws.getD k.toNat []).length ∧ ((lnPut L (((ws.getD k.toNat []).drop fr.toNat).take (c - fr.toNat))).length : Int) = (if L = [] then (0 : Int) else L.length + 1) + (c - fr) := by
  obtain ⟨a1, a2, a3, a4, a5, a6⟩ := h
  obtain ⟨g1, g2⟩ := gD_wd hw h0 h1
  have hs : zstep w (ws.getD k.toNat []) fr.toNat (S, L) = some (c, S ++ [lnPut L (((ws.getD k.toNat []).drop fr.toNat).take (c - fr.toNat)) ++ [45]], []) := by
    unfold zstep
    rw [if_neg (show ¬ _ - ((fr.toNat : Nat) : Int) ≤ zroom w L by omega)]
    show (if zcut (ws.getD k.toNat []) fr.toNat (zroom w L) ((ws.getD k.toNat []).length - 1) ≠ 0 then _ else _) = _
    rw [← hc, if_pos hc0]
  have hpl := lnPut_len L (((ws.getD k.toNat []).drop fr.toNat).take (c - fr.toNat))
  rcases zstep_ok (j := k.toNat) g2 (by omega) a3 hs with ⟨b1, b2, -⟩ | ⟨b1, b2, -, b3⟩
  · exact absurd (congrArg (fun z : zLn => z.2.length) b2) (by
      show ¬ (0 = (lnPut L _).length)
      have := lnPut_len L ((ws.getD k.toNat []).drop fr.toNat)
      rw [List.length_drop] at this
      split at this <;> omega)
  · have hcf : fr.toNat + 2 ≤ c := by
      rcases b3 with z | ⟨z, z2⟩
      · exact z
      · have := zcut_p (ws.getD k.toNat []) fr.toNat (zroom w L) (by rw [← hc]; exact hc0)
        rw [← hc] at this
        omega
    have hlt : (((ws.getD k.toNat []).drop fr.toNat).take (c - fr.toNat)).length = c - fr.toNat := by rw [List.length_take, List.length_drop]; omega
    rw [hlt] at hpl
    refine ⟨⟨by omega, ?_, by rw [Int.toNat_natCast]; exact b2, by omega, Or.inl ⟨rfl, rfl⟩, ?_⟩, by omega, b1, ?_⟩
    · rw [a2, show n = (n - 1) + 1 by omega, zwgo_go hs (by omega), Int.toNat_natCast]
      rfl
    · rw [zcode_len, List.length_append]
      show (((zcode S).length + ((lnPut L _).length + 1) + 1 : Nat) : Int) + 0 + k ≤ _
      split at hpl
      · rename_i q
        have : L.length = 0 := by rw [q]; rfl
        omega
      · rename_i q
        have : 1 ≤ L.length := List.length_pos_iff.mpr q
        omega
    · rw [hpl]
      split <;> omega
theorem ls_no {w : Int} {ws : List zWd} {k fr : Int} {e n : Nat} {S : List zWd} {L : zWd} (hf : 0 ≤ fr) (h : lsI w ws k fr e n S L) (hr : ¬ ((ws.getD k.toNat []).length : Int) - fr ≤ zroom w L) (hc : zcut (ws.getD k.toNat []) fr.toNat (zroom w L) ((ws.getD k.toNat []).length - 1) = 0) (hL : L = []) : zLt w ws = [] := by
  obtain ⟨a1, a2, a3, a4, a5, a6⟩ := h
  have hs : zstep w (ws.getD k.toNat []) fr.toNat (S, L) = none := by
    unfold zstep
    rw [if_neg (show ¬ _ - ((fr.toNat : Nat) : Int) ≤ zroom w L by omega)]
    show (if zcut (ws.getD k.toNat []) fr.toNat (zroom w L) ((ws.getD k.toNat []).length - 1) ≠ 0 then _ else _) = _
    rw [hc, if_neg (by decide)]
    exact if_pos hL
  unfold zLt zlines
  rw [a2, show n = (n - 1) + 1 by omega, zwgo_no hs]
  rfl
theorem ls_clr {w : Int} {ws : List zWd} (hw : ∀ x ∈ ws, wdOK x) {k fr : Int} {e n : Nat} {S : List zWd} {L : zWd} (h0 : 0 ≤ k) (h1 : k < ws.length) (hf : 0 ≤ fr) (h : lsI w ws k fr e n S L) (hr : ¬ ((ws.getD k.toNat []).length : Int) - fr ≤ zroom w L) (hc : zcut (ws.getD k.toNat []) fr.toNat (zroom w L) ((ws.getD k.toNat []).length - 1) = 0) (hL : L ≠ []) :
    lsI w ws k fr 1 (n - 1) (S ++ [L]) [] ∧ fr = 0 ∧ e = 0 := by
  obtain ⟨a1, a2, a3, a4, a5, a6⟩ := h
  obtain ⟨g1, g2⟩ := gD_wd hw h0 h1
  have hL1 : 1 ≤ L.length := List.length_pos_iff.mpr hL
  have hs : zstep w (ws.getD k.toNat []) fr.toNat (S, L) = some (fr.toNat, S ++ [L], []) := by
    unfold zstep
    rw [if_neg (show ¬ _ - ((fr.toNat : Nat) : Int) ≤ zroom w L by omega)]
    show (if zcut (ws.getD k.toNat []) fr.toNat (zroom w L) ((ws.getD k.toNat []).length - 1) ≠ 0 then _ else _) = _
    rw [hc, if_neg (by decide)]
    exact if_neg hL
  rcases zstep_ok (j := k.toNat) g2 (by omega) a3 hs with ⟨b1, -⟩ | ⟨b1, b2, -, b3⟩
  · omega
  · refine ⟨⟨a1, ?_, b2, by omega, Or.inl ⟨rfl, rfl⟩, ?_⟩, by omega, by omega⟩
    · rw [a2, show n = (n - 1) + 1 by omega, zwgo_go hs (by omega)]
      rfl
    · rw [zcode_len]
      show (((zcode S).length + L.length + 1 : Nat) : Int) + 0 + k ≤ _
      omega
theorem ls_end {w : Int} {ws : List zWd} {S : List zWd} {L : zWd} {k : Int} (hk : (ws.length : Int) ≤ k) (h : lsO w ws k S L) : zLt w ws = zcode (S ++ [L]) := by
  unfold zLt zlines
  rw [h.1, List.drop_eq_nil_of_le (by omega)]
  rfl
theorem zpos_bw {ws : List zWd} (hw : ∀ x ∈ ws, wdOK x) : ∀ k : Nat, zpos ws k ≤ 13 * k := by
  intro k
  induction k with
  | zero => exact Nat.le_refl _
  | succ k ih =>
    by_cases h : k < ws.length
    · have := zpos_s (List.getElem?_eq_getElem h)
      have hl := (hw _ (List.getElem_mem h)).1.2
      omega
    · have e : zpos ws (k + 1) = zpos ws k := by unfold zpos; rw [List.take_of_length_le (by omega), List.take_of_length_le (by omega)]
      omega
theorem zct_0 (wd : zWd) (fr : Nat) (room : Int) : ∀ p, p ≤ fr → zcut wd fr room p = 0
  | 0, _ => rfl
  | p + 1, h => by
    unfold zcut
    rw [if_neg (fun q => by omega)]
    exact zct_0 wd fr room p (by omega)
theorem zct_y {wd : zWd} {fr at_ room : Int} (h0 : 0 ≤ fr) (h1 : fr + 1 ≤ at_) (h2 : at_ - fr < room) (h3 : cutOK wd at_) : at_ = (zcut wd fr.toNat room (at_ + 1 - 1).toNat : Int) := by
  rw [show (at_ + 1 - 1).toNat = (at_ - 1).toNat + 1 by omega]
  unfold zcut
  rw [if_pos ⟨by omega, by omega, by rw [show (at_ - 1).toNat + 1 = at_.toNat by omega]; exact (cutB_iff (by omega)).mpr h3⟩]
  omega
theorem zct_n {wd : zWd} {fr at_ room ct : Int} (h0 : 0 ≤ fr) (h1 : fr + 1 ≤ at_) (hn : ¬ (at_ - fr < room ∧ cutOK wd at_)) (hc : ct = (zcut wd fr.toNat room (at_ - 1).toNat : Int)) : ct = (zcut wd fr.toNat room (at_ + 1 - 1).toNat : Int) := by
  rw [show (at_ + 1 - 1).toNat = (at_ - 1).toNat + 1 by omega]
  unfold zcut
  rw [if_neg (fun q => hn ⟨by have := q.2.1; omega, (cutB_iff (by omega)).mp (by have := q.2.2; rw [show (at_ - 1).toNat + 1 = at_.toNat by omega] at this; exact this)⟩)]
  exact hc
theorem lnPut_nz {L part : zWd} (h : L = []) : lnPut L part = part := if_pos h
theorem lnPut_cz {L part : zWd} (h : L ≠ []) : lnPut L part = (L ++ [32]) ++ part := by unfold lnPut; rw [if_neg h, List.append_assoc]; rfl
theorem zroom_n {w : Int} {L : zWd} (h : L = []) : zroom w L = w := if_pos h
theorem zroom_c {w : Int} {L : zWd} (h : L ≠ []) : zroom w L = w - L.length - 1 := if_neg h
theorem zroom_u {w : Int} {L : zWd} (hw : 0 ≤ w ∧ w ≤ 100) (hL : (L.length : Int) ≤ w) : -1 ≤ zroom w L ∧ zroom w L ≤ w := by unfold zroom; split <;> omega
theorem ls_tk {wd : zWd} {fr : Nat} : (wd.drop fr).take (wd.length - fr) = wd.drop fr := List.take_of_length_le (by rw [List.length_drop]; exact Nat.le_refl _)
theorem app4 (a b c : List Int) : a ++ ((b ++ c ++ [45]) ++ [59]) = ((a ++ b) ++ c) ++ [45, 59] := by simp
theorem app3 (a c : List Int) : a ++ ((c ++ [45]) ++ [59]) = (a ++ c) ++ [45, 59] := by simp
set_option maxHeartbeats 4000000 in
set_option maxRecDepth 100000 in
theorem lm_linesOf (l : Launch) (D : va_G) (cs : Nat → ClassId) (A : Nat → Prop) (X : zF) (a : Nat) (ws : List zWd) (w : Int)  (hA : oSs7 cs X a ws) (hw : ∀ x ∈ ws, wdOK x) (hwi : 4 ≤ w ∧ w ≤ 20) (hw9 : ws.length ≤ 9) : zM l D cs A yL_linesOf cL_linesOf 13 (some (FieldType.object "java/lang/String")) 18 1300 80000 [.ref a, .int (iI w)] X (pR (fun r X1 => zle X X1 ∧ oStr cs X1 r (zLt w ws))) := by
  refine zM_of (own := RL) (by decide) rfl (Nat.le_of_ble_eq_true rfl) ?_
  intro p e s m below meth c hC hr hlk hnm hZ ls hl
  have hx := hC.x
  have hb := hC.b
  have hl : lv_has ls 13 [(0, .ref a), (1, .int (iI w))] := hl
  have hW := zW3.ofX hZ
  have hz6 : (zLw 6).length = 2 := rfl
  have hz7 : (zLw 7).length = 1 := rfl
  have hz2 : (zLw 2).length = 1 := rfl
  have hz0 : (zLw 0).length = 0 := rfl
  refine z_ldcS1 hC (List.mem_of_getElem? (i := 0) rfl) dL_linesOf_0 ?_
  refine lv_astore_n (lv' := [(2, .ref (cs (50 + 0))), (0, .ref a), (1, .int (iI w))]) hx hb dL_linesOf_2 rfl hl (by decide) rfl (fun ls hl => ?_)
  refine z_ldcS1 hC (List.mem_of_getElem? (i := 0) rfl) dL_linesOf_3 ?_
  refine lv_astore_n (lv' := [(3, .ref (cs (50 + 0))), (2, .ref (cs (50 + 0))), (0, .ref a), (1, .int (iI w))]) hx hb dL_linesOf_5 rfl hl (by decide) rfl (fun ls hl => ?_)
  refine lv_aload_n hx hb dL_linesOf_6 rfl (lv_at hl 2 rfl) ?_
  refine lv_astore (lv' := [(4, .ref a), (3, .ref (cs (50 + 0))), (2, .ref (cs (50 + 0))), (0, .ref a), (1, .int (iI w))]) hx hb dL_linesOf_7 hl (by decide) rfl (fun ls hl => ?_)
  refine lv_aload hx hb dL_linesOf_9 (lv_at hl 0 rfl) ?_
  obtain ⟨fa_1, hfa_1, h2fa_1⟩ := id hA
  refine z_alen (t := 7) hC hW.x hfa_1 rfl dL_linesOf_11 ?_
  refine lv_istore (lv' := [(5, .int (iI (ws.length : Int))), (4, .ref a), (3, .ref (cs (50 + 0))), (2, .ref (cs (50 + 0))), (0, .ref a), (1, .int (iI w))]) hx hb dL_linesOf_12 hl (by decide) rfl (fun ls hl => ?_)
  refine z_iconst hx hb dL_linesOf_14 ?_
  refine lv_istore (lv' := [(6, .int (iI 0)), (5, .int (iI (ws.length : Int))), (4, .ref a), (3, .ref (cs (50 + 0))), (2, .ref (cs (50 + 0))), (0, .ref a), (1, .int (iI w))]) hx hb dL_linesOf_15 hl (by decide) rfl (fun ls hl => ?_)
  have L17_k_2 : ∀ (fu : Nat) (k : Int) (X1 : zF) (al av li lv_ : Nat) (S : List zWd) (L : zWd) (hfu : ((ws.length : Int) - k).toNat < fu) (hi17_0 : 0 ≤ k ∧ k ≤ ws.length) (hle1 : zle X X1) (hsa : oSt cs X1 al av (zcode S)) (hsl : oSt cs X1 li lv_ L) (hO : lsO w ws k S L) (H : Heap) (locs : List Loc) (hW : zW3 D A s zE zE X1 H locs) (ls : Array Slot) (hl : lv_has ls 13 [(6, .int (iI k)), (5, .int (iI (ws.length : Int))), (4, .ref a), (3, .ref li), (2, .ref al), (0, .ref a), (1, .int (iI w))]), W p l e (zR 18 1300 80000) s m [.ref a, .int (iI w)].toArray below meth c H locs (8 * zpos ws k.toNat + 32 * k.toNat) (600 * zpos ws k.toNat + 900 * k.toNat) (MQ below (zQ D A (pR (fun r X1 => zle X X1 ∧ oStr cs X1 r (zLt w ws)))) [.ref a, .int (iI w)].toArray s 1300 80000 A) (F0 m 17 ls []) := by
    intro fu
    induction fu with
    | zero =>
      intro k X1 al av li lv_ S L hfu
      exact absurd hfu (Nat.not_lt_zero _)
    | succ fu ih17 =>
      intro k X1 al av li lv_ S L hfu hi17_0 hle1 hsa hsl hO H locs hW ls hl
      have hLw : (L.length : Int) ≤ w := hO.2.1.2.2.2.2
      have hph := hO.2.2
      have hpb := zpos_bw hw k.toNat
      refine lv_iload hx hb dL_linesOf_17 (lv_at hl 0 rfl) ?_
      refine lv_iload hx hb dL_linesOf_19 (lv_at hl 1 rfl) ?_
      refine z_icmp_ge (tgt := 287) hx hb dL_linesOf_21 (by decide) (by omega) (by omega) (fun c_3 => ?_) (fun c_3 => ?_)
      · skip
        refine z_new (T := TJ4) (N := 4) (ci := 1) hC hW.all tyJ4 tyJ4_ok in_J4 rfl qk_L_162 qx_J4 qn_J4 [.null, .int (iI 0), .int (iI 0), .int (iI 0)] df_J4 (by show _ ≤ 1300; omega) (by show _ ≤ 80000; omega) dL_linesOf_287 (fun b287 H hb287 hZ => ?_)
        have hW := hW.nB hb287.1 hZ
        refine lv_dup hx hb dL_linesOf_290 rfl ?_
        refine z_cBv hC (z_frI (rest := [.ref b287]) (As := []) (n := 0) hC hW.b (met_J4_init_da8c8 l D cs (zfA (zup zE b287 (.inr (1, [.null, .int (iI 0), .int (iI 0), .int (iI 0)]))) _) (zup zE b287 (.inr (1, [.null, .int (iI 0), .int (iI 0), .int (iI 0)]))) b287 zup_s) qc_J4_init_da8c8 qn_J4 qm_L_164 qi_J4_init_da8c8 rfl he_J4_init_da8c8 rfl hl rfl (Nat.le_of_ble_eq_true rfl) ⟨Nat.le_of_ble_eq_true rfl, Nat.le_of_ble_eq_true rfl⟩ ⟨(by show _ ≤ 1300; omega), (by show _ ≤ 80000; omega)⟩ dL_linesOf_291) hW (fun B291 H locs hp291 hW => ?_)
        obtain ⟨va291, -, -, hb291⟩ := hp291
        have hnil : ([] : List Int).length = 0 := rfl
        refine W.widen (k := (8 * zpos ws k.toNat + 32 * k.toNat) + 2) (n := (600 * zpos ws k.toNat + 900 * k.toNat) + 20) (by omega) (by omega) ?_
        refine lv_aload_n hx hb dL_linesOf_294 rfl (lv_at hl 4 rfl) ?_
        have hcc295 := oSB.c hb291
        have hgx295 := grx_le 16 (([] : List Int).length + (zcode S).length)
        have hmc295 := mcS_le (cap := 16) (n := (([] : List Int).length + (zcode S).length))
        obtain ⟨fs295, ho295⟩ := (oSB.mono hb291 zun_le1).o
        refine z_cAp hC (z_frV (rest := []) (As := [.ref al]) (n := 1) (ci := 1) hC hW.bx (mes_append l D cs (zfA (zun B291 X1) _) (zun B291 X1) b287 va291 16 ([] : List Int) al av (zcode S) (oSB.mono hb291 zun_le1) (oSt.mono hsa (zun_le2 hW.dbx)) (by omega)) gv_L_165 hd_J4_append_15ec4 rfl ho295 rfl hl rfl (Nat.le_of_ble_eq_true rfl) ⟨Nat.le_of_ble_eq_true rfl, Nat.le_of_ble_eq_true rfl⟩ ⟨(by show _ ≤ 1300; omega), (by show _ ≤ 80000; omega)⟩ dL_linesOf_295) hW hb291 (fun B295 va295 H locs hb295 hW => ?_)
        obtain ⟨ca295, hca295⟩ : ∃ c_ : Nat, c_ = grx 16 (([] : List Int).length + (zcode S).length) := ⟨_, rfl⟩
        rw [← hca295] at hb295 hgx295
        refine W.widen (k := (8 * zpos ws k.toNat + 32 * k.toNat) + 3) (n := (600 * zpos ws k.toNat + 900 * k.toNat) + (20 + 2 * (ca295 - 16))) (by omega) (by omega) ?_
        have hgb295 : 16 ≤ ca295 ∧ ca295 ≤ 2 * (([] : List Int).length + (zcode S).length) + 16 := by omega
        clear hgx295 hmc295 hcc295 hca295
        have hlen295 : (([] : List Int) ++ (zcode S)).length = (([] : List Int).length + (zcode S).length) := List.length_append
        refine lv_aload_n hx hb dL_linesOf_298 rfl (lv_at hl 3 rfl) ?_
        have hcc299 := oSB.c hb295
        have hgx299 := grx_le ca295 ((([] : List Int) ++ (zcode S)).length + L.length)
        have hmc299 := mcS_le (cap := ca295) (n := ((([] : List Int) ++ (zcode S)).length + L.length))
        obtain ⟨fs299, ho299⟩ := (oSB.mono hb295 zun_le1).o
        refine z_cAp hC (z_frV (rest := []) (As := [.ref li]) (n := 1) (ci := 1) hC hW.bx (mes_append l D cs (zfA (zun B295 X1) _) (zun B295 X1) b287 va295 ca295 (([] : List Int) ++ (zcode S)) li lv_ L (oSB.mono hb295 zun_le1) (oSt.mono hsl (zun_le2 hW.dbx)) (by omega)) gv_L_165 hd_J4_append_15ec4 rfl ho299 rfl hl rfl (Nat.le_of_ble_eq_true rfl) ⟨Nat.le_of_ble_eq_true rfl, Nat.le_of_ble_eq_true rfl⟩ ⟨(by show _ ≤ 1300; omega), (by show _ ≤ 80000; omega)⟩ dL_linesOf_299) hW hb295 (fun B299 va299 H locs hb299 hW => ?_)
        obtain ⟨ca299, hca299⟩ : ∃ c_ : Nat, c_ = grx ca295 ((([] : List Int) ++ (zcode S)).length + L.length) := ⟨_, rfl⟩
        rw [← hca299] at hb299 hgx299
        refine W.widen (k := (8 * zpos ws k.toNat + 32 * k.toNat) + 4) (n := (600 * zpos ws k.toNat + 900 * k.toNat) + (20 + 2 * (ca299 - 16))) (by omega) (by omega) ?_
        have hgb299 : 16 ≤ ca299 ∧ ca299 ≤ 2 * ((([] : List Int) ++ (zcode S)).length + L.length) + 16 := by omega
        clear hgx299 hmc299 hcc299 hca299
        have hlen299 : ((([] : List Int) ++ (zcode S)) ++ L).length = ((([] : List Int) ++ (zcode S)).length + L.length) := List.length_append
        refine z_ldcS1 hC (List.mem_of_getElem? (i := 7) rfl) dL_linesOf_302 ?_
        have hcc304 := oSB.c hb299
        have hgx304 := grx_le ca299 (((([] : List Int) ++ (zcode S)) ++ L).length + (zLw 7).length)
        have hmc304 := mcS_le (cap := ca299) (n := (((([] : List Int) ++ (zcode S)) ++ L).length + (zLw 7).length))
        obtain ⟨fs304, ho304⟩ := (oSB.mono hb299 zun_le1).o
        refine z_cAp hC (z_frV (rest := []) (As := [.ref (cs (50 + 7))]) (n := 1) (ci := 1) hC hW.bx (mes_append l D cs (zfA (zun B299 X1) _) (zun B299 X1) b287 va299 ca299 ((([] : List Int) ++ (zcode S)) ++ L) (cs (50 + 7)) (cs (70 + 7)) (zLw 7) (oSB.mono hb299 zun_le1) (oSt.mono (zLw_st (j := 7) (by decide)) (zun_le2 hW.dbx)) (by omega)) gv_L_165 hd_J4_append_15ec4 rfl ho304 rfl hl rfl (Nat.le_of_ble_eq_true rfl) ⟨Nat.le_of_ble_eq_true rfl, Nat.le_of_ble_eq_true rfl⟩ ⟨(by show _ ≤ 1300; omega), (by show _ ≤ 80000; omega)⟩ dL_linesOf_304) hW hb299 (fun B304 va304 H locs hb304 hW => ?_)
        obtain ⟨ca304, hca304⟩ : ∃ c_ : Nat, c_ = grx ca299 (((([] : List Int) ++ (zcode S)) ++ L).length + (zLw 7).length) := ⟨_, rfl⟩
        rw [← hca304] at hb304 hgx304
        refine W.widen (k := (8 * zpos ws k.toNat + 32 * k.toNat) + 5) (n := (600 * zpos ws k.toNat + 900 * k.toNat) + (20 + 2 * (ca304 - 16))) (by omega) (by omega) ?_
        have hgb304 : 16 ≤ ca304 ∧ ca304 ≤ 2 * (((([] : List Int) ++ (zcode S)) ++ L).length + (zLw 7).length) + 16 := by omega
        clear hgx304 hmc304 hcc304 hca304
        have hlen304 : (((([] : List Int) ++ (zcode S)) ++ L) ++ (zLw 7)).length = (((([] : List Int) ++ (zcode S)) ++ L).length + (zLw 7).length) := List.length_append
        obtain ⟨fs307, ho307⟩ := (oSB.mono hb304 zun_le1).o
        refine z_cTs hC (z_frV (rest := []) (As := []) (n := 0) (ci := 1) hC hW.bx (mes_toString l D cs (zfA (zun B304 X1) _) (zun B304 X1) b287 va304 ca304 (((([] : List Int) ++ (zcode S)) ++ L) ++ (zLw 7)) (oSB.mono hb304 zun_le1) (by omega)) gv_L_174 hd_J4_toString_0e30d rfl ho307 rfl hl rfl (Nat.le_of_ble_eq_true rfl) ⟨Nat.le_of_ble_eq_true rfl, Nat.le_of_ble_eq_true rfl⟩ ⟨(by show _ ≤ 1300; omega), (by show _ ≤ 80000; omega)⟩ dL_linesOf_307) hW hb304 (fun r307 v307 X307 H locs hl307 hq307 hh307 hW => ?_)
        have hs_4 : oSt cs X307 al av (zcode S) := hsa.mono hl307
        have hs_5 : oSt cs X307 li lv_ L := hsl.mono hl307
        have hs_6 := (hA.mono hle1).mono hl307
        have hle_7 : zle X X307 := hle1.trans hl307
        have hq307 : oSt cs X307 r307 v307 (zLt w ws) := (by rw [ls_end (by omega) hO, zcode_snoc, ← List.append_assoc]; exact hq307)
        exact z_aret hC hr (Or.inl ⟨_, rfl⟩) hlk hW.x (by omega) (by omega) (⟨hle_7, _, hq307⟩) dL_linesOf_310
      · skip
        refine lv_aload hx hb dL_linesOf_24 (lv_at hl 2 rfl) ?_
        refine lv_iload hx hb dL_linesOf_26 (lv_at hl 0 rfl) ?_
        obtain ⟨fa_8, hfa_8, h2fa_8⟩ := id (hA.mono hle1)
        obtain ⟨q28, vq28, h3fa_8, hsq28⟩ := h2fa_8 k (by omega) (by omega)
        refine z_aald (t := 7) (C := "java/lang/String") (v := some q28) hC hW.x hfa_8 rfl (by omega) (by omega) h3fa_8 dL_linesOf_28 ?_
        obtain ⟨e0, hIe⟩ := ls_in hw hi17_0.1 (show k < (ws.length : Int) by omega) hO
        have hwk := gD_wd hw hi17_0.1 (show k < (ws.length : Int) by omega)
        have hps := zpos_s hwk.1
        have hwl := hwk.2.1
        have he0 : e0 ≤ 1 := by have he0 := hIe.2.2.2.2.1; omega
        clear hLw hph
        refine lv_astore (lv' := [(7, .ref q28), (6, .int (iI k)), (5, .int (iI (ws.length : Int))), (4, .ref a), (3, .ref li), (2, .ref al), (0, .ref a), (1, .int (iI w))]) hx hb dL_linesOf_29 hl (by decide) rfl (fun ls hl => ?_)
        refine z_iconst hx hb dL_linesOf_31 ?_
        refine lv_istore (lv' := [(8, .int (iI 0)), (7, .ref q28), (6, .int (iI k)), (5, .int (iI (ws.length : Int))), (4, .ref a), (3, .ref li), (2, .ref al), (0, .ref a), (1, .int (iI w))]) hx hb dL_linesOf_32 hl (by decide) rfl (fun ls hl => ?_)
        have L34_k_9 : ∀ (fu : Nat) (fr : Int) (ee nn : Nat) (X1 : zF) (al av li lv_ : Nat) (S : List zWd) (L : zWd) (hfu : (2 * ((ws.getD k.toNat []).length - fr).toNat + (1 - ee)) < fu) (hi34_0 : 0 ≤ fr ∧ fr ≤ (ws.getD k.toNat []).length) (hle1 : zle X X1) (hsw : oSt cs X1 q28 vq28 (ws.getD k.toNat [])) (hsa : oSt cs X1 al av (zcode S)) (hsl : oSt cs X1 li lv_ L) (hee : ee ≤ 1) (hI : lsI w ws k fr ee nn S L ∨ (fr = (ws.getD k.toNat []).length ∧ ee = 1 ∧ lsO w ws (k + 1) S L)) (H : Heap) (locs : List Loc) (hW : zW3 D A s zE zE X1 H locs) (ls : Array Slot) (hl : lv_has ls 13 [(8, .int (iI fr)), (7, .ref q28), (6, .int (iI k)), (5, .int (iI (ws.length : Int))), (4, .ref a), (3, .ref li), (2, .ref al), (0, .ref a), (1, .int (iI w))]), W p l e (zR 18 1300 80000) s m [.ref a, .int (iI w)].toArray below meth c H locs (8 * zpos ws k.toNat + 32 * k.toNat + 8 * fr.toNat + 20 * ee) (600 * zpos ws k.toNat + 900 * k.toNat + 600 * fr.toNat + 1310 * ee) (MQ below (zQ D A (pR (fun r X1 => zle X X1 ∧ oStr cs X1 r (zLt w ws)))) [.ref a, .int (iI w)].toArray s 1300 80000 A) (F0 m 34 ls []) := by
          intro fu
          induction fu with
          | zero =>
            intro fr ee nn X1 al av li lv_ S L hfu
            exact absurd hfu (Nat.not_lt_zero _)
          | succ fu ih34 =>
            intro fr ee nn X1 al av li lv_ S L hfu hi34_0 hle1 hsw hsa hsl hee hI H locs hW ls hl
            refine lv_iload hx hb dL_linesOf_34 (lv_at hl 0 rfl) ?_
            refine lv_aload hx hb dL_linesOf_36 (lv_at hl 1 rfl) ?_
            refine z_cXi hC (z_frSt (rest := [.int (iI fr)]) (As := []) (n := 0) hC hW.x (mes_length l D cs (zfA X1 _) X1 q28 vq28 (ws.getD k.toNat []) hsw) gv_L_138 hd_J0_length_8abf5 hsw rfl hl rfl (Nat.le_of_ble_eq_true rfl) ⟨Nat.le_of_ble_eq_true rfl, Nat.le_of_ble_eq_true rfl⟩ ⟨(by show _ ≤ 1300; omega), (by show _ ≤ 80000; omega)⟩ dL_linesOf_38) hW (fun r38 X38 H locs hp38 hW => ?_)
            obtain ⟨rfl, rfl⟩ := hp38
            refine z_icmp_ge (tgt := 281) hx hb dL_linesOf_41 (by decide) (by omega) (by omega) (fun c_10 => ?_) (fun c_10 => ?_)
            · skip
              have hOk : lsO w ws (k + 1) S L := by
                rcases hI with z | ⟨-, -, z⟩
                · exact absurd z.1 (by omega)
                · exact z
              have hpk : zpos ws (k + 1).toNat = zpos ws k.toNat + (ws.getD k.toNat []).length + 1 := by rw [show (k + 1).toNat = k.toNat + 1 by omega]; exact hps
              refine z_iinc (lv' := [(6, .int (iI (k + 1))), (8, .int (iI fr)), (7, .ref q28), (5, .int (iI (ws.length : Int))), (4, .ref a), (3, .ref li), (2, .ref al), (0, .ref a), (1, .int (iI w))]) hx hb dL_linesOf_281 hl (k := 2) rfl (by decide) rfl (fun ls hl => ?_)
              refine lv_goto (tgt := 17) hx hb dL_linesOf_284 (by decide) ?_
              refine W.widen (k := (8 * zpos ws (k + 1).toNat + 32 * (k + 1).toNat)) (n := (600 * zpos ws (k + 1).toNat + 900 * (k + 1).toNat)) (by omega) (by omega) ?_
              exact ih17 (k + 1) X1 al av li lv_  S L (by omega) (by omega) hle1 hsa hsl hOk _ _ hW ls (lv_sub hl [0, 3, 4, 5, 6, 7, 8] rfl)
            · skip
              have hI := hI.resolve_right (fun z => by omega)
              have hI5 := hI.2.2.2.2.1
              have hI4 := hI.2.2.2.1
              have hI6 := hI.2.2.2.2.2
              have hLw2 : (L.length : Int) ≤ w := hI.2.2.1.2.2.2.2
              have hzu := zroom_u (w := w) (L := L) (by omega) hLw2
              refine lv_aload_n hx hb dL_linesOf_44 rfl (lv_at hl 5 rfl) ?_
              refine z_cXi hC (z_frSt (rest := []) (As := []) (n := 0) hC hW.x (mes_length l D cs (zfA X1 _) X1 li lv_ L hsl) gv_L_138 hd_J0_length_8abf5 hsl rfl hl rfl (Nat.le_of_ble_eq_true rfl) ⟨Nat.le_of_ble_eq_true rfl, Nat.le_of_ble_eq_true rfl⟩ ⟨(by show _ ≤ 1300; omega), (by show _ ≤ 80000; omega)⟩ dL_linesOf_45) hW (fun r45 X45 H locs hp45 hW => ?_)
              obtain ⟨rfl, rfl⟩ := hp45
              have J75_k_11 : ∀ (jc js : Nat) (X2 : zF) (sr sv : Nat) (ts : List Int) (hj75_0 : jc + 6 * ee ≤ 6) (hj75_1 : js + 129 * ee ≤ 129) (hj75_2 : ts.length ≤ L.length + 1) (hj75_3 : zroom w L = w - ts.length) (hjl : ∀ part, lnPut L part = ts ++ part) (hle2 : zle X X2) (hsw2 : oSt cs X2 q28 vq28 (ws.getD k.toNat [])) (hsa2 : oSt cs X2 al av (zcode S)) (hsl2 : oSt cs X2 li lv_ L) (hts : oSt cs X2 sr sv ts) (H : Heap) (locs : List Loc) (hW : zW3 D A s zE zE X2 H locs) (ls : Array Slot) (hl : lv_has ls 13 [(8, .int (iI fr)), (7, .ref q28), (6, .int (iI k)), (5, .int (iI (ws.length : Int))), (4, .ref a), (3, .ref li), (2, .ref al), (0, .ref a), (1, .int (iI w))]), W p l e (zR 18 1300 80000) s m [.ref a, .int (iI w)].toArray below meth c H locs ((8 * zpos ws k.toNat + 32 * k.toNat + 8 * fr.toNat + 20 * ee) + jc) ((600 * zpos ws k.toNat + 900 * k.toNat + 600 * fr.toNat + 1310 * ee) + js) (MQ below (zQ D A (pR (fun r X1 => zle X X1 ∧ oStr cs X1 r (zLt w ws)))) [.ref a, .int (iI w)].toArray s 1300 80000 A) (F0 m 75 ls [.ref sr]) := by
                intro jc js X2 sr sv ts hj75_0 hj75_1 hj75_2 hj75_3 hjl hle2 hsw2 hsa2 hsl2 hts H locs hW ls hl
                refine lv_astore (lv' := [(9, .ref sr), (8, .int (iI fr)), (7, .ref q28), (6, .int (iI k)), (5, .int (iI (ws.length : Int))), (4, .ref a), (3, .ref li), (2, .ref al), (0, .ref a), (1, .int (iI w))]) hx hb dL_linesOf_75 hl (by decide) rfl (fun ls hl => ?_)
                refine lv_iload_n hx hb dL_linesOf_77 rfl (lv_at hl 9 rfl) ?_
                refine lv_aload hx hb dL_linesOf_78 (lv_at hl 0 rfl) ?_
                refine z_cXi hC (z_frSt (rest := [.int (iI w)]) (As := []) (n := 0) hC hW.x (mes_length l D cs (zfA X2 _) X2 sr sv ts hts) gv_L_138 hd_J0_length_8abf5 hts rfl hl rfl (Nat.le_of_ble_eq_true rfl) ⟨Nat.le_of_ble_eq_true rfl, Nat.le_of_ble_eq_true rfl⟩ ⟨(by show _ ≤ 1300; omega), (by show _ ≤ 80000; omega)⟩ dL_linesOf_80) hW (fun r80 X80 H locs hp80 hW => ?_)
                obtain ⟨rfl, rfl⟩ := hp80
                refine z_isub hx hb dL_linesOf_83 ?_
                refine z_top (y := zroom w L) (by omega) ?_
                refine lv_istore (lv' := [(10, .int (iI (zroom w L))), (9, .ref sr), (8, .int (iI fr)), (7, .ref q28), (6, .int (iI k)), (5, .int (iI (ws.length : Int))), (4, .ref a), (3, .ref li), (2, .ref al), (0, .ref a), (1, .int (iI w))]) hx hb dL_linesOf_84 hl (by decide) rfl (fun ls hl => ?_)
                refine z_iconst hx hb dL_linesOf_86 ?_
                refine lv_istore (lv' := [(11, .int (iI 0)), (10, .int (iI (zroom w L))), (9, .ref sr), (8, .int (iI fr)), (7, .ref q28), (6, .int (iI k)), (5, .int (iI (ws.length : Int))), (4, .ref a), (3, .ref li), (2, .ref al), (0, .ref a), (1, .int (iI w))]) hx hb dL_linesOf_87 hl (by decide) rfl (fun ls hl => ?_)
                refine lv_iload hx hb dL_linesOf_89 (lv_at hl 3 rfl) ?_
                refine z_iconst hx hb dL_linesOf_91 ?_
                refine z_iadd hx hb dL_linesOf_92 ?_
                refine lv_istore (lv' := [(12, .int (iI (fr + 1))), (11, .int (iI 0)), (10, .int (iI (zroom w L))), (9, .ref sr), (8, .int (iI fr)), (7, .ref q28), (6, .int (iI k)), (5, .int (iI (ws.length : Int))), (4, .ref a), (3, .ref li), (2, .ref al), (0, .ref a), (1, .int (iI w))]) hx hb dL_linesOf_93 hl (by decide) rfl (fun ls hl => ?_)
                have L95_k_12 : ∀ (fu : Nat) (at_ ct : Int)  (hfu : ((ws.getD k.toNat []).length - at_).toNat < fu) (hi95_0 : fr + 1 ≤ at_ ∧ at_ ≤ (ws.getD k.toNat []).length) (hi95_1 : ct = (zcut (ws.getD k.toNat []) fr.toNat (zroom w L) (at_ - 1).toNat : Int)) (hi95_2 : 0 ≤ ct ∧ ct ≤ 12) (H : Heap) (locs : List Loc) (hW : zW3 D A s zE zE X2 H locs) (ls : Array Slot) (hl : lv_has ls 13 [(12, .int (iI at_)), (11, .int (iI ct)), (10, .int (iI (zroom w L))), (9, .ref sr), (8, .int (iI fr)), (7, .ref q28), (6, .int (iI k)), (5, .int (iI (ws.length : Int))), (4, .ref a), (3, .ref li), (2, .ref al), (0, .ref a), (1, .int (iI w))]), W p l e (zR 18 1300 80000) s m [.ref a, .int (iI w)].toArray below meth c H locs ((8 * zpos ws k.toNat + 32 * k.toNat + 8 * fr.toNat + 20 * ee) + jc) ((600 * zpos ws k.toNat + 900 * k.toNat + 600 * fr.toNat + 1310 * ee) + js) (MQ below (zQ D A (pR (fun r X1 => zle X X1 ∧ oStr cs X1 r (zLt w ws)))) [.ref a, .int (iI w)].toArray s 1300 80000 A) (F0 m 95 ls []) := by
                  intro fu
                  induction fu with
                  | zero =>
                    intro at_ ct  hfu
                    exact absurd hfu (Nat.not_lt_zero _)
                  | succ fu ih95 =>
                    intro at_ ct  hfu hi95_0 hi95_1 hi95_2  H locs hW ls hl
                    refine lv_iload hx hb dL_linesOf_95 (lv_at hl 0 rfl) ?_
                    refine lv_aload hx hb dL_linesOf_97 (lv_at hl 5 rfl) ?_
                    refine z_cXi hC (z_frSt (rest := [.int (iI at_)]) (As := []) (n := 0) hC hW.x (mes_length l D cs (zfA X2 _) X2 q28 vq28 (ws.getD k.toNat []) hsw2) gv_L_138 hd_J0_length_8abf5 hsw2 rfl hl rfl (Nat.le_of_ble_eq_true rfl) ⟨Nat.le_of_ble_eq_true rfl, Nat.le_of_ble_eq_true rfl⟩ ⟨(by show _ ≤ 1300; omega), (by show _ ≤ 80000; omega)⟩ dL_linesOf_99) hW (fun r99 X99 H locs hp99 hW => ?_)
                    obtain ⟨rfl, rfl⟩ := hp99
                    refine z_icmp_ge (tgt := 140) hx hb dL_linesOf_102 (by decide) (by omega) (by omega) (fun c_13 => ?_) (fun c_13 => ?_)
                    · skip
                      refine lv_aload hx hb dL_linesOf_140 (lv_at hl 5 rfl) ?_
                      refine z_cXi hC (z_frSt (rest := []) (As := []) (n := 0) hC hW.x (mes_length l D cs (zfA X2 _) X2 q28 vq28 (ws.getD k.toNat []) hsw2) gv_L_138 hd_J0_length_8abf5 hsw2 rfl hl rfl (Nat.le_of_ble_eq_true rfl) ⟨Nat.le_of_ble_eq_true rfl, Nat.le_of_ble_eq_true rfl⟩ ⟨(by show _ ≤ 1300; omega), (by show _ ≤ 80000; omega)⟩ dL_linesOf_142) hW (fun r142 X142 H locs hp142 hW => ?_)
                      obtain ⟨rfl, rfl⟩ := hp142
                      refine lv_iload hx hb dL_linesOf_145 (lv_at hl 4 rfl) ?_
                      refine z_isub hx hb dL_linesOf_147 ?_
                      refine lv_iload hx hb dL_linesOf_148 (lv_at hl 2 rfl) ?_
                      refine z_icmp_gt (tgt := 189) hx hb dL_linesOf_150 (by decide) (by omega) (by omega) (fun c_14 => ?_) (fun c_14 => ?_)
                      · skip
                        have hcz : ct.toNat = zcut (ws.getD k.toNat []) fr.toNat (zroom w L) ((ws.getD k.toNat []).length - 1) := by rw [hi95_1, show (at_ - 1).toNat = (ws.getD k.toNat []).length - 1 by omega]; exact Int.toNat_natCast _
                        clear hi95_1
                        refine lv_iload hx hb dL_linesOf_189 (lv_at hl 1 rfl) ?_
                        refine z_if_le (tgt := 241) hx hb dL_linesOf_191 (by decide) (by omega) (fun c_15 => ?_) (fun c_15 => ?_)
                        · skip
                          refine lv_aload_n hx hb dL_linesOf_241 rfl (lv_at hl 9 rfl) ?_
                          refine z_cXi hC (z_frSt (rest := []) (As := []) (n := 0) hC hW.x (mes_length l D cs (zfA X2 _) X2 li lv_ L hsl2) gv_L_138 hd_J0_length_8abf5 hsl2 rfl hl rfl (Nat.le_of_ble_eq_true rfl) ⟨Nat.le_of_ble_eq_true rfl, Nat.le_of_ble_eq_true rfl⟩ ⟨(by show _ ≤ 1300; omega), (by show _ ≤ 80000; omega)⟩ dL_linesOf_242) hW (fun r242 X242 H locs hp242 hW => ?_)
                          obtain ⟨rfl, rfl⟩ := hp242
                          refine z_if_ne (tgt := 251) hx hb dL_linesOf_245 (by decide) (by omega) (fun c_16 => ?_) (fun c_16 => ?_)
                          · skip
                            have hL1 : L ≠ [] := fun z => by have z8 : L.length = 0 := by rw [z]; rfl
                                                             omega
                            have hIc := ls_clr hw hi17_0.1 (by omega) hi34_0.1 hI (by omega) (by omega) hL1
                            refine z_new (T := TJ4) (N := 4) (ci := 1) hC hW.all tyJ4 tyJ4_ok in_J4 rfl qk_L_162 qx_J4 qn_J4 [.null, .int (iI 0), .int (iI 0), .int (iI 0)] df_J4 (by show _ ≤ 1300; omega) (by show _ ≤ 80000; omega) dL_linesOf_251 (fun b251 H hb251 hZ => ?_)
                            have hW := hW.nB hb251.1 hZ
                            refine lv_dup hx hb dL_linesOf_254 rfl ?_
                            refine z_cBv hC (z_frI (rest := [.ref b251]) (As := []) (n := 0) hC hW.b (met_J4_init_da8c8 l D cs (zfA (zup zE b251 (.inr (1, [.null, .int (iI 0), .int (iI 0), .int (iI 0)]))) _) (zup zE b251 (.inr (1, [.null, .int (iI 0), .int (iI 0), .int (iI 0)]))) b251 zup_s) qc_J4_init_da8c8 qn_J4 qm_L_164 qi_J4_init_da8c8 rfl he_J4_init_da8c8 rfl hl rfl (Nat.le_of_ble_eq_true rfl) ⟨Nat.le_of_ble_eq_true rfl, Nat.le_of_ble_eq_true rfl⟩ ⟨(by show _ ≤ 1300; omega), (by show _ ≤ 80000; omega)⟩ dL_linesOf_255) hW (fun B255 H locs hp255 hW => ?_)
                            obtain ⟨va255, -, -, hb255⟩ := hp255
                            have hnil : ([] : List Int).length = 0 := rfl
                            refine W.widen (k := ((8 * zpos ws k.toNat + 32 * k.toNat + 8 * fr.toNat + 20 * ee) + jc) + 2) (n := ((600 * zpos ws k.toNat + 900 * k.toNat + 600 * fr.toNat + 1310 * ee) + js) + 20) (by omega) (by omega) ?_
                            refine lv_aload_n hx hb dL_linesOf_258 rfl (lv_at hl 10 rfl) ?_
                            have hcc259 := oSB.c hb255
                            have hgx259 := grx_le 16 (([] : List Int).length + (zcode S).length)
                            have hmc259 := mcS_le (cap := 16) (n := (([] : List Int).length + (zcode S).length))
                            obtain ⟨fs259, ho259⟩ := (oSB.mono hb255 zun_le1).o
                            refine z_cAp hC (z_frV (rest := []) (As := [.ref al]) (n := 1) (ci := 1) hC hW.bx (mes_append l D cs (zfA (zun B255 X2) _) (zun B255 X2) b251 va255 16 ([] : List Int) al av (zcode S) (oSB.mono hb255 zun_le1) (oSt.mono hsa2 (zun_le2 hW.dbx)) (by omega)) gv_L_165 hd_J4_append_15ec4 rfl ho259 rfl hl rfl (Nat.le_of_ble_eq_true rfl) ⟨Nat.le_of_ble_eq_true rfl, Nat.le_of_ble_eq_true rfl⟩ ⟨(by show _ ≤ 1300; omega), (by show _ ≤ 80000; omega)⟩ dL_linesOf_259) hW hb255 (fun B259 va259 H locs hb259 hW => ?_)
                            obtain ⟨ca259, hca259⟩ : ∃ c_ : Nat, c_ = grx 16 (([] : List Int).length + (zcode S).length) := ⟨_, rfl⟩
                            rw [← hca259] at hb259 hgx259
                            refine W.widen (k := ((8 * zpos ws k.toNat + 32 * k.toNat + 8 * fr.toNat + 20 * ee) + jc) + 3) (n := ((600 * zpos ws k.toNat + 900 * k.toNat + 600 * fr.toNat + 1310 * ee) + js) + (20 + 2 * (ca259 - 16))) (by omega) (by omega) ?_
                            have hgb259 : 16 ≤ ca259 ∧ ca259 ≤ 2 * (([] : List Int).length + (zcode S).length) + 16 := by omega
                            clear hgx259 hmc259 hcc259 hca259
                            have hlen259 : (([] : List Int) ++ (zcode S)).length = (([] : List Int).length + (zcode S).length) := List.length_append
                            refine lv_aload_n hx hb dL_linesOf_262 rfl (lv_at hl 9 rfl) ?_
                            have hcc263 := oSB.c hb259
                            have hgx263 := grx_le ca259 ((([] : List Int) ++ (zcode S)).length + L.length)
                            have hmc263 := mcS_le (cap := ca259) (n := ((([] : List Int) ++ (zcode S)).length + L.length))
                            obtain ⟨fs263, ho263⟩ := (oSB.mono hb259 zun_le1).o
                            refine z_cAp hC (z_frV (rest := []) (As := [.ref li]) (n := 1) (ci := 1) hC hW.bx (mes_append l D cs (zfA (zun B259 X2) _) (zun B259 X2) b251 va259 ca259 (([] : List Int) ++ (zcode S)) li lv_ L (oSB.mono hb259 zun_le1) (oSt.mono hsl2 (zun_le2 hW.dbx)) (by omega)) gv_L_165 hd_J4_append_15ec4 rfl ho263 rfl hl rfl (Nat.le_of_ble_eq_true rfl) ⟨Nat.le_of_ble_eq_true rfl, Nat.le_of_ble_eq_true rfl⟩ ⟨(by show _ ≤ 1300; omega), (by show _ ≤ 80000; omega)⟩ dL_linesOf_263) hW hb259 (fun B263 va263 H locs hb263 hW => ?_)
                            obtain ⟨ca263, hca263⟩ : ∃ c_ : Nat, c_ = grx ca259 ((([] : List Int) ++ (zcode S)).length + L.length) := ⟨_, rfl⟩
                            rw [← hca263] at hb263 hgx263
                            refine W.widen (k := ((8 * zpos ws k.toNat + 32 * k.toNat + 8 * fr.toNat + 20 * ee) + jc) + 4) (n := ((600 * zpos ws k.toNat + 900 * k.toNat + 600 * fr.toNat + 1310 * ee) + js) + (20 + 2 * (ca263 - 16))) (by omega) (by omega) ?_
                            have hgb263 : 16 ≤ ca263 ∧ ca263 ≤ 2 * ((([] : List Int) ++ (zcode S)).length + L.length) + 16 := by omega
                            clear hgx263 hmc263 hcc263 hca263
                            have hlen263 : ((([] : List Int) ++ (zcode S)) ++ L).length = ((([] : List Int) ++ (zcode S)).length + L.length) := List.length_append
                            refine z_ldcS1 hC (List.mem_of_getElem? (i := 7) rfl) dL_linesOf_266 ?_
                            have hcc268 := oSB.c hb263
                            have hgx268 := grx_le ca263 (((([] : List Int) ++ (zcode S)) ++ L).length + (zLw 7).length)
                            have hmc268 := mcS_le (cap := ca263) (n := (((([] : List Int) ++ (zcode S)) ++ L).length + (zLw 7).length))
                            obtain ⟨fs268, ho268⟩ := (oSB.mono hb263 zun_le1).o
                            refine z_cAp hC (z_frV (rest := []) (As := [.ref (cs (50 + 7))]) (n := 1) (ci := 1) hC hW.bx (mes_append l D cs (zfA (zun B263 X2) _) (zun B263 X2) b251 va263 ca263 ((([] : List Int) ++ (zcode S)) ++ L) (cs (50 + 7)) (cs (70 + 7)) (zLw 7) (oSB.mono hb263 zun_le1) (oSt.mono (zLw_st (j := 7) (by decide)) (zun_le2 hW.dbx)) (by omega)) gv_L_165 hd_J4_append_15ec4 rfl ho268 rfl hl rfl (Nat.le_of_ble_eq_true rfl) ⟨Nat.le_of_ble_eq_true rfl, Nat.le_of_ble_eq_true rfl⟩ ⟨(by show _ ≤ 1300; omega), (by show _ ≤ 80000; omega)⟩ dL_linesOf_268) hW hb263 (fun B268 va268 H locs hb268 hW => ?_)
                            obtain ⟨ca268, hca268⟩ : ∃ c_ : Nat, c_ = grx ca263 (((([] : List Int) ++ (zcode S)) ++ L).length + (zLw 7).length) := ⟨_, rfl⟩
                            rw [← hca268] at hb268 hgx268
                            refine W.widen (k := ((8 * zpos ws k.toNat + 32 * k.toNat + 8 * fr.toNat + 20 * ee) + jc) + 5) (n := ((600 * zpos ws k.toNat + 900 * k.toNat + 600 * fr.toNat + 1310 * ee) + js) + (20 + 2 * (ca268 - 16))) (by omega) (by omega) ?_
                            have hgb268 : 16 ≤ ca268 ∧ ca268 ≤ 2 * (((([] : List Int) ++ (zcode S)) ++ L).length + (zLw 7).length) + 16 := by omega
                            clear hgx268 hmc268 hcc268 hca268
                            have hlen268 : (((([] : List Int) ++ (zcode S)) ++ L) ++ (zLw 7)).length = (((([] : List Int) ++ (zcode S)) ++ L).length + (zLw 7).length) := List.length_append
                            obtain ⟨fs271, ho271⟩ := (oSB.mono hb268 zun_le1).o
                            refine z_cTs hC (z_frV (rest := []) (As := []) (n := 0) (ci := 1) hC hW.bx (mes_toString l D cs (zfA (zun B268 X2) _) (zun B268 X2) b251 va268 ca268 (((([] : List Int) ++ (zcode S)) ++ L) ++ (zLw 7)) (oSB.mono hb268 zun_le1) (by omega)) gv_L_174 hd_J4_toString_0e30d rfl ho271 rfl hl rfl (Nat.le_of_ble_eq_true rfl) ⟨Nat.le_of_ble_eq_true rfl, Nat.le_of_ble_eq_true rfl⟩ ⟨(by show _ ≤ 1300; omega), (by show _ ≤ 80000; omega)⟩ dL_linesOf_271) hW hb268 (fun r271 v271 X271 H locs hl271 hq271 hh271 hW => ?_)
                            have hs_17 : oSt cs X271 al av (zcode S) := hsa2.mono hl271
                            have hs_18 : oSt cs X271 li lv_ L := hsl2.mono hl271
                            have hs_19 : oSt cs X271 q28 vq28 (ws.getD k.toNat []) := hsw2.mono hl271
                            have hs_20 : oSt cs X271 sr sv ts := hts.mono hl271
                            have hs_21 := (hA.mono hle2).mono hl271
                            have hle_22 : zle X X271 := hle2.trans hl271
                            have hq271 : oSt cs X271 r271 v271 (zcode (S ++ [L])) := (by rw [zcode_snoc, ← List.append_assoc]; exact hq271)
                            refine lv_astore_n (lv' := [(2, .ref r271), (12, .int (iI at_)), (11, .int (iI ct)), (10, .int (iI (zroom w L))), (9, .ref sr), (8, .int (iI fr)), (7, .ref q28), (6, .int (iI k)), (5, .int (iI (ws.length : Int))), (4, .ref a), (3, .ref li), (0, .ref a), (1, .int (iI w))]) hx hb dL_linesOf_274 rfl hl (by decide) rfl (fun ls hl => ?_)
                            refine z_ldcS1 hC (List.mem_of_getElem? (i := 0) rfl) dL_linesOf_275 ?_
                            refine lv_astore_n (lv' := [(3, .ref (cs (50 + 0))), (2, .ref r271), (12, .int (iI at_)), (11, .int (iI ct)), (10, .int (iI (zroom w L))), (9, .ref sr), (8, .int (iI fr)), (7, .ref q28), (6, .int (iI k)), (5, .int (iI (ws.length : Int))), (4, .ref a), (0, .ref a), (1, .int (iI w))]) hx hb dL_linesOf_277 rfl hl (by decide) rfl (fun ls hl => ?_)
                            refine lv_goto (tgt := 34) hx hb dL_linesOf_278 (by decide) ?_
                            refine W.widen (k := (8 * zpos ws k.toNat + 32 * k.toNat + 8 * fr.toNat + 20 * (1 + 0))) (n := (600 * zpos ws k.toNat + 900 * k.toNat + 600 * fr.toNat + 1310 * (1 + 0))) (by omega) (by omega) ?_
                            exact ih34 fr (1 + 0) (nn - 1) X271 r271 v271 (cs (50 + 0)) (cs (70 + 0))  (S ++ [L]) [] (by omega) (by omega) hle_22 hs_19 hq271 (zLw_st (j := 0) (by decide)) (by omega) (Or.inl hIc.1) _ _ hW ls (lv_sub hl [6, 7, 8, 9, 10, 0, 1, 11, 12] rfl)
                          · skip
                            have hL0 : L = [] := List.eq_nil_of_length_eq_zero (by omega)
                            refine z_ldcS1 hC (List.mem_of_getElem? (i := 0) rfl) dL_linesOf_248 ?_
                            exact z_aret hC hr (Or.inl ⟨_, rfl⟩) hlk hW.x (by omega) (by omega) (⟨hle2, _, by rw [ls_no hi34_0.1 hI (by omega) (by omega) hL0]; exact zLw_st (j := 0) (by decide)⟩) dL_linesOf_250
                        · skip
                          obtain ⟨hIn, hc2, hcl, -⟩ := ls_cut hw hi17_0.1 (by omega) hi34_0.1 hI (by omega) hcz (by omega)
                          refine z_new (T := TJ4) (N := 4) (ci := 1) hC hW.all tyJ4 tyJ4_ok in_J4 rfl qk_L_162 qx_J4 qn_J4 [.null, .int (iI 0), .int (iI 0), .int (iI 0)] df_J4 (by show _ ≤ 1300; omega) (by show _ ≤ 80000; omega) dL_linesOf_194 (fun b194 H hb194 hZ => ?_)
                          have hW := hW.nB hb194.1 hZ
                          refine lv_dup hx hb dL_linesOf_197 rfl ?_
                          refine z_cBv hC (z_frI (rest := [.ref b194]) (As := []) (n := 0) hC hW.b (met_J4_init_da8c8 l D cs (zfA (zup zE b194 (.inr (1, [.null, .int (iI 0), .int (iI 0), .int (iI 0)]))) _) (zup zE b194 (.inr (1, [.null, .int (iI 0), .int (iI 0), .int (iI 0)]))) b194 zup_s) qc_J4_init_da8c8 qn_J4 qm_L_164 qi_J4_init_da8c8 rfl he_J4_init_da8c8 rfl hl rfl (Nat.le_of_ble_eq_true rfl) ⟨Nat.le_of_ble_eq_true rfl, Nat.le_of_ble_eq_true rfl⟩ ⟨(by show _ ≤ 1300; omega), (by show _ ≤ 80000; omega)⟩ dL_linesOf_198) hW (fun B198 H locs hp198 hW => ?_)
                          obtain ⟨va198, -, -, hb198⟩ := hp198
                          have hnil : ([] : List Int).length = 0 := rfl
                          refine W.widen (k := ((8 * zpos ws k.toNat + 32 * k.toNat + 8 * fr.toNat + 20 * ee) + jc) + 2) (n := ((600 * zpos ws k.toNat + 900 * k.toNat + 600 * fr.toNat + 1310 * ee) + js) + 20) (by omega) (by omega) ?_
                          refine lv_aload_n hx hb dL_linesOf_201 rfl (lv_at hl 10 rfl) ?_
                          have hcc202 := oSB.c hb198
                          have hgx202 := grx_le 16 (([] : List Int).length + (zcode S).length)
                          have hmc202 := mcS_le (cap := 16) (n := (([] : List Int).length + (zcode S).length))
                          obtain ⟨fs202, ho202⟩ := (oSB.mono hb198 zun_le1).o
                          refine z_cAp hC (z_frV (rest := []) (As := [.ref al]) (n := 1) (ci := 1) hC hW.bx (mes_append l D cs (zfA (zun B198 X2) _) (zun B198 X2) b194 va198 16 ([] : List Int) al av (zcode S) (oSB.mono hb198 zun_le1) (oSt.mono hsa2 (zun_le2 hW.dbx)) (by omega)) gv_L_165 hd_J4_append_15ec4 rfl ho202 rfl hl rfl (Nat.le_of_ble_eq_true rfl) ⟨Nat.le_of_ble_eq_true rfl, Nat.le_of_ble_eq_true rfl⟩ ⟨(by show _ ≤ 1300; omega), (by show _ ≤ 80000; omega)⟩ dL_linesOf_202) hW hb198 (fun B202 va202 H locs hb202 hW => ?_)
                          obtain ⟨ca202, hca202⟩ : ∃ c_ : Nat, c_ = grx 16 (([] : List Int).length + (zcode S).length) := ⟨_, rfl⟩
                          rw [← hca202] at hb202 hgx202
                          refine W.widen (k := ((8 * zpos ws k.toNat + 32 * k.toNat + 8 * fr.toNat + 20 * ee) + jc) + 3) (n := ((600 * zpos ws k.toNat + 900 * k.toNat + 600 * fr.toNat + 1310 * ee) + js) + (20 + 2 * (ca202 - 16))) (by omega) (by omega) ?_
                          have hgb202 : 16 ≤ ca202 ∧ ca202 ≤ 2 * (([] : List Int).length + (zcode S).length) + 16 := by omega
                          clear hgx202 hmc202 hcc202 hca202
                          have hlen202 : (([] : List Int) ++ (zcode S)).length = (([] : List Int).length + (zcode S).length) := List.length_append
                          refine lv_aload hx hb dL_linesOf_205 (lv_at hl 3 rfl) ?_
                          have hcc207 := oSB.c hb202
                          have hgx207 := grx_le ca202 ((([] : List Int) ++ (zcode S)).length + ts.length)
                          have hmc207 := mcS_le (cap := ca202) (n := ((([] : List Int) ++ (zcode S)).length + ts.length))
                          obtain ⟨fs207, ho207⟩ := (oSB.mono hb202 zun_le1).o
                          refine z_cAp hC (z_frV (rest := []) (As := [.ref sr]) (n := 1) (ci := 1) hC hW.bx (mes_append l D cs (zfA (zun B202 X2) _) (zun B202 X2) b194 va202 ca202 (([] : List Int) ++ (zcode S)) sr sv ts (oSB.mono hb202 zun_le1) (oSt.mono hts (zun_le2 hW.dbx)) (by omega)) gv_L_165 hd_J4_append_15ec4 rfl ho207 rfl hl rfl (Nat.le_of_ble_eq_true rfl) ⟨Nat.le_of_ble_eq_true rfl, Nat.le_of_ble_eq_true rfl⟩ ⟨(by show _ ≤ 1300; omega), (by show _ ≤ 80000; omega)⟩ dL_linesOf_207) hW hb202 (fun B207 va207 H locs hb207 hW => ?_)
                          obtain ⟨ca207, hca207⟩ : ∃ c_ : Nat, c_ = grx ca202 ((([] : List Int) ++ (zcode S)).length + ts.length) := ⟨_, rfl⟩
                          rw [← hca207] at hb207 hgx207
                          refine W.widen (k := ((8 * zpos ws k.toNat + 32 * k.toNat + 8 * fr.toNat + 20 * ee) + jc) + 4) (n := ((600 * zpos ws k.toNat + 900 * k.toNat + 600 * fr.toNat + 1310 * ee) + js) + (20 + 2 * (ca207 - 16))) (by omega) (by omega) ?_
                          have hgb207 : 16 ≤ ca207 ∧ ca207 ≤ 2 * ((([] : List Int) ++ (zcode S)).length + ts.length) + 16 := by omega
                          clear hgx207 hmc207 hcc207 hca207
                          have hlen207 : ((([] : List Int) ++ (zcode S)) ++ ts).length = ((([] : List Int) ++ (zcode S)).length + ts.length) := List.length_append
                          refine lv_aload hx hb dL_linesOf_210 (lv_at hl 5 rfl) ?_
                          refine lv_iload hx hb dL_linesOf_212 (lv_at hl 4 rfl) ?_
                          refine lv_iload hx hb dL_linesOf_214 (lv_at hl 1 rfl) ?_
                          refine z_cXr hC (z_frSt (rest := [.ref b194]) (As := [.int (iI fr), .int (iI ct)]) (n := 2) hC hW.x (mes_substring2 l D cs (zfA X2 _) X2 q28 vq28 (ws.getD k.toNat []) fr ct (ct.toNat - fr.toNat) hsw2 (by omega)) gv_L_233 hd_J0_substring_37a41 hsw2 rfl hl rfl (Nat.le_of_ble_eq_true rfl) ⟨Nat.le_of_ble_eq_true rfl, Nat.le_of_ble_eq_true rfl⟩ ⟨(by show _ ≤ 1300; omega), (by show _ ≤ 80000; omega)⟩ dL_linesOf_216) hW (fun r216 X216 H locs hp216 hW => ?_)
                          obtain ⟨hl216, v216, hq216⟩ := hp216
                          have hs_23 : oSt cs X216 al av (zcode S) := hsa2.mono hl216
                          have hs_24 : oSt cs X216 li lv_ L := hsl2.mono hl216
                          have hs_25 : oSt cs X216 q28 vq28 (ws.getD k.toNat []) := hsw2.mono hl216
                          have hs_26 : oSt cs X216 sr sv ts := hts.mono hl216
                          have hs_27 := (hA.mono hle2).mono hl216
                          have hle_28 : zle X X216 := hle2.trans hl216
                          have hlp2 : (((ws.getD k.toNat []).drop fr.toNat).take (ct.toNat - fr.toNat)).length = ct.toNat - fr.toNat := by rw [List.length_take, List.length_drop]; omega
                          have hcc219 := oSB.c hb207
                          have hgx219 := grx_le ca207 (((([] : List Int) ++ (zcode S)) ++ ts).length + (((ws.getD k.toNat []).drop fr.toNat).take (ct.toNat - fr.toNat)).length)
                          have hmc219 := mcS_le (cap := ca207) (n := (((([] : List Int) ++ (zcode S)) ++ ts).length + (((ws.getD k.toNat []).drop fr.toNat).take (ct.toNat - fr.toNat)).length))
                          obtain ⟨fs219, ho219⟩ := (oSB.mono hb207 zun_le1).o
                          refine z_cAp hC (z_frV (rest := []) (As := [.ref r216]) (n := 1) (ci := 1) hC hW.bx (mes_append l D cs (zfA (zun B207 X216) _) (zun B207 X216) b194 va207 ca207 ((([] : List Int) ++ (zcode S)) ++ ts) r216 v216 (((ws.getD k.toNat []).drop fr.toNat).take (ct.toNat - fr.toNat)) (oSB.mono hb207 zun_le1) (oSt.mono hq216 (zun_le2 hW.dbx)) (by omega)) gv_L_165 hd_J4_append_15ec4 rfl ho219 rfl hl rfl (Nat.le_of_ble_eq_true rfl) ⟨Nat.le_of_ble_eq_true rfl, Nat.le_of_ble_eq_true rfl⟩ ⟨(by show _ ≤ 1300; omega), (by show _ ≤ 80000; omega)⟩ dL_linesOf_219) hW hb207 (fun B219 va219 H locs hb219 hW => ?_)
                          obtain ⟨ca219, hca219⟩ : ∃ c_ : Nat, c_ = grx ca207 (((([] : List Int) ++ (zcode S)) ++ ts).length + (((ws.getD k.toNat []).drop fr.toNat).take (ct.toNat - fr.toNat)).length) := ⟨_, rfl⟩
                          rw [← hca219] at hb219 hgx219
                          refine W.widen (k := ((8 * zpos ws k.toNat + 32 * k.toNat + 8 * fr.toNat + 20 * ee) + jc) + 2 + 5) (n := ((600 * zpos ws k.toNat + 900 * k.toNat + 600 * fr.toNat + 1310 * ee) + js) + (4 + (ct.toNat - fr.toNat)) + (20 + 2 * (ca219 - 16))) (by omega) (by omega) ?_
                          have hgb219 : 16 ≤ ca219 ∧ ca219 ≤ 2 * (((([] : List Int) ++ (zcode S)) ++ ts).length + (((ws.getD k.toNat []).drop fr.toNat).take (ct.toNat - fr.toNat)).length) + 16 := by omega
                          clear hgx219 hmc219 hcc219 hca219
                          have hlen219 : (((([] : List Int) ++ (zcode S)) ++ ts) ++ (((ws.getD k.toNat []).drop fr.toNat).take (ct.toNat - fr.toNat))).length = (((([] : List Int) ++ (zcode S)) ++ ts).length + (((ws.getD k.toNat []).drop fr.toNat).take (ct.toNat - fr.toNat)).length) := List.length_append
                          refine z_ldcS1 hC (List.mem_of_getElem? (i := 6) rfl) dL_linesOf_222 ?_
                          have hcc224 := oSB.c hb219
                          have hgx224 := grx_le ca219 ((((([] : List Int) ++ (zcode S)) ++ ts) ++ (((ws.getD k.toNat []).drop fr.toNat).take (ct.toNat - fr.toNat))).length + (zLw 6).length)
                          have hmc224 := mcS_le (cap := ca219) (n := ((((([] : List Int) ++ (zcode S)) ++ ts) ++ (((ws.getD k.toNat []).drop fr.toNat).take (ct.toNat - fr.toNat))).length + (zLw 6).length))
                          obtain ⟨fs224, ho224⟩ := (oSB.mono hb219 zun_le1).o
                          refine z_cAp hC (z_frV (rest := []) (As := [.ref (cs (50 + 6))]) (n := 1) (ci := 1) hC hW.bx (mes_append l D cs (zfA (zun B219 X216) _) (zun B219 X216) b194 va219 ca219 (((([] : List Int) ++ (zcode S)) ++ ts) ++ (((ws.getD k.toNat []).drop fr.toNat).take (ct.toNat - fr.toNat))) (cs (50 + 6)) (cs (70 + 6)) (zLw 6) (oSB.mono hb219 zun_le1) (oSt.mono (zLw_st (j := 6) (by decide)) (zun_le2 hW.dbx)) (by omega)) gv_L_165 hd_J4_append_15ec4 rfl ho224 rfl hl rfl (Nat.le_of_ble_eq_true rfl) ⟨Nat.le_of_ble_eq_true rfl, Nat.le_of_ble_eq_true rfl⟩ ⟨(by show _ ≤ 1300; omega), (by show _ ≤ 80000; omega)⟩ dL_linesOf_224) hW hb219 (fun B224 va224 H locs hb224 hW => ?_)
                          obtain ⟨ca224, hca224⟩ : ∃ c_ : Nat, c_ = grx ca219 ((((([] : List Int) ++ (zcode S)) ++ ts) ++ (((ws.getD k.toNat []).drop fr.toNat).take (ct.toNat - fr.toNat))).length + (zLw 6).length) := ⟨_, rfl⟩
                          rw [← hca224] at hb224 hgx224
                          refine W.widen (k := ((8 * zpos ws k.toNat + 32 * k.toNat + 8 * fr.toNat + 20 * ee) + jc) + 2 + 6) (n := ((600 * zpos ws k.toNat + 900 * k.toNat + 600 * fr.toNat + 1310 * ee) + js) + (4 + (ct.toNat - fr.toNat)) + (20 + 2 * (ca224 - 16))) (by omega) (by omega) ?_
                          have hgb224 : 16 ≤ ca224 ∧ ca224 ≤ 2 * ((((([] : List Int) ++ (zcode S)) ++ ts) ++ (((ws.getD k.toNat []).drop fr.toNat).take (ct.toNat - fr.toNat))).length + (zLw 6).length) + 16 := by omega
                          clear hgx224 hmc224 hcc224 hca224
                          have hlen224 : ((((([] : List Int) ++ (zcode S)) ++ ts) ++ (((ws.getD k.toNat []).drop fr.toNat).take (ct.toNat - fr.toNat))) ++ (zLw 6)).length = ((((([] : List Int) ++ (zcode S)) ++ ts) ++ (((ws.getD k.toNat []).drop fr.toNat).take (ct.toNat - fr.toNat))).length + (zLw 6).length) := List.length_append
                          obtain ⟨fs227, ho227⟩ := (oSB.mono hb224 zun_le1).o
                          refine z_cTs hC (z_frV (rest := []) (As := []) (n := 0) (ci := 1) hC hW.bx (mes_toString l D cs (zfA (zun B224 X216) _) (zun B224 X216) b194 va224 ca224 ((((([] : List Int) ++ (zcode S)) ++ ts) ++ (((ws.getD k.toNat []).drop fr.toNat).take (ct.toNat - fr.toNat))) ++ (zLw 6)) (oSB.mono hb224 zun_le1) (by omega)) gv_L_174 hd_J4_toString_0e30d rfl ho227 rfl hl rfl (Nat.le_of_ble_eq_true rfl) ⟨Nat.le_of_ble_eq_true rfl, Nat.le_of_ble_eq_true rfl⟩ ⟨(by show _ ≤ 1300; omega), (by show _ ≤ 80000; omega)⟩ dL_linesOf_227) hW hb224 (fun r227 v227 X227 H locs hl227 hq227 hh227 hW => ?_)
                          have hs_29 : oSt cs X227 al av (zcode S) := hs_23.mono hl227
                          have hs_30 : oSt cs X227 li lv_ L := hs_24.mono hl227
                          have hs_31 : oSt cs X227 q28 vq28 (ws.getD k.toNat []) := hs_25.mono hl227
                          have hs_32 : oSt cs X227 sr sv ts := hs_26.mono hl227
                          have hs_33 : oSt cs X227 r216 v216 (((ws.getD k.toNat []).drop fr.toNat).take (ct.toNat - fr.toNat)) := hq216.mono hl227
                          have hs_34 := hs_27.mono hl227
                          have hle_35 : zle X X227 := hle_28.trans hl227
                          have hq227 : oSt cs X227 r227 v227 (zcode (S ++ [lnPut L (((ws.getD k.toNat []).drop fr.toNat).take (ct.toNat - fr.toNat)) ++ [45]])) := (by have z9 := hq227; rw [zcode_snoc, hjl, app4]; exact z9)
                          refine lv_astore_n (lv' := [(2, .ref r227), (12, .int (iI at_)), (11, .int (iI ct)), (10, .int (iI (zroom w L))), (9, .ref sr), (8, .int (iI fr)), (7, .ref q28), (6, .int (iI k)), (5, .int (iI (ws.length : Int))), (4, .ref a), (3, .ref li), (0, .ref a), (1, .int (iI w))]) hx hb dL_linesOf_230 rfl hl (by decide) rfl (fun ls hl => ?_)
                          refine z_ldcS1 hC (List.mem_of_getElem? (i := 0) rfl) dL_linesOf_231 ?_
                          refine lv_astore_n (lv' := [(3, .ref (cs (50 + 0))), (2, .ref r227), (12, .int (iI at_)), (11, .int (iI ct)), (10, .int (iI (zroom w L))), (9, .ref sr), (8, .int (iI fr)), (7, .ref q28), (6, .int (iI k)), (5, .int (iI (ws.length : Int))), (4, .ref a), (0, .ref a), (1, .int (iI w))]) hx hb dL_linesOf_233 rfl hl (by decide) rfl (fun ls hl => ?_)
                          refine lv_iload hx hb dL_linesOf_234 (lv_at hl 3 rfl) ?_
                          refine lv_istore (lv' := [(8, .int (iI ct)), (3, .ref (cs (50 + 0))), (2, .ref r227), (12, .int (iI at_)), (11, .int (iI ct)), (10, .int (iI (zroom w L))), (9, .ref sr), (7, .ref q28), (6, .int (iI k)), (5, .int (iI (ws.length : Int))), (4, .ref a), (0, .ref a), (1, .int (iI w))]) hx hb dL_linesOf_236 hl (by decide) rfl (fun ls hl => ?_)
                          refine lv_goto (tgt := 278) hx hb dL_linesOf_238 (by decide) ?_
                          refine lv_goto (tgt := 34) hx hb dL_linesOf_278 (by decide) ?_
                          refine W.widen (k := (8 * zpos ws k.toNat + 32 * k.toNat + 8 * ct.toNat + 20 * (1 + 0))) (n := (600 * zpos ws k.toNat + 900 * k.toNat + 600 * ct.toNat + 1310 * (1 + 0))) (by omega) (by omega) ?_
                          exact ih34 ct (1 + 0) (nn - 1) X227 r227 v227 (cs (50 + 0)) (cs (70 + 0))  (S ++ [lnPut L (((ws.getD k.toNat []).drop fr.toNat).take (ct.toNat - fr.toNat)) ++ [45]]) [] (by omega) (by omega) hle_35 hs_31 hq227 (zLw_st (j := 0) (by decide)) (by omega) (Or.inl (by have z9 := hIn; rw [Int.toNat_of_nonneg (by omega)] at z9; exact z9)) _ _ hW ls (lv_sub hl [0, 7, 8, 9, 10, 1, 2, 11, 12] rfl)
                      · skip
                        refine z_new (T := TJ4) (N := 4) (ci := 1) hC hW.all tyJ4 tyJ4_ok in_J4 rfl qk_L_162 qx_J4 qn_J4 [.null, .int (iI 0), .int (iI 0), .int (iI 0)] df_J4 (by show _ ≤ 1300; omega) (by show _ ≤ 80000; omega) dL_linesOf_153 (fun b153 H hb153 hZ => ?_)
                        have hW := hW.nB hb153.1 hZ
                        refine lv_dup hx hb dL_linesOf_156 rfl ?_
                        refine z_cBv hC (z_frI (rest := [.ref b153]) (As := []) (n := 0) hC hW.b (met_J4_init_da8c8 l D cs (zfA (zup zE b153 (.inr (1, [.null, .int (iI 0), .int (iI 0), .int (iI 0)]))) _) (zup zE b153 (.inr (1, [.null, .int (iI 0), .int (iI 0), .int (iI 0)]))) b153 zup_s) qc_J4_init_da8c8 qn_J4 qm_L_164 qi_J4_init_da8c8 rfl he_J4_init_da8c8 rfl hl rfl (Nat.le_of_ble_eq_true rfl) ⟨Nat.le_of_ble_eq_true rfl, Nat.le_of_ble_eq_true rfl⟩ ⟨(by show _ ≤ 1300; omega), (by show _ ≤ 80000; omega)⟩ dL_linesOf_157) hW (fun B157 H locs hp157 hW => ?_)
                        obtain ⟨va157, -, -, hb157⟩ := hp157
                        have hnil : ([] : List Int).length = 0 := rfl
                        refine W.widen (k := ((8 * zpos ws k.toNat + 32 * k.toNat + 8 * fr.toNat + 20 * ee) + jc) + 2) (n := ((600 * zpos ws k.toNat + 900 * k.toNat + 600 * fr.toNat + 1310 * ee) + js) + 20) (by omega) (by omega) ?_
                        refine lv_aload hx hb dL_linesOf_160 (lv_at hl 3 rfl) ?_
                        have hcc162 := oSB.c hb157
                        have hgx162 := grx_le 16 (([] : List Int).length + ts.length)
                        have hmc162 := mcS_le (cap := 16) (n := (([] : List Int).length + ts.length))
                        obtain ⟨fs162, ho162⟩ := (oSB.mono hb157 zun_le1).o
                        refine z_cAp hC (z_frV (rest := []) (As := [.ref sr]) (n := 1) (ci := 1) hC hW.bx (mes_append l D cs (zfA (zun B157 X2) _) (zun B157 X2) b153 va157 16 ([] : List Int) sr sv ts (oSB.mono hb157 zun_le1) (oSt.mono hts (zun_le2 hW.dbx)) (by omega)) gv_L_165 hd_J4_append_15ec4 rfl ho162 rfl hl rfl (Nat.le_of_ble_eq_true rfl) ⟨Nat.le_of_ble_eq_true rfl, Nat.le_of_ble_eq_true rfl⟩ ⟨(by show _ ≤ 1300; omega), (by show _ ≤ 80000; omega)⟩ dL_linesOf_162) hW hb157 (fun B162 va162 H locs hb162 hW => ?_)
                        obtain ⟨ca162, hca162⟩ : ∃ c_ : Nat, c_ = grx 16 (([] : List Int).length + ts.length) := ⟨_, rfl⟩
                        rw [← hca162] at hb162 hgx162
                        refine W.widen (k := ((8 * zpos ws k.toNat + 32 * k.toNat + 8 * fr.toNat + 20 * ee) + jc) + 3) (n := ((600 * zpos ws k.toNat + 900 * k.toNat + 600 * fr.toNat + 1310 * ee) + js) + (20 + 2 * (ca162 - 16))) (by omega) (by omega) ?_
                        have hgb162 : 16 ≤ ca162 ∧ ca162 ≤ 2 * (([] : List Int).length + ts.length) + 16 := by omega
                        clear hgx162 hmc162 hcc162 hca162
                        have hlen162 : (([] : List Int) ++ ts).length = (([] : List Int).length + ts.length) := List.length_append
                        refine lv_aload hx hb dL_linesOf_165 (lv_at hl 5 rfl) ?_
                        refine lv_iload hx hb dL_linesOf_167 (lv_at hl 4 rfl) ?_
                        refine z_cXr hC (z_frSt (rest := [.ref b153]) (As := [.int (iI fr)]) (n := 1) hC hW.x (mes_substring1 l D cs (zfA X2 _) X2 q28 vq28 (ws.getD k.toNat []) fr ((ws.getD k.toNat []).length - fr.toNat) hsw2 (by omega)) gv_L_230 hd_J0_substring_b52d3 hsw2 rfl hl rfl (Nat.le_of_ble_eq_true rfl) ⟨Nat.le_of_ble_eq_true rfl, Nat.le_of_ble_eq_true rfl⟩ ⟨(by show _ ≤ 1300; omega), (by show _ ≤ 80000; omega)⟩ dL_linesOf_169) hW (fun r169 X169 H locs hp169 hW => ?_)
                        obtain ⟨hl169, v169, hq169⟩ := hp169
                        have hs_36 : oSt cs X169 al av (zcode S) := hsa2.mono hl169
                        have hs_37 : oSt cs X169 li lv_ L := hsl2.mono hl169
                        have hs_38 : oSt cs X169 q28 vq28 (ws.getD k.toNat []) := hsw2.mono hl169
                        have hs_39 : oSt cs X169 sr sv ts := hts.mono hl169
                        have hs_40 := (hA.mono hle2).mono hl169
                        have hle_41 : zle X X169 := hle2.trans hl169
                        have hlp : (((ws.getD k.toNat []).drop fr.toNat).take ((ws.getD k.toNat []).length - fr.toNat)).length = (ws.getD k.toNat []).length - fr.toNat := by rw [List.length_take, List.length_drop]; omega
                        have hcc172 := oSB.c hb162
                        have hgx172 := grx_le ca162 ((([] : List Int) ++ ts).length + (((ws.getD k.toNat []).drop fr.toNat).take ((ws.getD k.toNat []).length - fr.toNat)).length)
                        have hmc172 := mcS_le (cap := ca162) (n := ((([] : List Int) ++ ts).length + (((ws.getD k.toNat []).drop fr.toNat).take ((ws.getD k.toNat []).length - fr.toNat)).length))
                        obtain ⟨fs172, ho172⟩ := (oSB.mono hb162 zun_le1).o
                        refine z_cAp hC (z_frV (rest := []) (As := [.ref r169]) (n := 1) (ci := 1) hC hW.bx (mes_append l D cs (zfA (zun B162 X169) _) (zun B162 X169) b153 va162 ca162 (([] : List Int) ++ ts) r169 v169 (((ws.getD k.toNat []).drop fr.toNat).take ((ws.getD k.toNat []).length - fr.toNat)) (oSB.mono hb162 zun_le1) (oSt.mono hq169 (zun_le2 hW.dbx)) (by omega)) gv_L_165 hd_J4_append_15ec4 rfl ho172 rfl hl rfl (Nat.le_of_ble_eq_true rfl) ⟨Nat.le_of_ble_eq_true rfl, Nat.le_of_ble_eq_true rfl⟩ ⟨(by show _ ≤ 1300; omega), (by show _ ≤ 80000; omega)⟩ dL_linesOf_172) hW hb162 (fun B172 va172 H locs hb172 hW => ?_)
                        obtain ⟨ca172, hca172⟩ : ∃ c_ : Nat, c_ = grx ca162 ((([] : List Int) ++ ts).length + (((ws.getD k.toNat []).drop fr.toNat).take ((ws.getD k.toNat []).length - fr.toNat)).length) := ⟨_, rfl⟩
                        rw [← hca172] at hb172 hgx172
                        refine W.widen (k := ((8 * zpos ws k.toNat + 32 * k.toNat + 8 * fr.toNat + 20 * ee) + jc) + 2 + 4) (n := ((600 * zpos ws k.toNat + 900 * k.toNat + 600 * fr.toNat + 1310 * ee) + js) + (4 + ((ws.getD k.toNat []).length - fr.toNat)) + (20 + 2 * (ca172 - 16))) (by omega) (by omega) ?_
                        have hgb172 : 16 ≤ ca172 ∧ ca172 ≤ 2 * ((([] : List Int) ++ ts).length + (((ws.getD k.toNat []).drop fr.toNat).take ((ws.getD k.toNat []).length - fr.toNat)).length) + 16 := by omega
                        clear hgx172 hmc172 hcc172 hca172
                        have hlen172 : ((([] : List Int) ++ ts) ++ (((ws.getD k.toNat []).drop fr.toNat).take ((ws.getD k.toNat []).length - fr.toNat))).length = ((([] : List Int) ++ ts).length + (((ws.getD k.toNat []).drop fr.toNat).take ((ws.getD k.toNat []).length - fr.toNat)).length) := List.length_append
                        obtain ⟨fs175, ho175⟩ := (oSB.mono hb172 zun_le1).o
                        refine z_cTs hC (z_frV (rest := []) (As := []) (n := 0) (ci := 1) hC hW.bx (mes_toString l D cs (zfA (zun B172 X169) _) (zun B172 X169) b153 va172 ca172 ((([] : List Int) ++ ts) ++ (((ws.getD k.toNat []).drop fr.toNat).take ((ws.getD k.toNat []).length - fr.toNat))) (oSB.mono hb172 zun_le1) (by omega)) gv_L_174 hd_J4_toString_0e30d rfl ho175 rfl hl rfl (Nat.le_of_ble_eq_true rfl) ⟨Nat.le_of_ble_eq_true rfl, Nat.le_of_ble_eq_true rfl⟩ ⟨(by show _ ≤ 1300; omega), (by show _ ≤ 80000; omega)⟩ dL_linesOf_175) hW hb172 (fun r175 v175 X175 H locs hl175 hq175 hh175 hW => ?_)
                        have hs_42 : oSt cs X175 al av (zcode S) := hs_36.mono hl175
                        have hs_43 : oSt cs X175 li lv_ L := hs_37.mono hl175
                        have hs_44 : oSt cs X175 q28 vq28 (ws.getD k.toNat []) := hs_38.mono hl175
                        have hs_45 : oSt cs X175 sr sv ts := hs_39.mono hl175
                        have hs_46 : oSt cs X175 r169 v169 (((ws.getD k.toNat []).drop fr.toNat).take ((ws.getD k.toNat []).length - fr.toNat)) := hq169.mono hl175
                        have hs_47 := hs_40.mono hl175
                        have hle_48 : zle X X175 := hle_41.trans hl175
                        have hq175 : oSt cs X175 r175 v175 (lnPut L ((ws.getD k.toNat []).drop fr.toNat)) := (by have z9 := hq175; rw [ls_tk] at z9; rw [hjl]; exact z9)
                        have hOp := ls_put hw hi17_0.1 (by omega) hi34_0.1 hI (by omega)
                        refine lv_astore_n (lv' := [(3, .ref r175), (12, .int (iI at_)), (11, .int (iI ct)), (10, .int (iI (zroom w L))), (9, .ref sr), (8, .int (iI fr)), (7, .ref q28), (6, .int (iI k)), (5, .int (iI (ws.length : Int))), (4, .ref a), (2, .ref al), (0, .ref a), (1, .int (iI w))]) hx hb dL_linesOf_178 rfl hl (by decide) rfl (fun ls hl => ?_)
                        refine lv_aload hx hb dL_linesOf_179 (lv_at hl 6 rfl) ?_
                        refine z_cXi hC (z_frSt (rest := []) (As := []) (n := 0) hC hW.x (mes_length l D cs (zfA X175 _) X175 q28 vq28 (ws.getD k.toNat []) hs_44) gv_L_138 hd_J0_length_8abf5 hs_44 rfl hl rfl (Nat.le_of_ble_eq_true rfl) ⟨Nat.le_of_ble_eq_true rfl, Nat.le_of_ble_eq_true rfl⟩ ⟨(by show _ ≤ 1300; omega), (by show _ ≤ 80000; omega)⟩ dL_linesOf_181) hW (fun r181 X181 H locs hp181 hW => ?_)
                        obtain ⟨rfl, rfl⟩ := hp181
                        refine lv_istore (lv' := [(8, .int (iI ((ws.getD k.toNat []).length : Int))), (3, .ref r175), (12, .int (iI at_)), (11, .int (iI ct)), (10, .int (iI (zroom w L))), (9, .ref sr), (7, .ref q28), (6, .int (iI k)), (5, .int (iI (ws.length : Int))), (4, .ref a), (2, .ref al), (0, .ref a), (1, .int (iI w))]) hx hb dL_linesOf_184 hl (by decide) rfl (fun ls hl => ?_)
                        refine lv_goto (tgt := 278) hx hb dL_linesOf_186 (by decide) ?_
                        refine lv_goto (tgt := 34) hx hb dL_linesOf_278 (by decide) ?_
                        refine W.widen (k := (8 * zpos ws k.toNat + 32 * k.toNat + 8 * ((ws.getD k.toNat []).length : Int).toNat + 20 * (1 + 0))) (n := (600 * zpos ws k.toNat + 900 * k.toNat + 600 * ((ws.getD k.toNat []).length : Int).toNat + 1310 * (1 + 0))) (by omega) (by omega) ?_
                        exact ih34 ((ws.getD k.toNat []).length : Int) (1 + 0) nn X175 al av r175 v175  S (lnPut L ((ws.getD k.toNat []).drop fr.toNat)) (by omega) (by omega) hle_48 hs_44 hs_42 hq175 (by omega) (Or.inr ⟨rfl, rfl, hOp⟩) _ _ hW ls (lv_sub hl [0, 6, 7, 8, 9, 1, 10, 11, 12] rfl)
                    · skip
                      refine lv_aload hx hb dL_linesOf_105 (lv_at hl 5 rfl) ?_
                      refine lv_iload hx hb dL_linesOf_107 (lv_at hl 0 rfl) ?_
                      refine z_cXi hC (z_frS (rest := []) (As := [.ref q28, .int (iI at_)]) (n := 2) hC hW.x (lm_divides l D cs (zfA X2 _) X2 q28 vq28 (ws.getD k.toNat []) at_ hsw2 (by omega)) gs_L_226 he_L_divides rfl hl rfl (Nat.le_of_ble_eq_true rfl) ⟨Nat.le_of_ble_eq_true rfl, Nat.le_of_ble_eq_true rfl⟩ ⟨(by show _ ≤ 1300; omega), (by show _ ≤ 80000; omega)⟩ dL_linesOf_109) hW (fun r109 X109 H locs hp109 hW => ?_)
                      obtain ⟨rfl, hp109⟩ := hp109
                      have hdv := hp109
                      refine z_if_eq (tgt := 130) hx hb dL_linesOf_112 (by decide) (by omega) (fun c_49 => ?_) (fun c_49 => ?_)
                      · skip
                        refine lv_iload hx hb dL_linesOf_130 (lv_at hl 1 rfl) ?_
                        refine lv_istore (lv' := [(11, .int (iI ct)), (12, .int (iI at_)), (10, .int (iI (zroom w L))), (9, .ref sr), (8, .int (iI fr)), (7, .ref q28), (6, .int (iI k)), (5, .int (iI (ws.length : Int))), (4, .ref a), (3, .ref li), (2, .ref al), (0, .ref a), (1, .int (iI w))]) hx hb dL_linesOf_132 hl (by decide) rfl (fun ls hl => ?_)
                        refine z_iinc (lv' := [(12, .int (iI (at_ + 1))), (11, .int (iI ct)), (10, .int (iI (zroom w L))), (9, .ref sr), (8, .int (iI fr)), (7, .ref q28), (6, .int (iI k)), (5, .int (iI (ws.length : Int))), (4, .ref a), (3, .ref li), (2, .ref al), (0, .ref a), (1, .int (iI w))]) hx hb dL_linesOf_134 hl (k := 1) rfl (by decide) rfl (fun ls hl => ?_)
                        refine lv_goto (tgt := 95) hx hb dL_linesOf_137 (by decide) ?_
                        exact ih95 (at_ + 1) ct  (by omega) (by omega) (zct_n hi34_0.1 (by omega) (fun q => hdv.elim (fun z => by omega) (fun z => z.1 q.2)) hi95_1) (by omega)  _ _ hW ls (lv_sub hl [0, 1, 2, 3, 4, 5, 6, 7, 8, 9, 10, 11, 12] rfl)
                      · skip
                        refine lv_iload hx hb dL_linesOf_115 (lv_at hl 0 rfl) ?_
                        refine lv_iload hx hb dL_linesOf_117 (lv_at hl 4 rfl) ?_
                        refine z_isub hx hb dL_linesOf_119 ?_
                        refine lv_iload hx hb dL_linesOf_120 (lv_at hl 2 rfl) ?_
                        refine z_icmp_ge (tgt := 130) hx hb dL_linesOf_122 (by decide) (by omega) (by omega) (fun c_50 => ?_) (fun c_50 => ?_)
                        · skip
                          refine lv_iload hx hb dL_linesOf_130 (lv_at hl 1 rfl) ?_
                          refine lv_istore (lv' := [(11, .int (iI ct)), (12, .int (iI at_)), (10, .int (iI (zroom w L))), (9, .ref sr), (8, .int (iI fr)), (7, .ref q28), (6, .int (iI k)), (5, .int (iI (ws.length : Int))), (4, .ref a), (3, .ref li), (2, .ref al), (0, .ref a), (1, .int (iI w))]) hx hb dL_linesOf_132 hl (by decide) rfl (fun ls hl => ?_)
                          refine z_iinc (lv' := [(12, .int (iI (at_ + 1))), (11, .int (iI ct)), (10, .int (iI (zroom w L))), (9, .ref sr), (8, .int (iI fr)), (7, .ref q28), (6, .int (iI k)), (5, .int (iI (ws.length : Int))), (4, .ref a), (3, .ref li), (2, .ref al), (0, .ref a), (1, .int (iI w))]) hx hb dL_linesOf_134 hl (k := 1) rfl (by decide) rfl (fun ls hl => ?_)
                          refine lv_goto (tgt := 95) hx hb dL_linesOf_137 (by decide) ?_
                          exact ih95 (at_ + 1) ct  (by omega) (by omega) (zct_n hi34_0.1 (by omega) (fun q => absurd q.1 (by omega)) hi95_1) (by omega)  _ _ hW ls (lv_sub hl [0, 1, 2, 3, 4, 5, 6, 7, 8, 9, 10, 11, 12] rfl)
                        · skip
                          refine lv_iload hx hb dL_linesOf_125 (lv_at hl 0 rfl) ?_
                          refine lv_goto (tgt := 132) hx hb dL_linesOf_127 (by decide) ?_
                          refine lv_istore (lv' := [(11, .int (iI at_)), (12, .int (iI at_)), (10, .int (iI (zroom w L))), (9, .ref sr), (8, .int (iI fr)), (7, .ref q28), (6, .int (iI k)), (5, .int (iI (ws.length : Int))), (4, .ref a), (3, .ref li), (2, .ref al), (0, .ref a), (1, .int (iI w))]) hx hb dL_linesOf_132 hl (by decide) rfl (fun ls hl => ?_)
                          refine z_iinc (lv' := [(12, .int (iI (at_ + 1))), (11, .int (iI at_)), (10, .int (iI (zroom w L))), (9, .ref sr), (8, .int (iI fr)), (7, .ref q28), (6, .int (iI k)), (5, .int (iI (ws.length : Int))), (4, .ref a), (3, .ref li), (2, .ref al), (0, .ref a), (1, .int (iI w))]) hx hb dL_linesOf_134 hl (k := 1) rfl (by decide) rfl (fun ls hl => ?_)
                          refine lv_goto (tgt := 95) hx hb dL_linesOf_137 (by decide) ?_
                          exact ih95 (at_ + 1) at_  (by omega) (by omega) (zct_y hi34_0.1 (by omega) (by omega) (hdv.elim And.left (fun q => by omega))) (by omega)  _ _ hW ls (lv_sub hl [0, 1, 2, 3, 4, 5, 6, 7, 8, 9, 10, 11, 12] rfl)
                exact L95_k_12 _ (fr + 1) 0  (Nat.lt_succ_self _) (by omega) (by rw [show (fr + 1 - 1).toNat = fr.toNat by omega, zct_0 _ _ _ _ (Nat.le_refl _)]; rfl) (by omega)  _ _ hW ls (lv_sub hl [0, 1, 2, 3, 4, 5, 6, 7, 8, 9, 10, 11, 12] rfl)
              refine z_if_ne (tgt := 56) hx hb dL_linesOf_48 (by decide) (by omega) (fun c_51 => ?_) (fun c_51 => ?_)
              · skip
                have hL1 : L ≠ [] := fun z => by have z8 : L.length = 0 := by rw [z]; rfl
                                                 omega
                have hrm := zroom_c (w := w) hL1
                refine z_new (T := TJ4) (N := 4) (ci := 1) hC hW.all tyJ4 tyJ4_ok in_J4 rfl qk_L_162 qx_J4 qn_J4 [.null, .int (iI 0), .int (iI 0), .int (iI 0)] df_J4 (by show _ ≤ 1300; omega) (by show _ ≤ 80000; omega) dL_linesOf_56 (fun b56 H hb56 hZ => ?_)
                have hW := hW.nB hb56.1 hZ
                refine lv_dup hx hb dL_linesOf_59 rfl ?_
                refine z_cBv hC (z_frI (rest := [.ref b56]) (As := []) (n := 0) hC hW.b (met_J4_init_da8c8 l D cs (zfA (zup zE b56 (.inr (1, [.null, .int (iI 0), .int (iI 0), .int (iI 0)]))) _) (zup zE b56 (.inr (1, [.null, .int (iI 0), .int (iI 0), .int (iI 0)]))) b56 zup_s) qc_J4_init_da8c8 qn_J4 qm_L_164 qi_J4_init_da8c8 rfl he_J4_init_da8c8 rfl hl rfl (Nat.le_of_ble_eq_true rfl) ⟨Nat.le_of_ble_eq_true rfl, Nat.le_of_ble_eq_true rfl⟩ ⟨(by show _ ≤ 1300; omega), (by show _ ≤ 80000; omega)⟩ dL_linesOf_60) hW (fun B60 H locs hp60 hW => ?_)
                obtain ⟨va60, -, -, hb60⟩ := hp60
                have hnil : ([] : List Int).length = 0 := rfl
                refine W.widen (k := (8 * zpos ws k.toNat + 32 * k.toNat + 8 * fr.toNat + 20 * ee) + 2) (n := (600 * zpos ws k.toNat + 900 * k.toNat + 600 * fr.toNat + 1310 * ee) + 20) (by omega) (by omega) ?_
                refine lv_aload_n hx hb dL_linesOf_63 rfl (lv_at hl 5 rfl) ?_
                have hcc64 := oSB.c hb60
                have hgx64 := grx_le 16 (([] : List Int).length + L.length)
                have hmc64 := mcS_le (cap := 16) (n := (([] : List Int).length + L.length))
                obtain ⟨fs64, ho64⟩ := (oSB.mono hb60 zun_le1).o
                refine z_cAp hC (z_frV (rest := []) (As := [.ref li]) (n := 1) (ci := 1) hC hW.bx (mes_append l D cs (zfA (zun B60 X1) _) (zun B60 X1) b56 va60 16 ([] : List Int) li lv_ L (oSB.mono hb60 zun_le1) (oSt.mono hsl (zun_le2 hW.dbx)) (by omega)) gv_L_165 hd_J4_append_15ec4 rfl ho64 rfl hl rfl (Nat.le_of_ble_eq_true rfl) ⟨Nat.le_of_ble_eq_true rfl, Nat.le_of_ble_eq_true rfl⟩ ⟨(by show _ ≤ 1300; omega), (by show _ ≤ 80000; omega)⟩ dL_linesOf_64) hW hb60 (fun B64 va64 H locs hb64 hW => ?_)
                obtain ⟨ca64, hca64⟩ : ∃ c_ : Nat, c_ = grx 16 (([] : List Int).length + L.length) := ⟨_, rfl⟩
                rw [← hca64] at hb64 hgx64
                refine W.widen (k := (8 * zpos ws k.toNat + 32 * k.toNat + 8 * fr.toNat + 20 * ee) + 3) (n := (600 * zpos ws k.toNat + 900 * k.toNat + 600 * fr.toNat + 1310 * ee) + (20 + 2 * (ca64 - 16))) (by omega) (by omega) ?_
                have hgb64 : 16 ≤ ca64 ∧ ca64 ≤ 2 * (([] : List Int).length + L.length) + 16 := by omega
                clear hgx64 hmc64 hcc64 hca64
                have hlen64 : (([] : List Int) ++ L).length = (([] : List Int).length + L.length) := List.length_append
                refine z_ldcS1 hC (List.mem_of_getElem? (i := 2) rfl) dL_linesOf_67 ?_
                have hcc69 := oSB.c hb64
                have hgx69 := grx_le ca64 ((([] : List Int) ++ L).length + (zLw 2).length)
                have hmc69 := mcS_le (cap := ca64) (n := ((([] : List Int) ++ L).length + (zLw 2).length))
                obtain ⟨fs69, ho69⟩ := (oSB.mono hb64 zun_le1).o
                refine z_cAp hC (z_frV (rest := []) (As := [.ref (cs (50 + 2))]) (n := 1) (ci := 1) hC hW.bx (mes_append l D cs (zfA (zun B64 X1) _) (zun B64 X1) b56 va64 ca64 (([] : List Int) ++ L) (cs (50 + 2)) (cs (70 + 2)) (zLw 2) (oSB.mono hb64 zun_le1) (oSt.mono (zLw_st (j := 2) (by decide)) (zun_le2 hW.dbx)) (by omega)) gv_L_165 hd_J4_append_15ec4 rfl ho69 rfl hl rfl (Nat.le_of_ble_eq_true rfl) ⟨Nat.le_of_ble_eq_true rfl, Nat.le_of_ble_eq_true rfl⟩ ⟨(by show _ ≤ 1300; omega), (by show _ ≤ 80000; omega)⟩ dL_linesOf_69) hW hb64 (fun B69 va69 H locs hb69 hW => ?_)
                obtain ⟨ca69, hca69⟩ : ∃ c_ : Nat, c_ = grx ca64 ((([] : List Int) ++ L).length + (zLw 2).length) := ⟨_, rfl⟩
                rw [← hca69] at hb69 hgx69
                refine W.widen (k := (8 * zpos ws k.toNat + 32 * k.toNat + 8 * fr.toNat + 20 * ee) + 4) (n := (600 * zpos ws k.toNat + 900 * k.toNat + 600 * fr.toNat + 1310 * ee) + (20 + 2 * (ca69 - 16))) (by omega) (by omega) ?_
                have hgb69 : 16 ≤ ca69 ∧ ca69 ≤ 2 * ((([] : List Int) ++ L).length + (zLw 2).length) + 16 := by omega
                clear hgx69 hmc69 hcc69 hca69
                have hlen69 : ((([] : List Int) ++ L) ++ (zLw 2)).length = ((([] : List Int) ++ L).length + (zLw 2).length) := List.length_append
                obtain ⟨fs72, ho72⟩ := (oSB.mono hb69 zun_le1).o
                refine z_cTs hC (z_frV (rest := []) (As := []) (n := 0) (ci := 1) hC hW.bx (mes_toString l D cs (zfA (zun B69 X1) _) (zun B69 X1) b56 va69 ca69 ((([] : List Int) ++ L) ++ (zLw 2)) (oSB.mono hb69 zun_le1) (by omega)) gv_L_174 hd_J4_toString_0e30d rfl ho72 rfl hl rfl (Nat.le_of_ble_eq_true rfl) ⟨Nat.le_of_ble_eq_true rfl, Nat.le_of_ble_eq_true rfl⟩ ⟨(by show _ ≤ 1300; omega), (by show _ ≤ 80000; omega)⟩ dL_linesOf_72) hW hb69 (fun r72 v72 X72 H locs hl72 hq72 hh72 hW => ?_)
                have hs_52 : oSt cs X72 al av (zcode S) := hsa.mono hl72
                have hs_53 : oSt cs X72 li lv_ L := hsl.mono hl72
                have hs_54 : oSt cs X72 q28 vq28 (ws.getD k.toNat []) := hsw.mono hl72
                have hs_55 := (hA.mono hle1).mono hl72
                have hle_56 : zle X X72 := hle1.trans hl72
                have hq72 : oSt cs X72 r72 v72 (L ++ [32]) := hq72
                have hls : (L ++ [32]).length = L.length + 1 := List.length_append
                refine W.widen (k := ((8 * zpos ws k.toNat + 32 * k.toNat + 8 * fr.toNat + 20 * ee) + (6 + 0))) (n := ((600 * zpos ws k.toNat + 900 * k.toNat + 600 * fr.toNat + 1310 * ee) + (129 + 0))) (by omega) (by omega) ?_
                exact J75_k_11 (6 + 0) (129 + 0) X72 r72 v72 (L ++ [32])  (by omega) (by omega) (by omega) (by omega) (fun part => lnPut_cz hL1) hle_56 hs_54 hs_52 hs_53 hq72 _ _ hW ls (lv_sub hl [0, 1, 2, 3, 4, 5, 6, 7, 8] rfl)
              · skip
                have hL0 : L = [] := List.eq_nil_of_length_eq_zero (by omega)
                have hrm := zroom_n (w := w) hL0
                refine z_ldcS1 hC (List.mem_of_getElem? (i := 0) rfl) dL_linesOf_51 ?_
                refine lv_goto (tgt := 75) hx hb dL_linesOf_53 (by decide) ?_
                refine W.widen (k := ((8 * zpos ws k.toNat + 32 * k.toNat + 8 * fr.toNat + 20 * ee) + (0 + 0))) (n := ((600 * zpos ws k.toNat + 900 * k.toNat + 600 * fr.toNat + 1310 * ee) + (0 + 0))) (by omega) (by omega) ?_
                exact J75_k_11 (0 + 0) (0 + 0) X1 (cs (50 + 0)) (cs (70 + 0)) (zLw 0)  (by omega) (by omega) (by omega) (by omega) (fun part => lnPut_nz hL0) hle1 hsw hsa hsl (zLw_st (j := 0) (by decide)) _ _ hW ls (lv_sub hl [0, 1, 2, 3, 4, 5, 6, 7, 8] rfl)
        refine W.widen (k := (8 * zpos ws k.toNat + 32 * k.toNat + 8 * (0 : Int).toNat + 20 * e0)) (n := (600 * zpos ws k.toNat + 900 * k.toNat + 600 * (0 : Int).toNat + 1310 * e0)) (by omega) (by omega) ?_
        exact L34_k_9 _ 0 e0 (24 + 0) X1 al av li lv_ S L (Nat.lt_succ_self _) (by omega) hle1 hsq28 hsa hsl (by omega) (Or.inl hIe) _ _ hW ls (lv_sub hl [0, 1, 2, 3, 4, 5, 6, 7, 8] rfl)
  refine W.widen (k := (8 * zpos ws (0 : Int).toNat + 32 * (0 : Int).toNat)) (n := (600 * zpos ws (0 : Int).toNat + 900 * (0 : Int).toNat)) (by omega) (by omega) ?_
  exact L17_k_2 _ 0 X (cs (50 + 0)) (cs (70 + 0)) (cs (50 + 0)) (cs (70 + 0)) [] [] (Nat.lt_succ_self _) (by omega) zle.refl (zLw_st (j := 0) (by decide)) (zLw_st (j := 0) (by decide)) (ls_0 (by omega)) _ _ hW ls (lv_sub hl [0, 1, 2, 3, 4, 5, 6] rfl)

