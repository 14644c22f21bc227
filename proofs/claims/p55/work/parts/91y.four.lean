section L4
variable {p : Program} {l : Launch} {e : Env} {R : Room} {s : State} {m : MethodId} {args : Array Value} {below : List Frame} {meth : Method} {c : Code} {H : Heap} {locs : List Loc} {cells slots : Nat} {Q : State → Prop}
variable {cc : ByteArray} {pc nL : Nat} {ls : Array Slot} {rest : List Value} {own : String} {D : va_G} {cs : Nat → ClassId} {A : Nat → Prop} {F G B X : zF} {a : Nat}
theorem z_cXi (hC : zC p s m args c cc nL own D cs A) {post : Int → zF → Prop} {mc ms : Nat} {st0 : List Value} (hr : zRun p l e R s m args below meth c H locs cells slots mc ms (F0 m pc ls st0) rest D (zfA X H) (pI post)) (hW : zW3 D A s G B X H locs)
    (kk : ∀ (r : Int) (X1 : zF) (H1 : Heap) (locs1 : List Loc), post r X1 → zW3 D A s G B X1 H1 locs1 → W p l e R s m args below meth c H1 locs1 (cells + mc) (slots + ms) Q (F0 m (pc + 3) ls (.int (iI r) :: rest))) : W p l e R s m args below meth c H locs cells slots Q (F0 m pc ls st0) :=
  z_cX hC hr hW (fun v X1 H1 locs1 hp h => by obtain ⟨r, rfl, hp⟩ := hp; exact kk r X1 H1 locs1 hp h)
theorem z_cXr (hC : zC p s m args c cc nL own D cs A) {post : Nat → zF → Prop} {mc ms : Nat} {st0 : List Value} (hr : zRun p l e R s m args below meth c H locs cells slots mc ms (F0 m pc ls st0) rest D (zfA X H) (pR post)) (hW : zW3 D A s G B X H locs)
    (kk : ∀ (r : Nat) (X1 : zF) (H1 : Heap) (locs1 : List Loc), post r X1 → zW3 D A s G B X1 H1 locs1 → W p l e R s m args below meth c H1 locs1 (cells + mc) (slots + ms) Q (F0 m (pc + 3) ls (.ref r :: rest))) : W p l e R s m args below meth c H locs cells slots Q (F0 m pc ls st0) :=
  z_cX hC hr hW (fun v X1 H1 locs1 hp h => by obtain ⟨r, rfl, hp⟩ := hp; exact kk r X1 H1 locs1 hp h)
theorem z_cGi (hC : zC p s m args c cc nL own D cs A) {post : Int → zF → Prop} {mc ms : Nat} {st0 : List Value} (hr : zRun p l e R s m args below meth c H locs cells slots mc ms (F0 m pc ls st0) rest D (zfA G H) (pI post)) (hW : zW3 D A s G B X H locs)
    (kk : ∀ (r : Int) (G1 : zF) (H1 : Heap) (locs1 : List Loc), post r G1 → zW3 D A s G1 B X H1 locs1 → W p l e R s m args below meth c H1 locs1 (cells + mc) (slots + ms) Q (F0 m (pc + 3) ls (.int (iI r) :: rest))) : W p l e R s m args below meth c H locs cells slots Q (F0 m pc ls st0) :=
  z_cG hC hr hW (fun v X1 H1 locs1 hp h => by obtain ⟨r, rfl, hp⟩ := hp; exact kk r X1 H1 locs1 hp h)
theorem z_cGf (hC : zC p s m args c cc nL own D cs A) {post : UInt32 → zF → Prop} {mc ms : Nat} {st0 : List Value} (hr : zRun p l e R s m args below meth c H locs cells slots mc ms (F0 m pc ls st0) rest D (zfA G H) (pF post)) (hW : zW3 D A s G B X H locs)
    (kk : ∀ (r : UInt32) (G1 : zF) (H1 : Heap) (locs1 : List Loc), post r G1 → zW3 D A s G1 B X H1 locs1 → W p l e R s m args below meth c H1 locs1 (cells + mc) (slots + ms) Q (F0 m (pc + 3) ls (.float r :: rest))) : W p l e R s m args below meth c H locs cells slots Q (F0 m pc ls st0) :=
  z_cG hC hr hW (fun v X1 H1 locs1 hp h => by obtain ⟨r, rfl, hp⟩ := hp; exact kk r X1 H1 locs1 hp h)
theorem z_cGd (hC : zC p s m args c cc nL own D cs A) {post : UInt64 → zF → Prop} {mc ms : Nat} {st0 : List Value} (hr : zRun p l e R s m args below meth c H locs cells slots mc ms (F0 m pc ls st0) rest D (zfA G H) (pD post)) (hW : zW3 D A s G B X H locs)
    (kk : ∀ (r : UInt64) (G1 : zF) (H1 : Heap) (locs1 : List Loc), post r G1 → zW3 D A s G1 B X H1 locs1 → W p l e R s m args below meth c H1 locs1 (cells + mc) (slots + ms) Q (F0 m (pc + 3) ls (.double r :: rest))) : W p l e R s m args below meth c H locs cells slots Q (F0 m pc ls st0) :=
  z_cG hC hr hW (fun v X1 H1 locs1 hp h => by obtain ⟨r, rfl, hp⟩ := hp; exact kk r X1 H1 locs1 hp h)
theorem z_cGv (hC : zC p s m args c cc nL own D cs A) {post : zF → Prop} {mc ms : Nat} {st0 : List Value} (hr : zRun p l e R s m args below meth c H locs cells slots mc ms (F0 m pc ls st0) rest D (zfA G H) (pV post)) (hW : zW3 D A s G B X H locs)
    (kk : ∀ (G1 : zF) (H1 : Heap) (locs1 : List Loc), post G1 → zW3 D A s G1 B X H1 locs1 → W p l e R s m args below meth c H1 locs1 (cells + mc) (slots + ms) Q (F0 m (pc + 3) ls rest)) : W p l e R s m args below meth c H locs cells slots Q (F0 m pc ls st0) :=
  z_cG hC hr hW (fun v X1 H1 locs1 hp h => by obtain ⟨rfl, hp⟩ := hp; exact kk X1 H1 locs1 hp h)
theorem z_cBv (hC : zC p s m args c cc nL own D cs A) {post : zF → Prop} {mc ms : Nat} {st0 : List Value} (hr : zRun p l e R s m args below meth c H locs cells slots mc ms (F0 m pc ls st0) rest D (zfA B H) (pV post)) (hW : zW3 D A s G B X H locs)
    (kk : ∀ (B1 : zF) (H1 : Heap) (locs1 : List Loc), post B1 → zW3 D A s G B1 X H1 locs1 → W p l e R s m args below meth c H1 locs1 (cells + mc) (slots + ms) Q (F0 m (pc + 3) ls rest)) : W p l e R s m args below meth c H locs cells slots Q (F0 m pc ls st0) :=
  z_cB hC hr hW (fun v X1 H1 locs1 hp h => by obtain ⟨rfl, hp⟩ := hp; exact kk X1 H1 locs1 hp h)
/-- what a method of the law does to both of its worlds -/
def pGI (post : Int → zF → zF → Prop) : Option Value → zF → Prop := pI (fun r F1 => ∃ G1 X1 : zF, F1 = zun G1 X1 ∧ zdj G1 X1 ∧ post r G1 X1)
def pGR (post : Nat → zF → zF → Prop) : Option Value → zF → Prop := pR (fun r F1 => ∃ G1 X1 : zF, F1 = zun G1 X1 ∧ zdj G1 X1 ∧ post r G1 X1)
theorem z_cGXi (hC : zC p s m args c cc nL own D cs A) {post : Int → zF → zF → Prop} {mc ms : Nat} {st0 : List Value} (hr : zRun p l e R s m args below meth c H locs cells slots mc ms (F0 m pc ls st0) rest D (zfA (zun G X) H) (pGI post)) (hW : zW3 D A s G B X H locs)
    (kk : ∀ (r : Int) (G1 X1 : zF) (H1 : Heap) (locs1 : List Loc), post r G1 X1 → zW3 D A s G1 B X1 H1 locs1 → W p l e R s m args below meth c H1 locs1 (cells + mc) (slots + ms) Q (F0 m (pc + 3) ls (.int (iI r) :: rest))) : W p l e R s m args below meth c H locs cells slots Q (F0 m pc ls st0) :=
  z_cGX hC hr hW (fun v F1 H1 locs1 hp h => by obtain ⟨r, rfl, G1, X1, e1, d1, hp⟩ := hp; exact kk r G1 X1 H1 locs1 hp (h G1 X1 e1 d1))
theorem z_cGXr (hC : zC p s m args c cc nL own D cs A) {post : Nat → zF → zF → Prop} {mc ms : Nat} {st0 : List Value} (hr : zRun p l e R s m args below meth c H locs cells slots mc ms (F0 m pc ls st0) rest D (zfA (zun G X) H) (pGR post)) (hW : zW3 D A s G B X H locs)
    (kk : ∀ (r : Nat) (G1 X1 : zF) (H1 : Heap) (locs1 : List Loc), post r G1 X1 → zW3 D A s G1 B X1 H1 locs1 → W p l e R s m args below meth c H1 locs1 (cells + mc) (slots + ms) Q (F0 m (pc + 3) ls (.ref r :: rest))) : W p l e R s m args below meth c H locs cells slots Q (F0 m pc ls st0) :=
  z_cGX hC hr hW (fun v F1 H1 locs1 hp h => by obtain ⟨r, rfl, G1, X1, e1, d1, hp⟩ := hp; exact kk r G1 X1 H1 locs1 hp (h G1 X1 e1 d1))
theorem z_iretG (hC : zC p s m args c cc nL own D cs A) (hr : meth.sig.returnType = some .int) (hlk : meth.locks = false) (hW : zW3 D A s G B X H locs) {mc ms : Nat} {post : Int → zF → zF → Prop} {r : Int} (hc : cells ≤ mc) (hs : slots ≤ ms) (hp : post r G X) (d : decode cc pc = .ok (.ireturn, 1)) : W p l e R s m args below meth c H locs cells slots (MQ below (zQ D A (pGI post)) args s mc ms A) (F0 m pc ls [.int (iI r)]) :=
  z_iret hC hr hlk hW.gx hc hs ⟨G, X, rfl, hW.dgx, hp⟩ d
theorem z_zretG (hC : zC p s m args c cc nL own D cs A) {ty : FieldType} (hr : meth.sig.returnType = some ty) (hlk : meth.locks = false) (hW : zW3 D A s G B X H locs) {mc ms : Nat} {post : Int → zF → zF → Prop} {r : Int} (hn : narrow ty (.int (iI r)) = .int (iI r)) (hc : cells ≤ mc) (hs : slots ≤ ms) (hp : post r G X) (d : decode cc pc = .ok (.ireturn, 1)) : W p l e R s m args below meth c H locs cells slots (MQ below (zQ D A (pGI post)) args s mc ms A) (F0 m pc ls [.int (iI r)]) :=
  z_zret hC hr hlk hW.gx hn hc hs ⟨G, X, rfl, hW.dgx, hp⟩ d
theorem z_aretG (hC : zC p s m args c cc nL own D cs A) {rt : FieldType} (hr : meth.sig.returnType = some rt) (hrt : (∃ n, rt = .object n) ∨ ∃ t, rt = .array t) (hlk : meth.locks = false) (hW : zW3 D A s G B X H locs) {mc ms : Nat} {post : Nat → zF → zF → Prop} {r : Nat} (hc : cells ≤ mc) (hs : slots ≤ ms) (hp : post r G X) (d : decode cc pc = .ok (.areturn, 1)) : W p l e R s m args below meth c H locs cells slots (MQ below (zQ D A (pGR post)) args s mc ms A) (F0 m pc ls [.ref r]) :=
  z_aret hC hr hrt hlk hW.gx hc hs ⟨G, X, rfl, hW.dgx, hp⟩ d
theorem grw_f {cap n : Nat} (h : n ≤ 2 * cap + 2) : n ≤ grw cap n ∧ cap ≤ grw cap n ∧ (grw cap n = cap ∨ grw cap n ≤ 2 * n) ∧ msS cap n + 2 * cap ≤ 2 * grw cap n := by
  unfold msS grw
  by_cases q : n ≤ cap
  · rw [if_pos q, if_pos q]; omega
  · rw [if_neg q, if_neg q]; omega
end L4
