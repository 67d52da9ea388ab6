/-! contracts over the memory: what a method answers and leaves, its calls, its ends -/
def Qg (post : Option Value → Mm → Prop) (D : va_G) (ca : Nat → ClassId) (B : Nat) (Tl : va_W) (A : Nat → Prop) : Array Value → State → Outcome → State → Prop := fun _ st oc t => (∃ (v : Option Value) (u : Mm), oc = .returned v ∧ post v u ∧ Wd D ca B Tl A u t.heap) ∧ va_F A st t
def Xg (xp : String → Mm → Prop) (D : va_G) (ca : Nat → ClassId) (B : Nat) (Tl : va_W) (A : Nat → Prop) : String → State → State → Prop := fun E st t => ∃ u : Mm, (xp E u ∧ Wd D ca B Tl A u t.heap) ∧ va_F A st t
/-- the contract of a method that returns -/
def Ct (l : Launch) (y : MethodName) (ws : List Cond) (rm : Room) (av : Nat → List Value) (M : Mm) (post : Nat → Option Value → Mm → Prop) : Prop :=
  ∀ (D : va_G) (ca : Nat → ClassId) (B : Nat) (Tl : va_W) (sz : Nat), Met l y ws rm (va_Pc (av B) (Pre D ca B Tl sz M)) (Qg (post B) D ca B Tl (Aw B Tl sz)) rm.cells rm.slots (Aw B Tl sz)
/-- .. that returns or throws -/
def Cx (l : Launch) (y : MethodName) (ws : List Cond) (rm : Room) (av : Nat → List Value) (M : Mm) (post : Nat → Option Value → Mm → Prop) (xp : String → Mm → Prop) : Prop :=
  ∀ (D : va_G) (ca : Nat → ClassId) (B : Nat) (Tl : va_W) (sz : Nat), vx_Met l y ws rm (va_Pc (av B) (Pre D ca B Tl sz M)) (Qg (post B) D ca B Tl (Aw B Tl sz)) (Xg xp D ca B Tl (Aw B Tl sz)) rm.cells rm.slots (Aw B Tl sz)
theorem Ct.imp {l : Launch} {y : MethodName} {ws : List Cond} {rm : Room} {av : Nat → List Value} {M : Mm} {post post2 : Nat → Option Value → Mm → Prop} (h : Ct l y ws rm av M post) (hp : ∀ B v u, post B v u → post2 B v u) : Ct l y ws rm av M post2 := by
  intro D ca B Tl sz p e ha hc hk s m args below hf happ hP hk2
  obtain ⟨k, o, h1, h2, h3, ⟨⟨⟨v, u, hv, hu, hw⟩, hF⟩, h5⟩⟩ := h D ca B Tl sz p e ha hc hk s m args below hf happ hP hk2
  exact ⟨k, o, h1, h2, h3, ⟨⟨v, u, hv, hp B v u hu, hw⟩, hF⟩, h5⟩
section ENT
variable {l : Launch} {y : MethodName} {ws ws' : List Cond} {rm : Room} {cc : ByteArray} {maxL : Nat} {own : String} {av : Nat → List Value} {M : Mm} {post : Nat → Option Value → Mm → Prop} {xp : String → Mm → Prop}

theorem Ct.ofI {ty : FieldType} (hy : plainName y.cls = true) (hw : ws = Cond.code y cc maxL (some ty) :: ws') (ho : y.cls = own) (hav : ∀ B, (lg_sl (av B)).length ≤ maxL)
    (body : ∀ (p : Program) (e : Env) (s : State) (m : MethodId) (args : Array Value) (below : List Frame) (meth : Method) (c : Code) (D : va_G) (ca : Nat → ClassId) (B : Nat) (Tl : va_W) (A : Nat → Prop) (Q : State → Prop), Fx p rm s m args meth c cc maxL ws own D ca A →
      (∀ (M' : Mm) (pc : Nat) (lv : List (Nat × Value)) (x : Int32), decode cc pc = .ok (.ireturn, 1) → narrow ty (.int x) = .int x → post B (some (.int x)) M' → G p l e rm s m args below meth c Q D ca B Tl A maxL rm.cells rm.slots M' pc lv [.int x]) →
      G p l e rm s m args below meth c Q D ca B Tl A maxL 0 0 M 0 (lv_args 0 (av B)) []) : Ct l y ws rm av M post := by
  intro D ca B Tl sz
  refine Met.ofW (cc := cc) (maxL := maxL) (ret := (some ty)) hy hw ?_
  intro p e s m args below meth c s₁ BL hml hv
  obtain ⟨rfl, hsz, hP, hK, hD, hT, hE⟩ := hv
  subst hsz
  have hts := atoms_spec (ws := ws) BL.pre
  have hown : s.vm.findClass own = some m.cls := ho ▸ findClass_of_methodNamed BL.named
  have hl := lv_entry (av B) (n := maxL) (hav B)
  rw [lg_entry_eq]
  refine body p e s m _ below meth c D ca B Tl (Aw B Tl s.heap.size) _ ⟨⟨BL.exec, BL.bytes, hml, hown, hts⟩, hK, fun q h => Or.inr (Or.inr h), hE, BL.notSynchronized⟩ ?_ s.heap [] _ ⟨hP, Aw_in hD, hT⟩ va_S.rf hl
  intro M' pc lv x hd hn hp H locs ls w9 h9 hl9
  exact W.zret BL.exec BL.bytes BL.returns hn (fun t ht hW => ⟨⟨some (.int x), M', rfl, hp, ht ▸ w9⟩, h9.F ht⟩) h9.2.2 hd BL.notSynchronized

theorem Ct.ofV (hy : plainName y.cls = true) (hw : ws = Cond.code y cc maxL none :: ws') (ho : y.cls = own) (hav : ∀ B, (lg_sl (av B)).length ≤ maxL)
    (body : ∀ (p : Program) (e : Env) (s : State) (m : MethodId) (args : Array Value) (below : List Frame) (meth : Method) (c : Code) (D : va_G) (ca : Nat → ClassId) (B : Nat) (Tl : va_W) (A : Nat → Prop) (Q : State → Prop), Fx p rm s m args meth c cc maxL ws own D ca A →
      (∀ (M' : Mm) (pc : Nat) (lv : List (Nat × Value)), decode cc pc = .ok (.return_, 1) → post B none M' → G p l e rm s m args below meth c Q D ca B Tl A maxL rm.cells rm.slots M' pc lv []) →
      G p l e rm s m args below meth c Q D ca B Tl A maxL 0 0 M 0 (lv_args 0 (av B)) []) : Ct l y ws rm av M post := by
  intro D ca B Tl sz
  refine Met.ofW (cc := cc) (maxL := maxL) (ret := none) hy hw ?_
  intro p e s m args below meth c s₁ BL hml hv
  obtain ⟨rfl, hsz, hP, hK, hD, hT, hE⟩ := hv
  subst hsz
  have hts := atoms_spec (ws := ws) BL.pre
  have hown : s.vm.findClass own = some m.cls := ho ▸ findClass_of_methodNamed BL.named
  have hl := lv_entry (av B) (n := maxL) (hav B)
  rw [lg_entry_eq]
  refine body p e s m _ below meth c D ca B Tl (Aw B Tl s.heap.size) _ ⟨⟨BL.exec, BL.bytes, hml, hown, hts⟩, hK, fun q h => Or.inr (Or.inr h), hE, BL.notSynchronized⟩ ?_ s.heap [] _ ⟨hP, Aw_in hD, hT⟩ va_S.rf hl
  intro M' pc lv hd hp H locs ls w9 h9 hl9
  exact W.vret BL.exec BL.bytes BL.returns (fun t ht hW => ⟨⟨none, M', rfl, hp, ht ▸ w9⟩, h9.F ht⟩) h9.2.2 hd BL.notSynchronized

end ENT
/-- truth as a number -/
def b2i (P : Prop) [Decidable P] : Int32 := if P then 1 else 0
theorem b2i_t {P : Prop} [Decidable P] (h : P) : b2i P = 1 := if_pos h
theorem b2i_f {P : Prop} [Decidable P] (h : ¬ P) : b2i P = 0 := if_neg h
theorem b2i_bit (P : Prop) [Decidable P] : bit (b2i P) := by unfold b2i; split; exact bit_1; exact bit_0
theorem b2i_nar (P : Prop) [Decidable P] : narrow .boolean (.int (b2i P)) = .int (b2i P) := (bit_z (b2i_bit P)).1
theorem b2i_congr {P P2 : Prop} [Decidable P] [Decidable P2] (h : P ↔ P2) : b2i P = b2i P2 := by unfold b2i; by_cases hp : P; rw [if_pos hp, if_pos (h.mp hp)]; rw [if_neg hp, if_neg (fun z => hp (h.mpr z))]
theorem b2i_ne {P : Prop} [Decidable P] : ¬ b2i P = 0 ↔ P := by unfold b2i; by_cases hp : P; simp [hp]; simp [hp]
section CALL
variable {p : Program} {l : Launch} {e : Env} {R : Room} {s : State} {m : MethodId} {args : Array Value} {below : List Frame} {meth : Method} {c : Code} {Q : State → Prop} {D : va_G} {ca : Nat → ClassId} {B : Nat} {Tl : va_W} {A : Nat → Prop} {nL cells slots : Nat} {M : Mm} {pc : Nat} {lv : List (Nat × Value)} {st rest : List Value} {cc : ByteArray} {Ts : List Cond} {own : String}
variable {y : MethodName} {ws : List Cond} {rm : Room} {av : Nat → List Value} {post : Nat → Option Value → Mm → Prop} {xp : String → Mm → Prop}
theorem Fx.pre {H : Heap} {locs : List Loc} (F : Fx p R s m args meth c cc nL Ts own D ca A) (w9 : Wd D ca B Tl A M H) (h9 : va_S A s.heap H locs) {U : State} (hU : U.heap = H) (hW : s.WarmedH U.vm) : Pre D ca B Tl H.size M U :=
  ⟨by rw [hU], by rw [hU]; exact w9.1, va_K.moved hW.alike F.2.1, w9.2.1.weaken (fun _ _ _ _ => trivial), w9.2.2, by rw [hU]; exact F.2.2.2.1.warm hW h9.2.1 (Aw_of w9.2.1 (fun q hq => F.2.2.1 q (Nat.le_trans h9.1 hq)))⟩
theorem Pre_blind {sz : Nat} : FrameBlind (va_Pc (av B) (Pre D ca B Tl sz M)) := fun _ _ _ _ q => ⟨q.1, q.2.call⟩
theorem g_call {st0 : List Value} {a : Array Value} (F : Fx p R s m args meth c cc nL Ts own D ca A)
    (hr : ∀ (H : Heap) (locs : List Loc) (ls : Array Slot), Wd D ca B Tl A M H → va_S A s.heap H locs → lv_has ls nL lv → va_Run p l e R s m args below meth c H locs cells slots rm.cells rm.slots (F0 m pc ls st0) rest (Qg (post B) D ca B Tl (Aw B Tl H.size) a) (Aw B Tl H.size))
    (kk : ∀ (v : Option Value) (u : Mm), post B v u → G p l e R s m args below meth c Q D ca B Tl A nL (cells + rm.cells) (slots + rm.slots) u (pc + 3) lv (v.toList ++ rest)) : G p l e R s m args below meth c Q D ca B Tl A nL cells slots M pc lv st0 := by
  intro H locs ls w9 h9 hl9 T hT X
  have hA := Aw_of (sz := H.size) w9.2.1 (fun q hq => F.2.2.1 q (Nat.le_trans h9.1 hq))
  obtain ⟨v, st₀, t, T', L, h0, X', hL, e1, e2, ⟨⟨v2, u, hv, hp, hb⟩, hF⟩, stp⟩ := hr H locs ls w9 h9 hl9 T hT X
  cases hv
  obtain ⟨k1, k2, k3⟩ := vx_keep h0 e1 h9 (fun q _ z => hA q z) hA hL hF
  obtain ⟨t2, a1, b1⟩ := kk v u hp T'.heap (locs ++ L) ls ⟨by rw [e1]; exact hb.1, hb.2.1.weaken (fun _ _ _ z => hA _ z), hb.2.2⟩ k3 hl9 T' rfl X'
  exact ⟨t2, stp t2 a1, b1⟩
theorem wl_any {k r : Nat} (h : isR k r) (hk : k < 9) : ∃ fs, (wld ca B M Tl)[r]? = some (B + r, .inr (k, fs)) := by
  rcases (show k = 0 ∨ k = 1 ∨ k = 2 ∨ k = 3 ∨ k = 4 ∨ k = 5 ∨ k = 6 ∨ k = 7 ∨ k = 8 by omega) with rfl | rfl | rfl | rfl | rfl | rfl | rfl | rfl | rfl
  · exact ⟨_, wl0 h⟩
  · exact ⟨_, wl1 h⟩
  · exact ⟨_, wl2 h⟩
  · exact ⟨_, wl3 h⟩
  · exact ⟨_, wl4 h⟩
  · exact ⟨_, wl5 h⟩
  · exact ⟨_, wl6 h⟩
  · exact ⟨_, wl7 h⟩
  · exact ⟨_, wl8 h⟩

theorem g_callV (F : Fx p R s m args meth c cc nL Ts own D ca A) (hM : Ct l y ws rm av M post) {C : String} {index n maxL : Nat} {bytes : ByteArray} {ret : Option FieldType} {As : List Value} (cw : CallW R s args own C index y bytes maxL ret ws rm rm.cells rm.slots n) {k r : Nat} (hr : isR k r) (hk : k < 9) {T : u_T} {N : Nat} (hc : vwCl[k]? = some (C, T, N)) (hav : av B = .ref (B + r) :: As) (hn : As.length = n) (hst : st = As.reverse ++ .ref (B + r) :: rest) (hW : (rest.map fun v => v.category).sum ≤ 8) (hdg : decode cc pc = .ok (.invokevirtual index, 3)) (hf : cells + rm.cells ≤ R.cells ∧ slots + rm.slots ≤ R.slots)
    (kk : ∀ (v : Option Value) (u : Mm), post B v u → G p l e R s m args below meth c Q D ca B Tl A nL (cells + rm.cells) (slots + rm.slots) u (pc + 3) lv (v.toList ++ rest)) : G p l e R s m args below meth c Q D ca B Tl A nL cells slots M pc lv st := by
  refine g_call (a := (.ref (B + r) :: As : List Value).toArray) F (fun H locs ls w9 h9 hl9 => ?_) kk
  exact va_runV (As := As) (rest := rest) F.1 (hM D ca B Tl H.size) cw ⟨Pre_blind, va_recv F.2.1 w9.1 hc (wl_any hr hk).choose_spec, fun U hU hW => ⟨by rw [hav], F.pre w9 h9 hU hW⟩⟩ rfl hn hl9.1 hst (lv_room hW) hdg hf

theorem g_callS (F : Fx p R s m args meth c cc nL Ts own D ca A) (hM : Ct l y ws rm av M post) {index n maxL : Nat} {bytes : ByteArray} {ret : Option FieldType} {As : List Value} (cw : CallB R s args own index y bytes maxL ret ws rm rm.cells rm.slots n ∧ (Cond.static y).before args s = true) (hav : av B = As) (hn : As.length = n) (hst : st = As.reverse ++ rest) (hW : (rest.map fun v => v.category).sum ≤ 8) (hdg : decode cc pc = .ok (.invokestatic index, 3)) (hf : cells + rm.cells ≤ R.cells ∧ slots + rm.slots ≤ R.slots)
    (kk : ∀ (v : Option Value) (u : Mm), post B v u → G p l e R s m args below meth c Q D ca B Tl A nL (cells + rm.cells) (slots + rm.slots) u (pc + 3) lv (v.toList ++ rest)) : G p l e R s m args below meth c Q D ca B Tl A nL cells slots M pc lv st := by
  refine g_call (a := (As : List Value).toArray) F (fun H locs ls w9 h9 hl9 => ?_) kk
  exact va_runS (As := As) (rest := rest) F.1 (hM D ca B Tl H.size) cw ⟨Pre_blind, fun U hU hW => ⟨by rw [hav], F.pre w9 h9 hU hW⟩⟩ rfl hn hl9.1 hst (lv_room hW) hdg hf

theorem g_callSN (F : Fx p R s m args meth c cc nL Ts own D ca A) (hM : Ct l y ws rm av M post) {host : String} {index n maxL : Nat} {bytes : ByteArray} {ret : Option FieldType} {As : List Value} (cw : va_CN R s args own index y host bytes maxL ret ws rm rm.cells rm.slots n ∧ (Cond.static y).before args s = true ∧ True) (hav : av B = As) (hn : As.length = n) (hst : st = As.reverse ++ rest) (hW : (rest.map fun v => v.category).sum ≤ 8) (hdg : decode cc pc = .ok (.invokestatic index, 3)) (hf : cells + rm.cells ≤ R.cells ∧ slots + rm.slots ≤ R.slots)
    (kk : ∀ (v : Option Value) (u : Mm), post B v u → G p l e R s m args below meth c Q D ca B Tl A nL (cells + rm.cells) (slots + rm.slots) u (pc + 3) lv (v.toList ++ rest)) : G p l e R s m args below meth c Q D ca B Tl A nL cells slots M pc lv st := by
  refine g_call (a := (As : List Value).toArray) F (fun H locs ls w9 h9 hl9 => ?_) kk
  exact va_runSN (As := As) (rest := rest) F.1 (hM D ca B Tl H.size) cw ⟨Pre_blind, fun U hU hW => ⟨by rw [hav], F.pre w9 h9 hU hW⟩⟩ rfl hn hl9.1 hst (lv_room hW) hdg hf

theorem g_callSW (F : Fx p R s m args meth c cc nL Ts own D ca A) (hM : Ct l y ws rm av M post) {hh : List (Nat × Nat × Nat × Nat)} {index n maxL : Nat} {bytes : ByteArray} {ret : Option FieldType} {As : List Value} (cw : vx_CSW R s args own index y bytes maxL ret hh ws rm rm.cells rm.slots n) (hav : av B = As) (hn : As.length = n) (hst : st = As.reverse ++ rest) (hW : (rest.map fun v => v.category).sum ≤ 8) (hdg : decode cc pc = .ok (.invokestatic index, 3)) (hf : cells + rm.cells ≤ R.cells ∧ slots + rm.slots ≤ R.slots)
    (kk : ∀ (v : Option Value) (u : Mm), post B v u → G p l e R s m args below meth c Q D ca B Tl A nL (cells + rm.cells) (slots + rm.slots) u (pc + 3) lv (v.toList ++ rest)) : G p l e R s m args below meth c Q D ca B Tl A nL cells slots M pc lv st := by
  refine g_call (a := (As : List Value).toArray) F (fun H locs ls w9 h9 hl9 => ?_) kk
  exact vx_runSW (As := As) (rest := rest) F.1 (hM D ca B Tl H.size) cw ⟨Pre_blind, fun U hU hW => ⟨by rw [hav], F.pre w9 h9 hU hW⟩⟩ rfl hn hl9.1 hst (lv_room hW) hdg hf

theorem g_ifB_eq (F : Fx p R s m args meth c cc nL Ts own D ca A) {P : Prop} [Decidable P] {off : Int} (tgt : Nat) (hdg : decode cc pc = .ok (.ifCond .eq off, 3)) (ht : (pc : Int) + off = (tgt : Int)) (kt : ¬ P → G p l e R s m args below meth c Q D ca B Tl A nL cells slots M tgt lv st) (kf : P → G p l e R s m args below meth c Q D ca B Tl A nL cells slots M (pc + 3) lv st) : G p l e R s m args below meth c Q D ca B Tl A nL cells slots M pc lv (.int (b2i P) :: st) := g_if_eq F tgt hdg ht (fun q => kt (fun z => b2i_ne.mpr z q)) (fun q => kf (b2i_ne.mp q))
theorem g_ifB_ne (F : Fx p R s m args meth c cc nL Ts own D ca A) {P : Prop} [Decidable P] {off : Int} (tgt : Nat) (hdg : decode cc pc = .ok (.ifCond .ne off, 3)) (ht : (pc : Int) + off = (tgt : Int)) (kt : P → G p l e R s m args below meth c Q D ca B Tl A nL cells slots M tgt lv st) (kf : ¬ P → G p l e R s m args below meth c Q D ca B Tl A nL cells slots M (pc + 3) lv st) : G p l e R s m args below meth c Q D ca B Tl A nL cells slots M pc lv (.int (b2i P) :: st) := g_if_ne F tgt hdg ht (fun q => kt (b2i_ne.mp q)) (fun q => kf (fun z => b2i_ne.mpr z q))
theorem g_Ty (k : Ty M → G p l e R s m args below meth c Q D ca B Tl A nL cells slots M pc lv st) : G p l e R s m args below meth c Q D ca B Tl A nL cells slots M pc lv st := fun H locs ls w9 h9 hl9 => k w9.2.2 H locs ls w9 h9 hl9
theorem g_is {M2 : Mm} {lv2 : List (Nat × Value)} (h1 : M = M2) (h2 : lv = lv2) (k : G p l e R s m args below meth c Q D ca B Tl A nL cells slots M2 pc lv2 st) : G p l e R s m args below meth c Q D ca B Tl A nL cells slots M pc lv st := by rw [h1, h2]; exact k
/-- a call whose answer and memory are told exactly -/
theorem g_det {v0 : Option Value} {u0 : Mm} {P : Option Value → Mm → Prop} (h : P v0 u0) : ∀ v u, v = v0 ∧ u = u0 → P v u := by
  rintro _ _ ⟨rfl, rfl⟩; exact h
end CALL

