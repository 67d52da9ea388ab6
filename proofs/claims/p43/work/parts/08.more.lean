/-! long answers, methods with exception tables, the script beside the world -/
section ENTM
variable {l : Launch} {y : MethodName} {ws ws' : List Cond} {rm : Room} {cc : ByteArray} {maxL : Nat} {own : String} {av : Nat → List Value} {M : Mm} {post : Nat → Option Value → Mm → Prop}
theorem Ct.ofJ (hy : plainName y.cls = true) (hw : ws = Cond.code y cc maxL (some .long) :: ws') (ho : y.cls = own) (hav : ∀ B, (lg_sl (av B)).length ≤ maxL)
    (body : ∀ (p : Program) (e : Env) (s : State) (m : MethodId) (args : Array Value) (below : List Frame) (meth : Method) (c : Code) (D : va_G) (ca : Nat → ClassId) (B : Nat) (Tl : va_W) (A : Nat → Prop) (Q : State → Prop), Fx p rm s m args meth c cc maxL ws own D ca A →
      (∀ (M' : Mm) (pc : Nat) (lv : List (Nat × Value)) (x : Int64), decode cc pc = .ok (.lreturn, 1) → post B (some (.long x)) M' → G p l e rm s m args below meth c Q D ca B Tl A maxL rm.cells rm.slots M' pc lv [.long x]) →
      G p l e rm s m args below meth c Q D ca B Tl A maxL 0 0 M 0 (lv_args 0 (av B)) []) : Ct l y ws rm av M post := by
  intro D ca B Tl sz
  refine Met.ofW (cc := cc) (maxL := maxL) (ret := (some .long)) hy hw ?_
  intro p e s m args below meth c s₁ BL hml hv
  obtain ⟨rfl, hsz, hP, hK, hD, hT, hE⟩ := hv
  subst hsz
  have hts := atoms_spec (ws := ws) BL.pre
  have hown : s.vm.findClass own = some m.cls := ho ▸ findClass_of_methodNamed BL.named
  have hl := lv_entry (av B) (n := maxL) (hav B)
  rw [lg_entry_eq]
  refine body p e s m _ below meth c D ca B Tl (Aw B Tl s.heap.size) _ ⟨⟨BL.exec, BL.bytes, hml, hown, hts⟩, hK, fun q h => Or.inr (Or.inr h), hE, BL.notSynchronized⟩ ?_ s.heap [] _ ⟨hP, Aw_in hD, hT⟩ va_S.rf hl
  intro M' pc lv x hd hp H locs ls w9 h9 hl9
  exact W.lret BL.exec BL.bytes BL.returns (fun t ht hW => ⟨⟨some (.long x), M', rfl, hp, ht ▸ w9⟩, h9.F ht⟩) h9.2.2 hd BL.notSynchronized
theorem Ct.ofX {hh : List (Nat × Nat × Nat × Nat)} (hy : plainName y.cls = true) (hw : ws = Cond.codeWith y cc maxL (some .int) hh :: ws') (ho : y.cls = own) (hav : ∀ B, (lg_sl (av B)).length ≤ maxL)
    (body : ∀ (p : Program) (e : Env) (s : State) (m : MethodId) (args : Array Value) (below : List Frame) (meth : Method) (c : Code) (D : va_G) (ca : Nat → ClassId) (B : Nat) (Tl : va_W) (A : Nat → Prop) (Q : State → Prop), Fx p rm s m args meth c cc maxL ws own D ca A → c.exceptionTable.toList = tableOf hh →
      (∀ (M' : Mm) (pc : Nat) (lv : List (Nat × Value)) (x : Int32), decode cc pc = .ok (.ireturn, 1) → post B (some (.int x)) M' → G p l e rm s m args below meth c Q D ca B Tl A maxL rm.cells rm.slots M' pc lv [.int x]) →
      G p l e rm s m args below meth c Q D ca B Tl A maxL 0 0 M 0 (lv_args 0 (av B)) []) : Ct l y ws rm av M post := by
  intro D ca B Tl sz
  refine va_MetW (cc := cc) (maxL := maxL) (ret := some .int) (hh := hh) hy hw ?_
  intro p e s m args below meth c s₁ BL hml hv
  obtain ⟨rfl, hsz, hP, hK, hD, hT, hE⟩ := hv
  subst hsz
  have hts := atoms_spec (ws := ws) BL.pre
  have hown : s.vm.findClass own = some m.cls := ho ▸ findClass_of_methodNamed BL.named
  have hl := lv_entry (av B) (n := maxL) (hav B)
  have hTb : c.exceptionTable.toList = tableOf hh := vx_table (x := y) BL (hts _ (by rw [hw]; exact List.mem_cons_self))
  rw [lg_entry_eq]
  refine body p e s m _ below meth c D ca B Tl (Aw B Tl s.heap.size) _ ⟨⟨BL.exec, BL.bytes, hml, hown, hts⟩, hK, fun q h => Or.inr (Or.inr h), hE, BL.notSynchronized⟩ hTb ?_ s.heap [] _ ⟨hP, Aw_in hD, hT⟩ va_S.rf hl
  intro M' pc lv x hd hp H locs ls w9 h9 hl9
  exact W.zret BL.exec BL.bytes BL.returns rfl (fun t ht hW => ⟨⟨some (.int x), M', rfl, hp, ht ▸ w9⟩, h9.F ht⟩) h9.2.2 hd BL.notSynchronized
/-- the contract of a method that also reads the script -/
def PreX (D : va_G) (ca : Nat → ClassId) (B : Nat) (Tl : va_W) (sz : Nat) (M : Mm) (b L : Nat) (xs : Nat → Int32) (U : State) : Prop := Pre D ca B Tl sz M U ∧ va_X b L xs U U.heap ∧ b < sz ∧ ¬ Aw B Tl sz b
def CtX (l : Launch) (y : MethodName) (ws : List Cond) (rm : Room) (av : Nat → List Value) (M : Mm) (b L : Nat) (xs : Nat → Int32) (post : Nat → Option Value → Mm → Prop) : Prop :=
  ∀ (D : va_G) (ca : Nat → ClassId) (B : Nat) (Tl : va_W) (sz : Nat), Met l y ws rm (va_Pc (av B) (PreX D ca B Tl sz M b L xs)) (Qg (post B) D ca B Tl (Aw B Tl sz)) rm.cells rm.slots (Aw B Tl sz)
theorem CtX.of {b L : Nat} {xs : Nat → Int32} (hy : plainName y.cls = true) (hw : ws = Cond.code y cc maxL (some .int) :: ws') (ho : y.cls = own) (hav : ∀ B, (lg_sl (av B)).length ≤ maxL)
    (body : ∀ (p : Program) (e : Env) (s : State) (m : MethodId) (args : Array Value) (below : List Frame) (meth : Method) (c : Code) (D : va_G) (ca : Nat → ClassId) (B : Nat) (Tl : va_W) (A : Nat → Prop) (Q : State → Prop), Fx p rm s m args meth c cc maxL ws own D ca A → va_X b L xs s s.heap → b < s.heap.size → ¬ A b →
      (∀ (M' : Mm) (pc : Nat) (lv : List (Nat × Value)) (x : Int32), decode cc pc = .ok (.ireturn, 1) → post B (some (.int x)) M' → G p l e rm s m args below meth c Q D ca B Tl A maxL rm.cells rm.slots M' pc lv [.int x]) →
      G p l e rm s m args below meth c Q D ca B Tl A maxL 0 0 M 0 (lv_args 0 (av B)) []) : CtX l y ws rm av M b L xs post := by
  intro D ca B Tl sz
  refine Met.ofW (cc := cc) (maxL := maxL) (ret := (some .int)) hy hw ?_
  intro p e s m args below meth c s₁ BL hml hv
  obtain ⟨rfl, ⟨hsz, hP, hK, hD, hT, hE⟩, hX, hb1, hb2⟩ := hv
  subst hsz
  have hts := atoms_spec (ws := ws) BL.pre
  have hown : s.vm.findClass own = some m.cls := ho ▸ findClass_of_methodNamed BL.named
  have hl := lv_entry (av B) (n := maxL) (hav B)
  rw [lg_entry_eq]
  refine body p e s m _ below meth c D ca B Tl (Aw B Tl s.heap.size) _ ⟨⟨BL.exec, BL.bytes, hml, hown, hts⟩, hK, fun q h => Or.inr (Or.inr h), hE, BL.notSynchronized⟩ hX hb1 hb2 ?_ s.heap [] _ ⟨hP, Aw_in hD, hT⟩ va_S.rf hl
  intro M' pc lv x hd hp H locs ls w9 h9 hl9
  exact W.zret BL.exec BL.bytes BL.returns rfl (fun t ht hW => ⟨⟨some (.int x), M', rfl, hp, ht ▸ w9⟩, h9.F ht⟩) h9.2.2 hd BL.notSynchronized
end ENTM
section ROWM
variable {p : Program} {l : Launch} {e : Env} {R : Room} {s : State} {m : MethodId} {args : Array Value} {below : List Frame} {meth : Method} {c : Code} {Q : State → Prop} {D : va_G} {ca : Nat → ClassId} {B b L : Nat} {xs : Nat → Int32} {Tl : va_W} {A : Nat → Prop} {nL cells slots : Nat} {M : Mm} {pc : Nat} {lv : List (Nat × Value)} {st rest : List Value} {cc : ByteArray} {Ts : List Cond} {own : String}
variable {y : MethodName} {ws : List Cond} {rm : Room} {av : Nat → List Value} {post : Nat → Option Value → Mm → Prop}
theorem g_catch (F : Fx p R s m args meth c cc nL Ts own D ca A) {E : String} (pre : List ExceptionTableEntry) (x : ExceptionTableEntry) (suf : List ExceptionTableEntry) (hT : c.exceptionTable.toList = pre ++ x :: suf) (hpass : ∀ z ∈ pre, covers z pc = false ∨ (z.catchType ≠ 0 ∧ ∃ nm : String, Cond.classLink own z.catchType nm ∈ Ts ∧ va_Nc E nm s)) (hx : covers x pc = true) (h0 : x.catchType ≠ 0) (hl : Cond.classLink own x.catchType E ∈ Ts) (hE : E ∈ excL) (k : ∀ q, G p l e R s m args below meth c Q D ca B Tl A nL cells slots M x.handlerPc lv [.ref q]) : GT p l e R s m args below meth c Q D ca B Tl A nL cells slots M E pc lv := by
  intro H locs ls q9 ce rest w9 h9 hl9 hc1 hc2 hc3
  exact vx_catch F.1.2.2.2.1 pre x suf hT (fun z hz => (hpass z hz).imp id (fun q => ⟨q.1, q.2.imp fun nm w => ⟨F.1.2.2.2.2 _ w.1, w.2⟩⟩)) hx h0 (F.1.2.2.2.2 _ hl) (va_Nw.use rfl (F.2.2.2.1.2.2.2.2.1 _ hE)) hc1 hc2 hc3 (k q9 H locs ls w9 h9 hl9)
theorem g_sld (F : Fx p R s m args meth c cc nL Ts own D ca A) (hX : va_X b L xs s s.heap) (hbl : b < s.heap.size) (hbA : ¬ A b) {i : Int32} (j : Nat) (hi : i = nI j) (hj : j < L) (hL9 : L ≤ 3072) (hdg : decode cc pc = .ok (.iaload, 1)) (k : G p l e R s m args below meth c Q D ca B Tl A nL cells slots M (pc + 1) lv (.int (xs j) :: st)) : G p l e R s m args below meth c Q D ca B Tl A nL cells slots M pc lv (.int i :: .ref b :: st) := by
  subst hi
  intro H locs ls w9 h9 hl9
  refine va_sld F.1.1 F.1.2.1 hX hbl hbA h9 (vp_in_nI hj (by omega)) hdg ?_
  rw [nI_clamp (by omega)]
  exact k H locs ls w9 h9 hl9
theorem g_slen (F : Fx p R s m args meth c cc nL Ts own D ca A) (hX : va_X b L xs s s.heap) (hbl : b < s.heap.size) (hbA : ¬ A b) (hdg : decode cc pc = .ok (.arraylength, 1)) (k : G p l e R s m args below meth c Q D ca B Tl A nL cells slots M (pc + 1) lv (.int (nI L) :: st)) : G p l e R s m args below meth c Q D ca B Tl A nL cells slots M pc lv (.ref b :: st) := fun H locs ls w9 h9 hl9 => va_slen F.1.1 F.1.2.1 hX hbl hbA h9 hdg (k H locs ls w9 h9 hl9)
theorem PreX_blind {sz : Nat} : FrameBlind (va_Pc (av B) (PreX D ca B Tl sz M b L xs)) := fun _ _ _ _ q => ⟨q.1, q.2.1.call, va_X.moved (Vm.Alike.refl _) q.2.2.1, q.2.2.2⟩
theorem g_callX (F : Fx p R s m args meth c cc nL Ts own D ca A) (hX : va_X b L xs s s.heap) (hbl : b < s.heap.size) (hbA : ¬ A b) (hM : CtX l y ws rm av M b L xs post) {index n maxL : Nat} {bytes : ByteArray} {ret : Option FieldType} {As : List Value} (cw : CallB R s args own index y bytes maxL ret ws rm rm.cells rm.slots n ∧ (Cond.static y).before args s = true) (hav : av B = As) (hn : As.length = n) (hst : st = As.reverse ++ rest) (hW : (rest.map fun v => v.category).sum ≤ 8) (hdg : decode cc pc = .ok (.invokestatic index, 3)) (hf : cells + rm.cells ≤ R.cells ∧ slots + rm.slots ≤ R.slots)
    (kk : ∀ (v : Option Value) (u : Mm), post B v u → G p l e R s m args below meth c Q D ca B Tl A nL (cells + rm.cells) (slots + rm.slots) u (pc + 3) lv (v.toList ++ rest)) : G p l e R s m args below meth c Q D ca B Tl A nL cells slots M pc lv st := by
  refine g_call (a := (As : List Value).toArray) F (fun H locs ls w9 h9 hl9 => ?_) kk
  have hA := Aw_of (sz := H.size) w9.2.1 (fun q hq => F.2.2.1 q (Nat.le_trans h9.1 hq))
  refine va_runS (As := As) (rest := rest) F.1 (hM D ca B Tl H.size) cw ⟨PreX_blind, fun U hU hW => ⟨by rw [hav], F.pre w9 h9 hU hW, ?_, Nat.lt_of_lt_of_le hbl h9.1, fun z => hbA (hA _ z)⟩⟩ rfl hn hl9.1 hst (lv_room hW) hdg hf
  exact (va_X.moved hW.alike hX).kept (by rw [hU]; exact h9.2.1 b hbl hbA)
end ROWM
