theorem lv_ohit {x k : Int32} {a o d : Int} {r : List (Int × Int)} (h : x = k) (hk : k.toInt = a) : Op.lookupswitch.offset ((a, o) :: r) d x.toInt = o := by
  rw [Op.lookupswitch.offset_cons, if_pos (by rw [h, hk])]

/-! methods that return or throw -/
/-- thrown, at pc: a cell of class E -/
def GT (p : Program) (l : Launch) (e : Env) (R : Room) (s : State) (m : MethodId) (args : Array Value) (below : List Frame) (meth : Method) (c : Code) (Q : State → Prop) (D : va_G) (ca : Nat → ClassId) (B : Nat) (Tl : va_W) (A : Nat → Prop) (nL : Nat) (cells slots : Nat) (M : Mm) (E : String) (pc : Nat) (lv : List (Nat × Value)) : Prop :=
  ∀ (H : Heap) (locs : List Loc) (ls : Array Slot) (q9 : Nat) (ce : Cell) (rest : List Value), Wd D ca B Tl A M H → va_S A s.heap H locs → lv_has ls nL lv → H[q9]? = some ce → ce.vm = .none → s.vm.findClass E = some ce.cls → vx_W p l e R s m args below meth c H locs cells slots Q (F0 m pc ls rest) q9
/-- new X("..") is thrown here, and leaves -/
def Thr (p : Program) (l : Launch) (e : Env) (R : Room) (s : State) (m : MethodId) (args : Array Value) (below : List Frame) (meth : Method) (c : Code) (Q : State → Prop) (D : va_G) (ca : Nat → ClassId) (B : Nat) (Tl : va_W) (A : Nat → Prop) (nL : Nat) (cc : ByteArray) (Ts : List Cond) (own : String) (mc ms : Nat) (xp : String → Mm → Prop) : Prop :=
  ∀ (cls text : String) (ik is ic pc cells slots : Nat) (M : Mm) (lv : List (Nat × Value)) (st : List Value), Cond.classLink own ik cls ∈ Ts → Cond.initialized cls ∈ Ts → (own, is, text) ∈ strL → cls ∈ excL → Bundle.fit cls = true →
    (∀ w ∈ (vx_atS own ic cls ["java/lang/RuntimeException", "java/lang/Exception"]).filter goodWord, w ∈ Ts) → (∀ w ∈ (vx_atS own ic cls ["java/lang/RuntimeException", "java/lang/Exception"]).filter (fun w => !goodWord w), w ∈ [Cond.castable cls cls, Cond.declares (Bundle.initS "java/lang/RuntimeException"), Cond.declares (Bundle.initS "java/lang/Exception"), Cond.declares (Bundle.initS Bundle.tN)]) →
    (∀ w ∈ Cond.classLink own ik cls :: Cond.initialized cls :: vx_atS own ic cls ["java/lang/RuntimeException", "java/lang/Exception"], vx_ot w = true) →
    decode cc pc = .ok (.new ik, 3) → decode cc (pc + 3) = .ok (.dup, 1) → ((decode cc (pc + 4) = .ok (.ldc is, 2) ∧ decode cc (pc + 6) = .ok (.invokespecial ic, 3) ∧ decode cc (pc + 9) = .ok (.athrow, 1)) ∨ (decode cc (pc + 4) = .ok (.ldc_w is, 3) ∧ decode cc (pc + 7) = .ok (.invokespecial ic, 3) ∧ decode cc (pc + 10) = .ok (.athrow, 1))) →
    5 < R.frames → (st.map fun v => v.category).sum + 82 ≤ R.locals → cells + 1 ≤ mc → slots + 6 ≤ ms → mc ≤ R.cells → ms ≤ R.slots → xp cls M → G p l e R s m args below meth c Q D ca B Tl A nL cells slots M pc lv st
section ENTX
variable {l : Launch} {y : MethodName} {ws ws' : List Cond} {rm : Room} {cc : ByteArray} {maxL : Nat} {own : String} {av : Nat → List Value} {M : Mm} {post : Nat → Option Value → Mm → Prop} {xp : String → Mm → Prop}
theorem Thr.of {p : Program} {e : Env} {s : State} {m : MethodId} {args : Array Value} {below : List Frame} {meth : Method} {c : Code} {D : va_G} {ca : Nat → ClassId} {B : Nat} {Tl : va_W} (hls : l.stackTraces = false) (F : Fx p rm s m args meth c cc maxL ws own D ca (Aw B Tl s.heap.size)) (hT : ∀ x ∈ c.exceptionTable.toList, False) :
    Thr p l e rm s m args below meth c (vx_MQ below (Qg (post B) D ca B Tl (Aw B Tl s.heap.size)) (Xg xp D ca B Tl (Aw B Tl s.heap.size)) args s rm.cells rm.slots (Aw B Tl s.heap.size)) D ca B Tl (Aw B Tl s.heap.size) maxL cc ws own rm.cells rm.slots xp := by
  intro cls text ik is ic pc cells slots M lv st h1 h2 h3 h4 h5 h6 h7 h8 d0 d3 d hf hlo hc hsl hmc hms hxp H locs ls w9 h9 hl9
  obtain ⟨sa, hstr⟩ := F.2.2.2.1.2.2.2.1 _ h3
  have hn : ∀ n ∈ ["java/lang/RuntimeException", "java/lang/Exception"], Bundle.fit n = true := by decide +kernel
  have hat : ∀ w ∈ vx_atS own ic cls ["java/lang/RuntimeException", "java/lang/Exception"], w.before args s = true := vx_hat (fun w hw => F.1.2.2.2.2 _ (h6 w hw)) h7 (vx_c (va_Nw.use rfl (F.2.2.2.1.2.2.2.2.1 _ h4)) (vx_c (va_Nw.use rfl (F.2.2.2.1.2.2.2.2.2.1 _ (by decide +kernel))) (vx_c (va_Nw.use rfl (F.2.2.2.1.2.2.2.2.2.1 _ (by decide +kernel))) (vx_c (va_Nw.use rfl (F.2.2.2.1.2.2.2.2.2.1 _ (by decide +kernel))) vx_n))))
  have hx : ∀ t : State, s.vm.Alike t.vm → H.size ≤ t.heap.size → (∀ q : Nat, q < H.size → t.heap[q]? = H[q]?) → Xg xp D ca B Tl (Aw B Tl s.heap.size) cls s t := by
    intro t _ hz hk
    refine ⟨M, ⟨hxp, ?_, w9.2.1, w9.2.2⟩, Nat.le_trans h9.1 hz, fun q hq hA => ?_⟩
    · exact w9.1.kept (fun k q hq => hk q.1 (w9.1 k q hq).lt)
    · rw [hk q (Nat.lt_of_lt_of_le hq h9.1)]; exact h9.2.1 q hq hA
  rcases d with ⟨d4, d6, d9⟩ | ⟨d4, d6, d9⟩
  · exact vx_throwS (names := ["java/lang/RuntimeException", "java/lang/Exception"]) (sa := sa) F.1.1 F.1.2.1 hls F.1.2.2.2.1 h5 hn (F.1.2.2.2.2 _ h1) (F.1.2.2.2.2 _ h2) hstr hat h8 F.2.2.2.1.2.1 F.2.2.2.1.2.2.1 h9 (hl9.1.trans F.1.2.2.1.symm) d0 d3 d4 d6 d9 (fun x hx => absurd (hT x hx) id) (show 2 + 3 < rm.frames by omega) (show _ + (13 * (2 + 1) + 43) ≤ rm.locals by omega) (by omega) (by omega) F.2.2.2.2 hx h9.2.2 hc hsl
  · exact vx_throwSW (names := ["java/lang/RuntimeException", "java/lang/Exception"]) (sa := sa) F.1.1 F.1.2.1 hls F.1.2.2.2.1 h5 hn (F.1.2.2.2.2 _ h1) (F.1.2.2.2.2 _ h2) hstr hat h8 F.2.2.2.1.2.1 F.2.2.2.1.2.2.1 h9 (hl9.1.trans F.1.2.2.1.symm) d0 d3 d4 d6 d9 (fun x hx => absurd (hT x hx) id) (show 2 + 3 < rm.frames by omega) (show _ + (13 * (2 + 1) + 43) ≤ rm.locals by omega) (by omega) (by omega) F.2.2.2.2 hx h9.2.2 hc hsl

theorem Cx.ofI {ty : FieldType} (hls : l.stackTraces = false) (hy : plainName y.cls = true) (hw : ws = Cond.code y cc maxL (some ty) :: ws') (ho : y.cls = own) (hav : ∀ B, (lg_sl (av B)).length ≤ maxL)
    (body : ∀ (p : Program) (e : Env) (s : State) (m : MethodId) (args : Array Value) (below : List Frame) (meth : Method) (c : Code) (D : va_G) (ca : Nat → ClassId) (B : Nat) (Tl : va_W) (A : Nat → Prop) (Q : State → Prop), Fx p rm s m args meth c cc maxL ws own D ca A →
      (∀ (M' : Mm) (pc : Nat) (lv : List (Nat × Value)) (x : Int32), decode cc pc = .ok (.ireturn, 1) → narrow ty (.int x) = .int x → post B (some (.int x)) M' → G p l e rm s m args below meth c Q D ca B Tl A maxL rm.cells rm.slots M' pc lv [.int x]) →
      (∀ (E : String) (M' : Mm) (pc : Nat) (lv : List (Nat × Value)) (cells slots : Nat), cells ≤ rm.cells → slots ≤ rm.slots → xp E M' → GT p l e rm s m args below meth c Q D ca B Tl A maxL cells slots M' E pc lv) →
      Thr p l e rm s m args below meth c Q D ca B Tl A maxL cc ws own rm.cells rm.slots xp →
      G p l e rm s m args below meth c Q D ca B Tl A maxL 0 0 M 0 (lv_args 0 (av B)) []) : Cx l y ws rm av M post xp := by
  intro D ca B Tl sz
  refine vx_ofW (cc := cc) (maxL := maxL) (ret := (some ty)) hy hw ?_
  intro p e s m args below meth c s₁ BL hml hTb hv
  obtain ⟨rfl, hsz, hP, hK, hD, hT, hE⟩ := hv
  subst hsz
  have hts := atoms_spec (ws := ws) BL.pre
  have hown : s.vm.findClass own = some m.cls := ho ▸ findClass_of_methodNamed BL.named
  have hl := lv_entry (av B) (n := maxL) (hav B)
  rw [lg_entry_eq]
  have F : Fx p rm s m (av B).toArray meth c cc maxL ws own D ca (Aw B Tl s.heap.size) := ⟨⟨BL.exec, BL.bytes, hml, hown, hts⟩, hK, fun q h => Or.inr (Or.inr h), hE, BL.notSynchronized⟩
  refine body p e s m _ below meth c D ca B Tl (Aw B Tl s.heap.size) _ F ?_ ?_ (Thr.of hls F hTb) s.heap [] _ ⟨hP, Aw_in hD, hT⟩ va_S.rf hl
  · intro M' pc lv x hd hn hp H locs ls w9 h9 hl9
    exact vx_ret (W.zret BL.exec BL.bytes BL.returns hn (fun t ht hW => ⟨⟨some (.int x), M', rfl, hp, ht ▸ w9⟩, h9.F ht⟩) h9.2.2 hd BL.notSynchronized)
  · intro E M' pc lv cells slots h1 h2 hxp H locs ls q9 ce rest w9 h9 hl9 hc1 hc2 hc3
    exact vx_out (fun x hx => absurd (hTb x hx) id) F.2.2.2.2 hc1 hc2 hc3 (fun t ht _ => ⟨M', ⟨hxp, ht ▸ w9⟩, h9.F ht⟩) h9.2.2 h1 h2

theorem Cx.ofV (hls : l.stackTraces = false) (hy : plainName y.cls = true) (hw : ws = Cond.code y cc maxL none :: ws') (ho : y.cls = own) (hav : ∀ B, (lg_sl (av B)).length ≤ maxL)
    (body : ∀ (p : Program) (e : Env) (s : State) (m : MethodId) (args : Array Value) (below : List Frame) (meth : Method) (c : Code) (D : va_G) (ca : Nat → ClassId) (B : Nat) (Tl : va_W) (A : Nat → Prop) (Q : State → Prop), Fx p rm s m args meth c cc maxL ws own D ca A →
      (∀ (M' : Mm) (pc : Nat) (lv : List (Nat × Value)), decode cc pc = .ok (.return_, 1) → post B none M' → G p l e rm s m args below meth c Q D ca B Tl A maxL rm.cells rm.slots M' pc lv []) →
      (∀ (E : String) (M' : Mm) (pc : Nat) (lv : List (Nat × Value)) (cells slots : Nat), cells ≤ rm.cells → slots ≤ rm.slots → xp E M' → GT p l e rm s m args below meth c Q D ca B Tl A maxL cells slots M' E pc lv) →
      Thr p l e rm s m args below meth c Q D ca B Tl A maxL cc ws own rm.cells rm.slots xp →
      G p l e rm s m args below meth c Q D ca B Tl A maxL 0 0 M 0 (lv_args 0 (av B)) []) : Cx l y ws rm av M post xp := by
  intro D ca B Tl sz
  refine vx_ofW (cc := cc) (maxL := maxL) (ret := none) hy hw ?_
  intro p e s m args below meth c s₁ BL hml hTb hv
  obtain ⟨rfl, hsz, hP, hK, hD, hT, hE⟩ := hv
  subst hsz
  have hts := atoms_spec (ws := ws) BL.pre
  have hown : s.vm.findClass own = some m.cls := ho ▸ findClass_of_methodNamed BL.named
  have hl := lv_entry (av B) (n := maxL) (hav B)
  rw [lg_entry_eq]
  have F : Fx p rm s m (av B).toArray meth c cc maxL ws own D ca (Aw B Tl s.heap.size) := ⟨⟨BL.exec, BL.bytes, hml, hown, hts⟩, hK, fun q h => Or.inr (Or.inr h), hE, BL.notSynchronized⟩
  refine body p e s m _ below meth c D ca B Tl (Aw B Tl s.heap.size) _ F ?_ ?_ (Thr.of hls F hTb) s.heap [] _ ⟨hP, Aw_in hD, hT⟩ va_S.rf hl
  · intro M' pc lv hd hp H locs ls w9 h9 hl9
    exact vx_ret (W.vret BL.exec BL.bytes BL.returns (fun t ht hW => ⟨⟨none, M', rfl, hp, ht ▸ w9⟩, h9.F ht⟩) h9.2.2 hd BL.notSynchronized)
  · intro E M' pc lv cells slots h1 h2 hxp H locs ls q9 ce rest w9 h9 hl9 hc1 hc2 hc3
    exact vx_out (fun x hx => absurd (hTb x hx) id) F.2.2.2.2 hc1 hc2 hc3 (fun t ht _ => ⟨M', ⟨hxp, ht ▸ w9⟩, h9.F ht⟩) h9.2.2 h1 h2

theorem Cx.ofR {cl : String} (hls : l.stackTraces = false) (hy : plainName y.cls = true) (hw : ws = Cond.code y cc maxL (some (.object cl)) :: ws') (ho : y.cls = own) (hav : ∀ B, (lg_sl (av B)).length ≤ maxL)
    (body : ∀ (p : Program) (e : Env) (s : State) (m : MethodId) (args : Array Value) (below : List Frame) (meth : Method) (c : Code) (D : va_G) (ca : Nat → ClassId) (B : Nat) (Tl : va_W) (A : Nat → Prop) (Q : State → Prop), Fx p rm s m args meth c cc maxL ws own D ca A →
      (∀ (M' : Mm) (pc : Nat) (lv : List (Nat × Value)) (x : Nat), decode cc pc = .ok (.areturn, 1) → post B (some (.ref x)) M' → G p l e rm s m args below meth c Q D ca B Tl A maxL rm.cells rm.slots M' pc lv [.ref x]) →
      (∀ (E : String) (M' : Mm) (pc : Nat) (lv : List (Nat × Value)) (cells slots : Nat), cells ≤ rm.cells → slots ≤ rm.slots → xp E M' → GT p l e rm s m args below meth c Q D ca B Tl A maxL cells slots M' E pc lv) →
      Thr p l e rm s m args below meth c Q D ca B Tl A maxL cc ws own rm.cells rm.slots xp →
      G p l e rm s m args below meth c Q D ca B Tl A maxL 0 0 M 0 (lv_args 0 (av B)) []) : Cx l y ws rm av M post xp := by
  intro D ca B Tl sz
  refine vx_ofW (cc := cc) (maxL := maxL) (ret := (some (.object cl))) hy hw ?_
  intro p e s m args below meth c s₁ BL hml hTb hv
  obtain ⟨rfl, hsz, hP, hK, hD, hT, hE⟩ := hv
  subst hsz
  have hts := atoms_spec (ws := ws) BL.pre
  have hown : s.vm.findClass own = some m.cls := ho ▸ findClass_of_methodNamed BL.named
  have hl := lv_entry (av B) (n := maxL) (hav B)
  rw [lg_entry_eq]
  have F : Fx p rm s m (av B).toArray meth c cc maxL ws own D ca (Aw B Tl s.heap.size) := ⟨⟨BL.exec, BL.bytes, hml, hown, hts⟩, hK, fun q h => Or.inr (Or.inr h), hE, BL.notSynchronized⟩
  refine body p e s m _ below meth c D ca B Tl (Aw B Tl s.heap.size) _ F ?_ ?_ (Thr.of hls F hTb) s.heap [] _ ⟨hP, Aw_in hD, hT⟩ va_S.rf hl
  · intro M' pc lv x hd hp H locs ls w9 h9 hl9
    exact vx_ret (W.aret BL.exec BL.bytes BL.returns (Or.inl ⟨_, rfl⟩) (Or.inr ⟨_, rfl⟩) (fun t ht hW => ⟨⟨some (.ref x), M', rfl, hp, ht ▸ w9⟩, h9.F ht⟩) h9.2.2 hd BL.notSynchronized)
  · intro E M' pc lv cells slots h1 h2 hxp H locs ls q9 ce rest w9 h9 hl9 hc1 hc2 hc3
    exact vx_out (fun x hx => absurd (hTb x hx) id) F.2.2.2.2 hc1 hc2 hc3 (fun t ht _ => ⟨M', ⟨hxp, ht ▸ w9⟩, h9.F ht⟩) h9.2.2 h1 h2

end ENTX
section CALLX
variable {p : Program} {l : Launch} {e : Env} {R : Room} {s : State} {m : MethodId} {args : Array Value} {below : List Frame} {meth : Method} {c : Code} {Q : State → Prop} {D : va_G} {ca : Nat → ClassId} {B : Nat} {Tl : va_W} {A : Nat → Prop} {nL cells slots : Nat} {M : Mm} {pc : Nat} {lv : List (Nat × Value)} {st rest : List Value} {cc : ByteArray} {Ts : List Cond} {own : String}
variable {y : MethodName} {ws : List Cond} {rm : Room} {av : Nat → List Value} {post : Nat → Option Value → Mm → Prop} {xp : String → Mm → Prop}
theorem x_call {st0 : List Value} {a : Array Value} (F : Fx p R s m args meth c cc nL Ts own D ca A)
    (hr : ∀ (H : Heap) (locs : List Loc) (ls : Array Slot), Wd D ca B Tl A M H → va_S A s.heap H locs → lv_has ls nL lv → vx_Run p l e R s m args below meth c H locs cells slots rm.cells rm.slots (F0 m pc ls st0) rest (Qg (post B) D ca B Tl (Aw B Tl H.size) a) (Xg xp D ca B Tl (Aw B Tl H.size)) (Aw B Tl H.size))
    (kk : ∀ (v : Option Value) (u : Mm), post B v u → G p l e R s m args below meth c Q D ca B Tl A nL (cells + rm.cells) (slots + rm.slots) u (pc + 3) lv (v.toList ++ rest))
    (kx : ∀ (E : String) (u : Mm), xp E u → GT p l e R s m args below meth c Q D ca B Tl A nL (cells + rm.cells) (slots + rm.slots) u E pc lv) : G p l e R s m args below meth c Q D ca B Tl A nL cells slots M pc lv st0 := by
  intro H locs ls w9 h9 hl9 T hT X
  have hA := Aw_of (sz := H.size) w9.2.1 (fun q hq => F.2.2.1 q (Nat.le_trans h9.1 hq))
  rcases hr H locs ls w9 h9 hl9 T hT X with ⟨v, st₀, t, T', L, h0, X', hL, e1, e2, ⟨⟨v2, u, hv, hp, hb⟩, hF⟩, stp⟩ | ⟨q, st₀, t, T', L, E, ce, h0, X', hL, e1, e2, ⟨u, ⟨hp, hb⟩, hF⟩, hce, hcv, hcl, stp⟩
  · cases hv
    obtain ⟨k1, k2, k3⟩ := vx_keep h0 e1 h9 (fun q _ z => hA q z) hA hL hF
    obtain ⟨t2, a1, b1⟩ := kk v u hp T'.heap (locs ++ L) ls ⟨by rw [e1]; exact hb.1, hb.2.1.weaken (fun _ _ _ z => hA _ z), hb.2.2⟩ k3 hl9 T' rfl X'
    exact ⟨t2, stp t2 a1, b1⟩
  · obtain ⟨k1, k2, k3⟩ := vx_keep h0 e1 h9 (fun q _ z => hA q z) hA hL hF
    obtain ⟨t2, a1, b1⟩ := kx E u hp T'.heap (locs ++ L) ls q ce rest ⟨by rw [e1]; exact hb.1, hb.2.1.weaken (fun _ _ _ z => hA _ z), hb.2.2⟩ k3 hl9 (by rw [e1]; exact hce) hcv hcl T' rfl X'
    exact ⟨t2, stp.trans a1, b1⟩

theorem x_callV (F : Fx p R s m args meth c cc nL Ts own D ca A) (hM : Cx l y ws rm av M post xp) {C : String} {index n maxL : Nat} {bytes : ByteArray} {ret : Option FieldType} {As : List Value} (cw : CallW R s args own C index y bytes maxL ret ws rm rm.cells rm.slots n) {k r : Nat} (hr : isR k r) (hk : k < 9) {T : u_T} {N : Nat} (hc : vwCl[k]? = some (C, T, N)) (hav : av B = .ref (B + r) :: As) (hn : As.length = n) (hst : st = As.reverse ++ .ref (B + r) :: rest) (hW : (rest.map fun v => v.category).sum ≤ 8) (hdg : decode cc pc = .ok (.invokevirtual index, 3)) (hf : cells + rm.cells ≤ R.cells ∧ slots + rm.slots ≤ R.slots)
    (kk : ∀ (v : Option Value) (u : Mm), post B v u → G p l e R s m args below meth c Q D ca B Tl A nL (cells + rm.cells) (slots + rm.slots) u (pc + 3) lv (v.toList ++ rest))
    (kx : ∀ (E : String) (u : Mm), xp E u → GT p l e R s m args below meth c Q D ca B Tl A nL (cells + rm.cells) (slots + rm.slots) u E pc lv) : G p l e R s m args below meth c Q D ca B Tl A nL cells slots M pc lv st := by
  refine x_call (a := (.ref (B + r) :: As : List Value).toArray) F (fun H locs ls w9 h9 hl9 => ?_) kk kx
  exact vx_runV (As := As) (rest := rest) F.1 (hM D ca B Tl H.size) cw ⟨Pre_blind, va_recv F.2.1 w9.1 hc (wl_any hr hk).choose_spec, fun U hU hW => ⟨by rw [hav], F.pre w9 h9 hU hW⟩⟩ rfl hn hl9.1 hst (lv_room hW) hdg hf

theorem x_callS (F : Fx p R s m args meth c cc nL Ts own D ca A) (hM : Cx l y ws rm av M post xp) {index n maxL : Nat} {bytes : ByteArray} {ret : Option FieldType} {As : List Value} (cw : CallB R s args own index y bytes maxL ret ws rm rm.cells rm.slots n ∧ (Cond.static y).before args s = true) (hav : av B = As) (hn : As.length = n) (hst : st = As.reverse ++ rest) (hW : (rest.map fun v => v.category).sum ≤ 8) (hdg : decode cc pc = .ok (.invokestatic index, 3)) (hf : cells + rm.cells ≤ R.cells ∧ slots + rm.slots ≤ R.slots)
    (kk : ∀ (v : Option Value) (u : Mm), post B v u → G p l e R s m args below meth c Q D ca B Tl A nL (cells + rm.cells) (slots + rm.slots) u (pc + 3) lv (v.toList ++ rest))
    (kx : ∀ (E : String) (u : Mm), xp E u → GT p l e R s m args below meth c Q D ca B Tl A nL (cells + rm.cells) (slots + rm.slots) u E pc lv) : G p l e R s m args below meth c Q D ca B Tl A nL cells slots M pc lv st := by
  refine x_call (a := (As : List Value).toArray) F (fun H locs ls w9 h9 hl9 => ?_) kk kx
  exact vx_runS (As := As) (rest := rest) F.1 (hM D ca B Tl H.size) cw ⟨Pre_blind, fun U hU hW => ⟨by rw [hav], F.pre w9 h9 hU hW⟩⟩ rfl hn hl9.1 hst (lv_room hW) hdg hf

end CALLX
