/-! the law's methods: an array of one long beside the world; what is caught -/
abbrev TL (cl : ClassId) (B : Nat) (o : Nat → Int64) : va_W := [(B + 717, .inl (cl, 1, .inr (.inl o)))]
def Nc3 (U : State) : Prop := va_Nc xA xI U ∧ va_Nc xS xI U ∧ va_Nc xS xA U
def PreW (D : va_G) (ca : Nat → ClassId) (cl : ClassId) (B : Nat) (o : Nat → Int64) (sz : Nat) (M : Mm) (U : State) : Prop := Pre D ca B (TL cl B o) sz M U ∧ Nc3 U ∧ va_K D vwCl [(cl, .long)] U
def QW (post : Int32 → Int64 → Mm → Prop) (D : va_G) (ca : Nat → ClassId) (cl : ClassId) (B : Nat) (A : Nat → Prop) : Array Value → State → Outcome → State → Prop := fun _ st oc t => (∃ (k : Int32) (u : Mm) (o : Nat → Int64), oc = .returned (some (.int k)) ∧ post k (o 0) u ∧ Wd D ca B (TL cl B o) A u t.heap) ∧ va_F A st t
/-- the contract of a method of the law: its answer, the long that it leaves, the memory -/
def Cw (l : Launch) (y : MethodName) (ws : List Cond) (rm : Room) (av : Nat → List Value) (M : Mm) (post : Int32 → Int64 → Mm → Prop) : Prop :=
  ∀ (D : va_G) (ca : Nat → ClassId) (cl : ClassId) (B : Nat) (o : Nat → Int64) (sz : Nat), Met l y ws rm (va_Pc (av B) (PreW D ca cl B o sz M)) (QW post D ca cl B (Aw B (TL cl B o) sz)) rm.cells rm.slots (Aw B (TL cl B o) sz)
theorem Nc3.moved {u U : State} (hvm : u.vm.Alike U.vm) (h : Nc3 u) : Nc3 U := ⟨va_Nc.moved hvm h.1, va_Nc.moved hvm h.2.1, va_Nc.moved hvm h.2.2⟩
theorem PreW.call {D : va_G} {ca : Nat → ClassId} {cl : ClassId} {B : Nat} {o : Nat → Int64} {sz : Nat} {M : Mm} {U : State} {g : JFrame} {mk : MethodId} {a : Array Value} (h : PreW D ca cl B o sz M U) : PreW D ca cl B o sz M (U.calling g mk a) :=
  ⟨h.1.call, Nc3.moved (u := U) (U := U.calling g mk a) (Vm.Alike.refl U.vm) h.2.1, va_K.moved (u := U) (U := U.calling g mk a) (Vm.Alike.refl U.vm) h.2.2⟩
section WRAPR
variable {p : Program} {l : Launch} {e : Env} {R : Room} {s : State} {m : MethodId} {args : Array Value} {below : List Frame} {meth : Method} {c : Code} {Q : State → Prop} {D : va_G} {ca : Nat → ClassId} {cl : ClassId} {o : Nat → Int64} {B : Nat} {Tl : va_W} {A : Nat → Prop} {nL cells slots : Nat} {M : Mm} {pc : Nat} {lv : List (Nat × Value)} {st : List Value} {cc : ByteArray} {Ts : List Cond} {own : String}
theorem wl_out : (wld ca B M (TL cl B o))[717]? = some (B + 717, .inl (cl, 1, .inr (.inl o))) := by
  unfold wld
  rw [List.getElem?_append_right (by simp)]
  simp
theorem wl_outset (o2 : Nat → Int64) : (wld ca B M (TL cl B o)).set 717 (B + 717, .inl (cl, 1, .inr (.inl o2))) = wld ca B M (TL cl B o2) := by
  unfold wld
  rw [List.set_append_right _ _ (by simp)]
  simp
theorem g_out (F : Fx p R s m args meth c cc nL Ts own D ca A) (hL : va_K D vwCl [(cl, .long)] s) {x : Int64} (hdg : decode cc pc = .ok (.lastore, 1)) (k : G p l e R s m args below meth c Q D ca B (TL cl B (vp_updL o 0 x)) A nL cells slots M (pc + 1) lv st) : G p l e R s m args below meth c Q D ca B (TL cl B o) A nL cells slots M pc lv (.long x :: .int 0 :: .ref (B + 717) :: st) := by
  intro H locs ls w9 h9 hl9
  refine va_last F.1.1 F.1.2.1 hL w9.1 w9.2.1 h9 717 0 wl_out rfl (i := 0) (fun z => z.elim (fun q => absurd q (by decide)) (fun q => absurd q (by decide))) hdg (fun H1 locs1 hP hD hS => ?_)
  rw [show (0 : Int32).toNatClampNeg = 0 from rfl, wl_outset] at hP hD
  exact k H1 locs1 ls ⟨hP, hD, w9.2.2⟩ hS hl9
theorem g_outld (F : Fx p R s m args meth c cc nL Ts own D ca A) (hL : va_K D vwCl [(cl, .long)] s) (hdg : decode cc pc = .ok (.laload, 1)) (k : G p l e R s m args below meth c Q D ca B (TL cl B o) A nL cells slots M (pc + 1) lv (.long (o 0) :: st)) : G p l e R s m args below meth c Q D ca B (TL cl B o) A nL cells slots M pc lv (.int 0 :: .ref (B + 717) :: st) := by
  intro H locs ls w9 h9 hl9
  exact va_lald F.1.1 F.1.2.1 hL w9.1 717 0 wl_out rfl (i := 0) (fun z => z.elim (fun q => absurd q (by decide)) (fun q => absurd q (by decide))) hdg (k H locs ls w9 h9 hl9)
theorem g_catch (F : Fx p R s m args meth c cc nL Ts own D ca A) {E : String} (pre : List ExceptionTableEntry) (x : ExceptionTableEntry) (suf : List ExceptionTableEntry) (hT : c.exceptionTable.toList = pre ++ x :: suf) (hpass : ∀ z ∈ pre, covers z pc = false ∨ (z.catchType ≠ 0 ∧ ∃ nm : String, Cond.classLink own z.catchType nm ∈ Ts ∧ va_Nc E nm s)) (hx : covers x pc = true) (h0 : x.catchType ≠ 0) (hl : Cond.classLink own x.catchType E ∈ Ts) (hE : E ∈ excL) (k : ∀ q, G p l e R s m args below meth c Q D ca B Tl A nL cells slots M x.handlerPc lv [.ref q]) : GT p l e R s m args below meth c Q D ca B Tl A nL cells slots M E pc lv := by
  intro H locs ls q9 ce rest w9 h9 hl9 hc1 hc2 hc3
  exact vx_catch F.1.2.2.2.1 pre x suf hT (fun z hz => (hpass z hz).imp id (fun q => ⟨q.1, q.2.imp fun nm w => ⟨F.1.2.2.2.2 _ w.1, w.2⟩⟩)) hx h0 (F.1.2.2.2.2 _ hl) (va_Nw.use rfl (F.2.2.2.1.2.2.2.2.1 _ hE)) hc1 hc2 hc3 (k q9 H locs ls w9 h9 hl9)
theorem Cw.of {y : MethodName} {ws ws' : List Cond} {rm : Room} {maxL : Nat} {av : Nat → List Value} {post : Int32 → Int64 → Mm → Prop} {hh : List (Nat × Nat × Nat × Nat)} (hy : plainName y.cls = true) (hw : ws = Cond.codeWith y cc maxL (some .int) hh :: ws') (ho : y.cls = own) (hav : ∀ B, (lg_sl (av B)).length ≤ maxL)
    (body : ∀ (p : Program) (e : Env) (s : State) (m : MethodId) (args : Array Value) (below : List Frame) (meth : Method) (c : Code) (D : va_G) (ca : Nat → ClassId) (cl : ClassId) (B : Nat) (o : Nat → Int64) (A : Nat → Prop) (Q : State → Prop), Fx p rm s m args meth c cc maxL ws own D ca A → Nc3 s → va_K D vwCl [(cl, .long)] s → c.exceptionTable.toList = tableOf hh →
      (∀ (o' : Nat → Int64) (M' : Mm) (pc : Nat) (lv : List (Nat × Value)) (x : Int32), decode cc pc = .ok (.ireturn, 1) → post x (o' 0) M' → G p l e rm s m args below meth c Q D ca B (TL cl B o') A maxL rm.cells rm.slots M' pc lv [.int x]) →
      G p l e rm s m args below meth c Q D ca B (TL cl B o) A maxL 0 0 M 0 (lv_args 0 (av B)) []) : Cw l y ws rm av M post := by
  intro D ca cl B o sz
  refine va_MetW (cc := cc) (maxL := maxL) (ret := some .int) (hh := hh) hy hw ?_
  intro p e s m args below meth c s₁ BL hml hv
  obtain ⟨rfl, ⟨hsz, hP, hK, hD, hT, hE⟩, hN, hL⟩ := hv
  subst hsz
  have hts := atoms_spec (ws := ws) BL.pre
  have hown : s.vm.findClass own = some m.cls := ho ▸ findClass_of_methodNamed BL.named
  have hl := lv_entry (av B) (n := maxL) (hav B)
  have hTb : c.exceptionTable.toList = tableOf hh := vx_table (x := y) BL (hts _ (by rw [hw]; exact List.mem_cons_self))
  rw [lg_entry_eq]
  refine body p e s m _ below meth c D ca cl B o (Aw B (TL cl B o) s.heap.size) _ ⟨⟨BL.exec, BL.bytes, hml, hown, hts⟩, hK, fun q h => Or.inr (Or.inr h), hE, BL.notSynchronized⟩ hN hL hTb ?_ s.heap [] _ ⟨hP, Aw_in hD, hT⟩ va_S.rf hl
  intro o' M' pc lv x hd hp H locs ls w9 h9 hl9
  exact W.zret BL.exec BL.bytes BL.returns rfl (fun t ht hW => ⟨⟨x, M', o', rfl, hp, ht ▸ w9⟩, h9.F ht⟩) h9.2.2 hd BL.notSynchronized
end WRAPR
/-- what a method of the law leaves: the answer, or which exception -/
def WP1 (post : Nat → Option Value → Mm → Prop) (xp : String → Mm → Prop) (E1 : String) (k : Int32) (o : Int64) (u : Mm) : Prop := (k = 0 ∧ ∃ B x, post B (some (.int x)) u ∧ o = x.toInt64) ∨ (k = 1 ∧ xp E1 u)
def WP2 (post : Nat → Option Value → Mm → Prop) (xp : String → Mm → Prop) (E1 E2 : String) (k : Int32) (o : Int64) (u : Mm) : Prop := (k = 0 ∧ ∃ B x, post B (some (.int x)) u ∧ o = x.toInt64) ∨ (k = 1 ∧ xp E1 u) ∨ (k = 2 ∧ xp E2 u)
/-- .. of a truth -/
def bL (x : Int32) : Int64 := if x = 0 then 0 else 1
def WB1 (post : Nat → Option Value → Mm → Prop) (xp : String → Mm → Prop) (E1 : String) (k : Int32) (o : Int64) (u : Mm) : Prop := (k = 0 ∧ ∃ B x, post B (some (.int x)) u ∧ o = bL x) ∨ (k = 1 ∧ xp E1 u)
def WB2 (post : Nat → Option Value → Mm → Prop) (xp : String → Mm → Prop) (E1 E2 : String) (k : Int32) (o : Int64) (u : Mm) : Prop := (k = 0 ∧ ∃ B x, post B (some (.int x)) u ∧ o = bL x) ∨ (k = 1 ∧ xp E1 u) ∨ (k = 2 ∧ xp E2 u)

abbrev rmL_setChimney : Room := { frames := 8, cells := 3, slots := 18, locals := 171 }
set_option maxHeartbeats 400000 in
set_option maxRecDepth 100000 in
theorem kL_setChimney (l : Launch) {M : Mm} (x1 : Int32) (x2 : Int32) (x3 : Int32) (x4 : Int32) (x5 : Int32) {post : Nat → Option Value → Mm → Prop} {xp : String → Mm → Prop} (hM : Cx l yX8_setChimney wsX8_setChimney rmX8_setChimney (fun B => [.ref (B + 0), .int x1, .int x2, .int x3, .int x4, .int x5]) M post xp) (hp : ∀ B v u, post B v u → ∃ x, v = some (.int x)) (hx : ∀ E u, xp E u → E = xI ∨ E = xA) : Cw l yL_setChimney wsL_setChimney rmL_setChimney (fun B => [.ref (B + 0), .int x1, .int x2, .int x3, .int x4, .int x5, .ref (B + 717)]) M (WP2 post xp xI xA) := by
  refine Cw.of (own := RL) (by decide +kernel) rfl rfl (fun B => Nat.le_of_ble_eq_true rfl) ?_
  intro pp ee ss mm aa bb me c9 DD ca cl B oo AA QQ F hN hL hT K
  show G pp l ee rmL_setChimney ss mm aa bb me c9 QQ DD ca B (TL cl B oo) AA 8 0 0 M 0 [(0, .ref (B + 0)), (1, .int x1), (2, .int x2), (3, .int x3), (4, .int x4), (5, .int x5), (6, .ref (B + 717))] []
  refine g_aload F dL_setChimney_0 6 rfl ?_
  refine g_iconst F (v := 0) dL_setChimney_2 (by decide) ?_
  refine g_aload_n F dL_setChimney_3 rfl 0 rfl ?_
  refine g_iload_n F dL_setChimney_4 rfl 1 rfl ?_
  refine g_iload_n F dL_setChimney_5 rfl 2 rfl ?_
  refine g_iload_n F dL_setChimney_6 rfl 3 rfl ?_
  refine g_iload F dL_setChimney_7 4 rfl ?_
  refine g_iload F dL_setChimney_9 5 rfl ?_
  refine x_callV F hM (cwV 5 F.1.2.2.2.2 gL_setChimney_X8_setChimney rfl rfl rfl (by decide +kernel) ⟨Nat.le_of_ble_eq_true rfl, Nat.le_of_ble_eq_true rfl⟩) r0 (by decide) rfl rfl rfl rfl (Nat.le_of_ble_eq_true rfl) dL_setChimney_11 ⟨Nat.le_of_ble_eq_true rfl, Nat.le_of_ble_eq_true rfl⟩ (fun v9 u9 h9 => ?_) (fun E9 u9 x9 => ?_)
  · obtain ⟨x9, rfl⟩ := hp _ _ _ h9
    refine g_i2l F dL_setChimney_14 ?_
    refine g_out F hL dL_setChimney_15 ?_
    refine g_goto F 27 dL_setChimney_16 (by decide) ?_
    refine g_iconst F (v := 0) dL_setChimney_27 (by decide) ?_
    refine g_widen (k := rmL_setChimney.cells) (n := rmL_setChimney.slots) (Nat.le_of_ble_eq_true rfl) (Nat.le_of_ble_eq_true rfl) ?_
    exact K _ _ _ _ _ dL_setChimney_28 (Or.inl ⟨rfl, _, x9, h9, rfl⟩)
  · have hE := hx _ _ x9
    rcases hE with rfl | rfl
    · refine g_catch F [] ⟨0, 16, 19, 13⟩ [⟨0, 16, 23, 15⟩] hT (fun z hz => absurd hz List.not_mem_nil) (by decide) (by decide) (by decide +kernel) (by decide +kernel) (fun q9 => ?_)
      refine g_astore F dL_setChimney_19 (by decide) rfl ?_
      refine g_iconst F (v := 1) dL_setChimney_21 (by decide) ?_
      refine g_widen (k := rmL_setChimney.cells) (n := rmL_setChimney.slots) (Nat.le_of_ble_eq_true rfl) (Nat.le_of_ble_eq_true rfl) ?_
      exact K _ _ _ _ _ dL_setChimney_22 (Or.inr (Or.inl ⟨rfl, x9⟩))
    · refine g_catch F [⟨0, 16, 19, 13⟩] ⟨0, 16, 23, 15⟩ [] hT (fun z hz => by obtain rfl := List.mem_singleton.mp hz; exact Or.inr ⟨by decide, xI, by decide +kernel, hN.1⟩) (by decide) (by decide) (by decide +kernel) (by decide +kernel) (fun q9 => ?_)
      refine g_astore F dL_setChimney_23 (by decide) rfl ?_
      refine g_iconst F (v := 2) dL_setChimney_25 (by decide) ?_
      refine g_widen (k := rmL_setChimney.cells) (n := rmL_setChimney.slots) (Nat.le_of_ble_eq_true rfl) (Nat.le_of_ble_eq_true rfl) ?_
      exact K _ _ _ _ _ dL_setChimney_26 (Or.inr (Or.inr ⟨rfl, x9⟩))

abbrev rmL_setGrey : Room := { frames := 8, cells := 1, slots := 6, locals := 168 }
set_option maxHeartbeats 400000 in
set_option maxRecDepth 100000 in
theorem kL_setGrey (l : Launch) {M : Mm} (x1 : Int32) (x2 : Int32) {post : Nat → Option Value → Mm → Prop} {xp : String → Mm → Prop} (hM : Cx l yX8_setGrey wsX8_setGrey rmX8_setGrey (fun B => [.ref (B + 0), .int x1, .int x2]) M post xp) (hp : ∀ B v u, post B v u → ∃ x, v = some (.int x)) (hx : ∀ E u, xp E u → E = xA) : Cw l yL_setGrey wsL_setGrey rmL_setGrey (fun B => [.ref (B + 0), .int x1, .int x2, .ref (B + 717)]) M (WP1 post xp xA) := by
  refine Cw.of (own := RL) (by decide +kernel) rfl rfl (fun B => Nat.le_of_ble_eq_true rfl) ?_
  intro pp ee ss mm aa bb me c9 DD ca cl B oo AA QQ F hN hL hT K
  show G pp l ee rmL_setGrey ss mm aa bb me c9 QQ DD ca B (TL cl B oo) AA 5 0 0 M 0 [(0, .ref (B + 0)), (1, .int x1), (2, .int x2), (3, .ref (B + 717))] []
  refine g_aload_n F dL_setGrey_0 rfl 3 rfl ?_
  refine g_iconst F (v := 0) dL_setGrey_1 (by decide) ?_
  refine g_aload_n F dL_setGrey_2 rfl 0 rfl ?_
  refine g_iload_n F dL_setGrey_3 rfl 1 rfl ?_
  refine g_iload_n F dL_setGrey_4 rfl 2 rfl ?_
  refine x_callV F hM (cwV 2 F.1.2.2.2.2 gL_setGrey_X8_setGrey rfl rfl rfl (by decide +kernel) ⟨Nat.le_of_ble_eq_true rfl, Nat.le_of_ble_eq_true rfl⟩) r0 (by decide) rfl rfl rfl rfl (Nat.le_of_ble_eq_true rfl) dL_setGrey_5 ⟨Nat.le_of_ble_eq_true rfl, Nat.le_of_ble_eq_true rfl⟩ (fun v9 u9 h9 => ?_) (fun E9 u9 x9 => ?_)
  · obtain ⟨x9, rfl⟩ := hp _ _ _ h9
    refine g_i2l F dL_setGrey_8 ?_
    refine g_out F hL dL_setGrey_9 ?_
    refine g_goto F 17 dL_setGrey_10 (by decide) ?_
    refine g_iconst F (v := 0) dL_setGrey_17 (by decide) ?_
    refine g_widen (k := rmL_setGrey.cells) (n := rmL_setGrey.slots) (Nat.le_of_ble_eq_true rfl) (Nat.le_of_ble_eq_true rfl) ?_
    exact K _ _ _ _ _ dL_setGrey_18 (Or.inl ⟨rfl, _, x9, h9, rfl⟩)
  · have hE := hx _ _ x9
    obtain rfl := hE
    refine g_catch F [] ⟨0, 10, 13, 15⟩ [] hT (fun z hz => absurd hz List.not_mem_nil) (by decide) (by decide) (by decide +kernel) (by decide +kernel) (fun q9 => ?_)
    refine g_astore F dL_setGrey_13 (by decide) rfl ?_
    refine g_iconst F (v := 1) dL_setGrey_15 (by decide) ?_
    refine g_widen (k := rmL_setGrey.cells) (n := rmL_setGrey.slots) (Nat.le_of_ble_eq_true rfl) (Nat.le_of_ble_eq_true rfl) ?_
    exact K _ _ _ _ _ dL_setGrey_16 (Or.inr ⟨rfl, x9⟩)

abbrev rmL_watch : Room := { frames := 8, cells := 2, slots := 12, locals := 169 }
set_option maxHeartbeats 400000 in
set_option maxRecDepth 100000 in
theorem kL_watch (l : Launch) {M : Mm} (x1 : Int32) (x2 : Int32) {post : Nat → Option Value → Mm → Prop} {xp : String → Mm → Prop} (hM : Cx l yX8_watch wsX8_watch rmX8_watch (fun B => [.ref (B + 0), .int x1, .int x2]) M post xp) (hp : ∀ B v u, post B v u → ∃ x, v = some (.int x)) (hx : ∀ E u, xp E u → E = xI ∨ E = xA) : Cw l yL_watch wsL_watch rmL_watch (fun B => [.ref (B + 0), .int x1, .int x2, .ref (B + 717)]) M (WP2 post xp xI xA) := by
  refine Cw.of (own := RL) (by decide +kernel) rfl rfl (fun B => Nat.le_of_ble_eq_true rfl) ?_
  intro pp ee ss mm aa bb me c9 DD ca cl B oo AA QQ F hN hL hT K
  show G pp l ee rmL_watch ss mm aa bb me c9 QQ DD ca B (TL cl B oo) AA 5 0 0 M 0 [(0, .ref (B + 0)), (1, .int x1), (2, .int x2), (3, .ref (B + 717))] []
  refine g_aload_n F dL_watch_0 rfl 3 rfl ?_
  refine g_iconst F (v := 0) dL_watch_1 (by decide) ?_
  refine g_aload_n F dL_watch_2 rfl 0 rfl ?_
  refine g_iload_n F dL_watch_3 rfl 1 rfl ?_
  refine g_iload_n F dL_watch_4 rfl 2 rfl ?_
  refine x_callV F hM (cwV 2 F.1.2.2.2.2 gL_watch_X8_watch rfl rfl rfl (by decide +kernel) ⟨Nat.le_of_ble_eq_true rfl, Nat.le_of_ble_eq_true rfl⟩) r0 (by decide) rfl rfl rfl rfl (Nat.le_of_ble_eq_true rfl) dL_watch_5 ⟨Nat.le_of_ble_eq_true rfl, Nat.le_of_ble_eq_true rfl⟩ (fun v9 u9 h9 => ?_) (fun E9 u9 x9 => ?_)
  · obtain ⟨x9, rfl⟩ := hp _ _ _ h9
    refine g_i2l F dL_watch_8 ?_
    refine g_out F hL dL_watch_9 ?_
    refine g_goto F 21 dL_watch_10 (by decide) ?_
    refine g_iconst F (v := 0) dL_watch_21 (by decide) ?_
    refine g_widen (k := rmL_watch.cells) (n := rmL_watch.slots) (Nat.le_of_ble_eq_true rfl) (Nat.le_of_ble_eq_true rfl) ?_
    exact K _ _ _ _ _ dL_watch_22 (Or.inl ⟨rfl, _, x9, h9, rfl⟩)
  · have hE := hx _ _ x9
    rcases hE with rfl | rfl
    · refine g_catch F [] ⟨0, 10, 13, 13⟩ [⟨0, 10, 17, 15⟩] hT (fun z hz => absurd hz List.not_mem_nil) (by decide) (by decide) (by decide +kernel) (by decide +kernel) (fun q9 => ?_)
      refine g_astore F dL_watch_13 (by decide) rfl ?_
      refine g_iconst F (v := 1) dL_watch_15 (by decide) ?_
      refine g_widen (k := rmL_watch.cells) (n := rmL_watch.slots) (Nat.le_of_ble_eq_true rfl) (Nat.le_of_ble_eq_true rfl) ?_
      exact K _ _ _ _ _ dL_watch_16 (Or.inr (Or.inl ⟨rfl, x9⟩))
    · refine g_catch F [⟨0, 10, 13, 13⟩] ⟨0, 10, 17, 15⟩ [] hT (fun z hz => by obtain rfl := List.mem_singleton.mp hz; exact Or.inr ⟨by decide, xI, by decide +kernel, hN.1⟩) (by decide) (by decide) (by decide +kernel) (by decide +kernel) (fun q9 => ?_)
      refine g_astore F dL_watch_17 (by decide) rfl ?_
      refine g_iconst F (v := 2) dL_watch_19 (by decide) ?_
      refine g_widen (k := rmL_watch.cells) (n := rmL_watch.slots) (Nat.le_of_ble_eq_true rfl) (Nat.le_of_ble_eq_true rfl) ?_
      exact K _ _ _ _ _ dL_watch_20 (Or.inr (Or.inr ⟨rfl, x9⟩))

abbrev rmL_setBias : Room := { frames := 8, cells := 2, slots := 12, locals := 169 }
set_option maxHeartbeats 400000 in
set_option maxRecDepth 100000 in
theorem kL_setBias (l : Launch) {M : Mm} (x1 : Int32) (x2 : Int32) {post : Nat → Option Value → Mm → Prop} {xp : String → Mm → Prop} (hM : Cx l yX8_setBias wsX8_setBias rmX8_setBias (fun B => [.ref (B + 0), .int x1, .int x2]) M post xp) (hp : ∀ B v u, post B v u → ∃ x, v = some (.int x)) (hx : ∀ E u, xp E u → E = xI ∨ E = xA) : Cw l yL_setBias wsL_setBias rmL_setBias (fun B => [.ref (B + 0), .int x1, .int x2, .ref (B + 717)]) M (WP2 post xp xI xA) := by
  refine Cw.of (own := RL) (by decide +kernel) rfl rfl (fun B => Nat.le_of_ble_eq_true rfl) ?_
  intro pp ee ss mm aa bb me c9 DD ca cl B oo AA QQ F hN hL hT K
  show G pp l ee rmL_setBias ss mm aa bb me c9 QQ DD ca B (TL cl B oo) AA 5 0 0 M 0 [(0, .ref (B + 0)), (1, .int x1), (2, .int x2), (3, .ref (B + 717))] []
  refine g_aload_n F dL_setBias_0 rfl 3 rfl ?_
  refine g_iconst F (v := 0) dL_setBias_1 (by decide) ?_
  refine g_aload_n F dL_setBias_2 rfl 0 rfl ?_
  refine g_iload_n F dL_setBias_3 rfl 1 rfl ?_
  refine g_iload_n F dL_setBias_4 rfl 2 rfl ?_
  refine x_callV F hM (cwV 2 F.1.2.2.2.2 gL_setBias_X8_setBias rfl rfl rfl (by decide +kernel) ⟨Nat.le_of_ble_eq_true rfl, Nat.le_of_ble_eq_true rfl⟩) r0 (by decide) rfl rfl rfl rfl (Nat.le_of_ble_eq_true rfl) dL_setBias_5 ⟨Nat.le_of_ble_eq_true rfl, Nat.le_of_ble_eq_true rfl⟩ (fun v9 u9 h9 => ?_) (fun E9 u9 x9 => ?_)
  · obtain ⟨x9, rfl⟩ := hp _ _ _ h9
    refine g_i2l F dL_setBias_8 ?_
    refine g_out F hL dL_setBias_9 ?_
    refine g_goto F 21 dL_setBias_10 (by decide) ?_
    refine g_iconst F (v := 0) dL_setBias_21 (by decide) ?_
    refine g_widen (k := rmL_setBias.cells) (n := rmL_setBias.slots) (Nat.le_of_ble_eq_true rfl) (Nat.le_of_ble_eq_true rfl) ?_
    exact K _ _ _ _ _ dL_setBias_22 (Or.inl ⟨rfl, _, x9, h9, rfl⟩)
  · have hE := hx _ _ x9
    rcases hE with rfl | rfl
    · refine g_catch F [] ⟨0, 10, 13, 13⟩ [⟨0, 10, 17, 15⟩] hT (fun z hz => absurd hz List.not_mem_nil) (by decide) (by decide) (by decide +kernel) (by decide +kernel) (fun q9 => ?_)
      refine g_astore F dL_setBias_13 (by decide) rfl ?_
      refine g_iconst F (v := 1) dL_setBias_15 (by decide) ?_
      refine g_widen (k := rmL_setBias.cells) (n := rmL_setBias.slots) (Nat.le_of_ble_eq_true rfl) (Nat.le_of_ble_eq_true rfl) ?_
      exact K _ _ _ _ _ dL_setBias_16 (Or.inr (Or.inl ⟨rfl, x9⟩))
    · refine g_catch F [⟨0, 10, 13, 13⟩] ⟨0, 10, 17, 15⟩ [] hT (fun z hz => by obtain rfl := List.mem_singleton.mp hz; exact Or.inr ⟨by decide, xI, by decide +kernel, hN.1⟩) (by decide) (by decide) (by decide +kernel) (by decide +kernel) (fun q9 => ?_)
      refine g_astore F dL_setBias_17 (by decide) rfl ?_
      refine g_iconst F (v := 2) dL_setBias_19 (by decide) ?_
      refine g_widen (k := rmL_setBias.cells) (n := rmL_setBias.slots) (Nat.le_of_ble_eq_true rfl) (Nat.le_of_ble_eq_true rfl) ?_
      exact K _ _ _ _ _ dL_setBias_20 (Or.inr (Or.inr ⟨rfl, x9⟩))

abbrev rmL_setLimit : Room := { frames := 8, cells := 1, slots := 6, locals := 168 }
set_option maxHeartbeats 400000 in
set_option maxRecDepth 100000 in
theorem kL_setLimit (l : Launch) {M : Mm} (x1 : Int32) (x2 : Int32) {post : Nat → Option Value → Mm → Prop} {xp : String → Mm → Prop} (hM : Cx l yX8_setLimit wsX8_setLimit rmX8_setLimit (fun B => [.ref (B + 0), .int x1, .int x2]) M post xp) (hp : ∀ B v u, post B v u → ∃ x, v = some (.int x)) (hx : ∀ E u, xp E u → E = xA) : Cw l yL_setLimit wsL_setLimit rmL_setLimit (fun B => [.ref (B + 0), .int x1, .int x2, .ref (B + 717)]) M (WP1 post xp xA) := by
  refine Cw.of (own := RL) (by decide +kernel) rfl rfl (fun B => Nat.le_of_ble_eq_true rfl) ?_
  intro pp ee ss mm aa bb me c9 DD ca cl B oo AA QQ F hN hL hT K
  show G pp l ee rmL_setLimit ss mm aa bb me c9 QQ DD ca B (TL cl B oo) AA 5 0 0 M 0 [(0, .ref (B + 0)), (1, .int x1), (2, .int x2), (3, .ref (B + 717))] []
  refine g_aload_n F dL_setLimit_0 rfl 3 rfl ?_
  refine g_iconst F (v := 0) dL_setLimit_1 (by decide) ?_
  refine g_aload_n F dL_setLimit_2 rfl 0 rfl ?_
  refine g_iload_n F dL_setLimit_3 rfl 1 rfl ?_
  refine g_iload_n F dL_setLimit_4 rfl 2 rfl ?_
  refine x_callV F hM (cwV 2 F.1.2.2.2.2 gL_setLimit_X8_setLimit rfl rfl rfl (by decide +kernel) ⟨Nat.le_of_ble_eq_true rfl, Nat.le_of_ble_eq_true rfl⟩) r0 (by decide) rfl rfl rfl rfl (Nat.le_of_ble_eq_true rfl) dL_setLimit_5 ⟨Nat.le_of_ble_eq_true rfl, Nat.le_of_ble_eq_true rfl⟩ (fun v9 u9 h9 => ?_) (fun E9 u9 x9 => ?_)
  · obtain ⟨x9, rfl⟩ := hp _ _ _ h9
    refine g_i2l F dL_setLimit_8 ?_
    refine g_out F hL dL_setLimit_9 ?_
    refine g_goto F 17 dL_setLimit_10 (by decide) ?_
    refine g_iconst F (v := 0) dL_setLimit_17 (by decide) ?_
    refine g_widen (k := rmL_setLimit.cells) (n := rmL_setLimit.slots) (Nat.le_of_ble_eq_true rfl) (Nat.le_of_ble_eq_true rfl) ?_
    exact K _ _ _ _ _ dL_setLimit_18 (Or.inl ⟨rfl, _, x9, h9, rfl⟩)
  · have hE := hx _ _ x9
    obtain rfl := hE
    refine g_catch F [] ⟨0, 10, 13, 15⟩ [] hT (fun z hz => absurd hz List.not_mem_nil) (by decide) (by decide) (by decide +kernel) (by decide +kernel) (fun q9 => ?_)
    refine g_astore F dL_setLimit_13 (by decide) rfl ?_
    refine g_iconst F (v := 1) dL_setLimit_15 (by decide) ?_
    refine g_widen (k := rmL_setLimit.cells) (n := rmL_setLimit.slots) (Nat.le_of_ble_eq_true rfl) (Nat.le_of_ble_eq_true rfl) ?_
    exact K _ _ _ _ _ dL_setLimit_16 (Or.inr ⟨rfl, x9⟩)

abbrev rmL_pass : Room := { frames := 8, cells := 1, slots := 6, locals := 166 }
set_option maxHeartbeats 400000 in
set_option maxRecDepth 100000 in
theorem kL_pass (l : Launch) {M : Mm} (x1 : Int32) {post : Nat → Option Value → Mm → Prop} {xp : String → Mm → Prop} (hM : Cx l yX8_pass wsX8_pass rmX8_pass (fun B => [.ref (B + 0), .int x1]) M post xp) (hp : ∀ B v u, post B v u → ∃ x, v = some (.int x)) (hx : ∀ E u, xp E u → E = xA) : Cw l yL_pass wsL_pass rmL_pass (fun B => [.ref (B + 0), .int x1, .ref (B + 717)]) M (WP1 post xp xA) := by
  refine Cw.of (own := RL) (by decide +kernel) rfl rfl (fun B => Nat.le_of_ble_eq_true rfl) ?_
  intro pp ee ss mm aa bb me c9 DD ca cl B oo AA QQ F hN hL hT K
  show G pp l ee rmL_pass ss mm aa bb me c9 QQ DD ca B (TL cl B oo) AA 4 0 0 M 0 [(0, .ref (B + 0)), (1, .int x1), (2, .ref (B + 717))] []
  refine g_aload_n F dL_pass_0 rfl 2 rfl ?_
  refine g_iconst F (v := 0) dL_pass_1 (by decide) ?_
  refine g_aload_n F dL_pass_2 rfl 0 rfl ?_
  refine g_iload_n F dL_pass_3 rfl 1 rfl ?_
  refine x_callV F hM (cwV 1 F.1.2.2.2.2 gL_pass_X8_pass rfl rfl rfl (by decide +kernel) ⟨Nat.le_of_ble_eq_true rfl, Nat.le_of_ble_eq_true rfl⟩) r0 (by decide) rfl rfl rfl rfl (Nat.le_of_ble_eq_true rfl) dL_pass_4 ⟨Nat.le_of_ble_eq_true rfl, Nat.le_of_ble_eq_true rfl⟩ (fun v9 u9 h9 => ?_) (fun E9 u9 x9 => ?_)
  · obtain ⟨x9, rfl⟩ := hp _ _ _ h9
    refine g_i2l F dL_pass_7 ?_
    refine g_out F hL dL_pass_8 ?_
    refine g_goto F 15 dL_pass_9 (by decide) ?_
    refine g_iconst F (v := 0) dL_pass_15 (by decide) ?_
    refine g_widen (k := rmL_pass.cells) (n := rmL_pass.slots) (Nat.le_of_ble_eq_true rfl) (Nat.le_of_ble_eq_true rfl) ?_
    exact K _ _ _ _ _ dL_pass_16 (Or.inl ⟨rfl, _, x9, h9, rfl⟩)
  · have hE := hx _ _ x9
    obtain rfl := hE
    refine g_catch F [] ⟨0, 9, 12, 15⟩ [] hT (fun z hz => absurd hz List.not_mem_nil) (by decide) (by decide) (by decide +kernel) (by decide +kernel) (fun q9 => ?_)
    refine g_astore_n F dL_pass_12 rfl (by decide) rfl ?_
    refine g_iconst F (v := 1) dL_pass_13 (by decide) ?_
    refine g_widen (k := rmL_pass.cells) (n := rmL_pass.slots) (Nat.le_of_ble_eq_true rfl) (Nat.le_of_ble_eq_true rfl) ?_
    exact K _ _ _ _ _ dL_pass_14 (Or.inr ⟨rfl, x9⟩)

abbrev rmL_appeal : Room := { frames := 8, cells := 2, slots := 12, locals := 167 }
set_option maxHeartbeats 400000 in
set_option maxRecDepth 100000 in
theorem kL_appeal (l : Launch) {M : Mm} (x1 : Int32) {post : Nat → Option Value → Mm → Prop} {xp : String → Mm → Prop} (hM : Cx l yX8_appeal wsX8_appeal rmX8_appeal (fun B => [.ref (B + 0), .int x1]) M post xp) (hp : ∀ B v u, post B v u → ∃ x, v = some (.int x)) (hx : ∀ E u, xp E u → E = xI ∨ E = xS) : Cw l yL_appeal wsL_appeal rmL_appeal (fun B => [.ref (B + 0), .int x1, .ref (B + 717)]) M (WB2 post xp xI xS) := by
  refine Cw.of (own := RL) (by decide +kernel) rfl rfl (fun B => Nat.le_of_ble_eq_true rfl) ?_
  intro pp ee ss mm aa bb me c9 DD ca cl B oo AA QQ F hN hL hT K
  show G pp l ee rmL_appeal ss mm aa bb me c9 QQ DD ca B (TL cl B oo) AA 4 0 0 M 0 [(0, .ref (B + 0)), (1, .int x1), (2, .ref (B + 717))] []
  refine g_aload_n F dL_appeal_0 rfl 2 rfl ?_
  refine g_iconst F (v := 0) dL_appeal_1 (by decide) ?_
  refine g_aload_n F dL_appeal_2 rfl 0 rfl ?_
  refine g_iload_n F dL_appeal_3 rfl 1 rfl ?_
  refine x_callV F hM (cwV 1 F.1.2.2.2.2 gL_appeal_X8_appeal rfl rfl rfl (by decide +kernel) ⟨Nat.le_of_ble_eq_true rfl, Nat.le_of_ble_eq_true rfl⟩) r0 (by decide) rfl rfl rfl rfl (Nat.le_of_ble_eq_true rfl) dL_appeal_4 ⟨Nat.le_of_ble_eq_true rfl, Nat.le_of_ble_eq_true rfl⟩ (fun v9 u9 h9 => ?_) (fun E9 u9 x9 => ?_)
  · obtain ⟨x9, rfl⟩ := hp _ _ _ h9
    refine g_if_eq F 14 dL_appeal_7 (by decide) (fun h1 => ?_) (fun h1 => ?_)
    · refine g_lconst F (v := 0) dL_appeal_14 (by decide) ?_
      refine g_out F hL dL_appeal_15 ?_
      refine g_goto F 25 dL_appeal_16 (by decide) ?_
      refine g_iconst F (v := 0) dL_appeal_25 (by decide) ?_
      refine g_widen (k := rmL_appeal.cells) (n := rmL_appeal.slots) (Nat.le_of_ble_eq_true rfl) (Nat.le_of_ble_eq_true rfl) ?_
      exact K _ _ _ _ _ dL_appeal_26 (Or.inl ⟨rfl, _, x9, h9, (if_pos h1).symm⟩)
    · refine g_lconst F (v := 1) dL_appeal_10 (by decide) ?_
      refine g_goto F 15 dL_appeal_11 (by decide) ?_
      refine g_out F hL dL_appeal_15 ?_
      refine g_goto F 25 dL_appeal_16 (by decide) ?_
      refine g_iconst F (v := 0) dL_appeal_25 (by decide) ?_
      refine g_widen (k := rmL_appeal.cells) (n := rmL_appeal.slots) (Nat.le_of_ble_eq_true rfl) (Nat.le_of_ble_eq_true rfl) ?_
      exact K _ _ _ _ _ dL_appeal_26 (Or.inl ⟨rfl, _, x9, h9, (if_neg h1).symm⟩)
  · have hE := hx _ _ x9
    rcases hE with rfl | rfl
    · refine g_catch F [] ⟨0, 16, 19, 13⟩ [⟨0, 16, 22, 38⟩] hT (fun z hz => absurd hz List.not_mem_nil) (by decide) (by decide) (by decide +kernel) (by decide +kernel) (fun q9 => ?_)
      refine g_astore_n F dL_appeal_19 rfl (by decide) rfl ?_
      refine g_iconst F (v := 1) dL_appeal_20 (by decide) ?_
      refine g_widen (k := rmL_appeal.cells) (n := rmL_appeal.slots) (Nat.le_of_ble_eq_true rfl) (Nat.le_of_ble_eq_true rfl) ?_
      exact K _ _ _ _ _ dL_appeal_21 (Or.inr (Or.inl ⟨rfl, x9⟩))
    · refine g_catch F [⟨0, 16, 19, 13⟩] ⟨0, 16, 22, 38⟩ [] hT (fun z hz => by obtain rfl := List.mem_singleton.mp hz; exact Or.inr ⟨by decide, xI, by decide +kernel, hN.2.1⟩) (by decide) (by decide) (by decide +kernel) (by decide +kernel) (fun q9 => ?_)
      refine g_astore_n F dL_appeal_22 rfl (by decide) rfl ?_
      refine g_iconst F (v := 2) dL_appeal_23 (by decide) ?_
      refine g_widen (k := rmL_appeal.cells) (n := rmL_appeal.slots) (Nat.le_of_ble_eq_true rfl) (Nat.le_of_ble_eq_true rfl) ?_
      exact K _ _ _ _ _ dL_appeal_24 (Or.inr (Or.inr ⟨rfl, x9⟩))

abbrev rmL_read : Room := { frames := 9, cells := 61, slots := 366, locals := 167 }
set_option maxHeartbeats 400000 in
set_option maxRecDepth 100000 in
theorem kL_read (l : Launch) {M : Mm} {post : Nat → Option Value → Mm → Prop} {xp : String → Mm → Prop} (hM : Cx l yX8_read wsX8_read rmX8_read (fun B => [.ref (B + 0)]) M post xp) (hp : ∀ B v u, post B v u → ∃ x, v = some (.int x)) (hx : ∀ E u, xp E u → E = xA) : Cw l yL_read wsL_read rmL_read (fun B => [.ref (B + 0), .ref (B + 717)]) M (WP1 post xp xA) := by
  refine Cw.of (own := RL) (by decide +kernel) rfl rfl (fun B => Nat.le_of_ble_eq_true rfl) ?_
  intro pp ee ss mm aa bb me c9 DD ca cl B oo AA QQ F hN hL hT K
  show G pp l ee rmL_read ss mm aa bb me c9 QQ DD ca B (TL cl B oo) AA 3 0 0 M 0 [(0, .ref (B + 0)), (1, .ref (B + 717))] []
  refine g_aload_n F dL_read_0 rfl 1 rfl ?_
  refine g_iconst F (v := 0) dL_read_1 (by decide) ?_
  refine g_aload_n F dL_read_2 rfl 0 rfl ?_
  refine x_callV F hM (cwV 0 F.1.2.2.2.2 gL_read_X8_read rfl rfl rfl (by decide +kernel) ⟨Nat.le_of_ble_eq_true rfl, Nat.le_of_ble_eq_true rfl⟩) r0 (by decide) rfl rfl rfl rfl (Nat.le_of_ble_eq_true rfl) dL_read_3 ⟨Nat.le_of_ble_eq_true rfl, Nat.le_of_ble_eq_true rfl⟩ (fun v9 u9 h9 => ?_) (fun E9 u9 x9 => ?_)
  · obtain ⟨x9, rfl⟩ := hp _ _ _ h9
    refine g_i2l F dL_read_6 ?_
    refine g_out F hL dL_read_7 ?_
    refine g_goto F 14 dL_read_8 (by decide) ?_
    refine g_iconst F (v := 0) dL_read_14 (by decide) ?_
    refine g_widen (k := rmL_read.cells) (n := rmL_read.slots) (Nat.le_of_ble_eq_true rfl) (Nat.le_of_ble_eq_true rfl) ?_
    exact K _ _ _ _ _ dL_read_15 (Or.inl ⟨rfl, _, x9, h9, rfl⟩)
  · have hE := hx _ _ x9
    obtain rfl := hE
    refine g_catch F [] ⟨0, 8, 11, 15⟩ [] hT (fun z hz => absurd hz List.not_mem_nil) (by decide) (by decide) (by decide +kernel) (by decide +kernel) (fun q9 => ?_)
    refine g_astore_n F dL_read_11 rfl (by decide) rfl ?_
    refine g_iconst F (v := 1) dL_read_12 (by decide) ?_
    refine g_widen (k := rmL_read.cells) (n := rmL_read.slots) (Nat.le_of_ble_eq_true rfl) (Nat.le_of_ble_eq_true rfl) ?_
    exact K _ _ _ _ _ dL_read_13 (Or.inr ⟨rfl, x9⟩)

abbrev rmL_shadeOf : Room := { frames := 8, cells := 2, slots := 12, locals := 134 }
set_option maxHeartbeats 400000 in
set_option maxRecDepth 100000 in
theorem kL_shadeOf (l : Launch) {M : Mm} (x1 : Int32) (x2 : Int32) {post : Nat → Option Value → Mm → Prop} {xp : String → Mm → Prop} (hM : Cx l yX8_shadeOf wsX8_shadeOf rmX8_shadeOf (fun B => [.ref (B + 0), .int x1, .int x2]) M post xp) (hp : ∀ B v u, post B v u → ∃ x, v = some (.int x)) (hx : ∀ E u, xp E u → E = xI ∨ E = xA) : Cw l yL_shadeOf wsL_shadeOf rmL_shadeOf (fun B => [.ref (B + 0), .int x1, .int x2, .ref (B + 717)]) M (WP2 post xp xI xA) := by
  refine Cw.of (own := RL) (by decide +kernel) rfl rfl (fun B => Nat.le_of_ble_eq_true rfl) ?_
  intro pp ee ss mm aa bb me c9 DD ca cl B oo AA QQ F hN hL hT K
  show G pp l ee rmL_shadeOf ss mm aa bb me c9 QQ DD ca B (TL cl B oo) AA 5 0 0 M 0 [(0, .ref (B + 0)), (1, .int x1), (2, .int x2), (3, .ref (B + 717))] []
  refine g_aload_n F dL_shadeOf_0 rfl 3 rfl ?_
  refine g_iconst F (v := 0) dL_shadeOf_1 (by decide) ?_
  refine g_aload_n F dL_shadeOf_2 rfl 0 rfl ?_
  refine g_iload_n F dL_shadeOf_3 rfl 1 rfl ?_
  refine g_iload_n F dL_shadeOf_4 rfl 2 rfl ?_
  refine x_callV F hM (cwV 2 F.1.2.2.2.2 gL_shadeOf_X8_shadeOf rfl rfl rfl (by decide +kernel) ⟨Nat.le_of_ble_eq_true rfl, Nat.le_of_ble_eq_true rfl⟩) r0 (by decide) rfl rfl rfl rfl (Nat.le_of_ble_eq_true rfl) dL_shadeOf_5 ⟨Nat.le_of_ble_eq_true rfl, Nat.le_of_ble_eq_true rfl⟩ (fun v9 u9 h9 => ?_) (fun E9 u9 x9 => ?_)
  · obtain ⟨x9, rfl⟩ := hp _ _ _ h9
    refine g_i2l F dL_shadeOf_8 ?_
    refine g_out F hL dL_shadeOf_9 ?_
    refine g_goto F 21 dL_shadeOf_10 (by decide) ?_
    refine g_iconst F (v := 0) dL_shadeOf_21 (by decide) ?_
    refine g_widen (k := rmL_shadeOf.cells) (n := rmL_shadeOf.slots) (Nat.le_of_ble_eq_true rfl) (Nat.le_of_ble_eq_true rfl) ?_
    exact K _ _ _ _ _ dL_shadeOf_22 (Or.inl ⟨rfl, _, x9, h9, rfl⟩)
  · have hE := hx _ _ x9
    rcases hE with rfl | rfl
    · refine g_catch F [] ⟨0, 10, 13, 13⟩ [⟨0, 10, 17, 15⟩] hT (fun z hz => absurd hz List.not_mem_nil) (by decide) (by decide) (by decide +kernel) (by decide +kernel) (fun q9 => ?_)
      refine g_astore F dL_shadeOf_13 (by decide) rfl ?_
      refine g_iconst F (v := 1) dL_shadeOf_15 (by decide) ?_
      refine g_widen (k := rmL_shadeOf.cells) (n := rmL_shadeOf.slots) (Nat.le_of_ble_eq_true rfl) (Nat.le_of_ble_eq_true rfl) ?_
      exact K _ _ _ _ _ dL_shadeOf_16 (Or.inr (Or.inl ⟨rfl, x9⟩))
    · refine g_catch F [⟨0, 10, 13, 13⟩] ⟨0, 10, 17, 15⟩ [] hT (fun z hz => by obtain rfl := List.mem_singleton.mp hz; exact Or.inr ⟨by decide, xI, by decide +kernel, hN.1⟩) (by decide) (by decide) (by decide +kernel) (by decide +kernel) (fun q9 => ?_)
      refine g_astore F dL_shadeOf_17 (by decide) rfl ?_
      refine g_iconst F (v := 2) dL_shadeOf_19 (by decide) ?_
      refine g_widen (k := rmL_shadeOf.cells) (n := rmL_shadeOf.slots) (Nat.le_of_ble_eq_true rfl) (Nat.le_of_ble_eq_true rfl) ?_
      exact K _ _ _ _ _ dL_shadeOf_20 (Or.inr (Or.inr ⟨rfl, x9⟩))

abbrev rmL_nextStoking : Room := { frames := 8, cells := 2, slots := 12, locals := 134 }
set_option maxHeartbeats 400000 in
set_option maxRecDepth 100000 in
theorem kL_nextStoking (l : Launch) {M : Mm} (x1 : Int32) (x2 : Int32) {post : Nat → Option Value → Mm → Prop} {xp : String → Mm → Prop} (hM : Cx l yX8_nextStoking wsX8_nextStoking rmX8_nextStoking (fun B => [.ref (B + 0), .int x1, .int x2]) M post xp) (hp : ∀ B v u, post B v u → ∃ x, v = some (.int x)) (hx : ∀ E u, xp E u → E = xI ∨ E = xA) : Cw l yL_nextStoking wsL_nextStoking rmL_nextStoking (fun B => [.ref (B + 0), .int x1, .int x2, .ref (B + 717)]) M (WP2 post xp xI xA) := by
  refine Cw.of (own := RL) (by decide +kernel) rfl rfl (fun B => Nat.le_of_ble_eq_true rfl) ?_
  intro pp ee ss mm aa bb me c9 DD ca cl B oo AA QQ F hN hL hT K
  show G pp l ee rmL_nextStoking ss mm aa bb me c9 QQ DD ca B (TL cl B oo) AA 5 0 0 M 0 [(0, .ref (B + 0)), (1, .int x1), (2, .int x2), (3, .ref (B + 717))] []
  refine g_aload_n F dL_nextStoking_0 rfl 3 rfl ?_
  refine g_iconst F (v := 0) dL_nextStoking_1 (by decide) ?_
  refine g_aload_n F dL_nextStoking_2 rfl 0 rfl ?_
  refine g_iload_n F dL_nextStoking_3 rfl 1 rfl ?_
  refine g_iload_n F dL_nextStoking_4 rfl 2 rfl ?_
  refine x_callV F hM (cwV 2 F.1.2.2.2.2 gL_nextStoking_X8_nextStoking rfl rfl rfl (by decide +kernel) ⟨Nat.le_of_ble_eq_true rfl, Nat.le_of_ble_eq_true rfl⟩) r0 (by decide) rfl rfl rfl rfl (Nat.le_of_ble_eq_true rfl) dL_nextStoking_5 ⟨Nat.le_of_ble_eq_true rfl, Nat.le_of_ble_eq_true rfl⟩ (fun v9 u9 h9 => ?_) (fun E9 u9 x9 => ?_)
  · obtain ⟨x9, rfl⟩ := hp _ _ _ h9
    refine g_i2l F dL_nextStoking_8 ?_
    refine g_out F hL dL_nextStoking_9 ?_
    refine g_goto F 21 dL_nextStoking_10 (by decide) ?_
    refine g_iconst F (v := 0) dL_nextStoking_21 (by decide) ?_
    refine g_widen (k := rmL_nextStoking.cells) (n := rmL_nextStoking.slots) (Nat.le_of_ble_eq_true rfl) (Nat.le_of_ble_eq_true rfl) ?_
    exact K _ _ _ _ _ dL_nextStoking_22 (Or.inl ⟨rfl, _, x9, h9, rfl⟩)
  · have hE := hx _ _ x9
    rcases hE with rfl | rfl
    · refine g_catch F [] ⟨0, 10, 13, 13⟩ [⟨0, 10, 17, 15⟩] hT (fun z hz => absurd hz List.not_mem_nil) (by decide) (by decide) (by decide +kernel) (by decide +kernel) (fun q9 => ?_)
      refine g_astore F dL_nextStoking_13 (by decide) rfl ?_
      refine g_iconst F (v := 1) dL_nextStoking_15 (by decide) ?_
      refine g_widen (k := rmL_nextStoking.cells) (n := rmL_nextStoking.slots) (Nat.le_of_ble_eq_true rfl) (Nat.le_of_ble_eq_true rfl) ?_
      exact K _ _ _ _ _ dL_nextStoking_16 (Or.inr (Or.inl ⟨rfl, x9⟩))
    · refine g_catch F [⟨0, 10, 13, 13⟩] ⟨0, 10, 17, 15⟩ [] hT (fun z hz => by obtain rfl := List.mem_singleton.mp hz; exact Or.inr ⟨by decide, xI, by decide +kernel, hN.1⟩) (by decide) (by decide) (by decide +kernel) (by decide +kernel) (fun q9 => ?_)
      refine g_astore F dL_nextStoking_17 (by decide) rfl ?_
      refine g_iconst F (v := 2) dL_nextStoking_19 (by decide) ?_
      refine g_widen (k := rmL_nextStoking.cells) (n := rmL_nextStoking.slots) (Nat.le_of_ble_eq_true rfl) (Nat.le_of_ble_eq_true rfl) ?_
      exact K _ _ _ _ _ dL_nextStoking_20 (Or.inr (Or.inr ⟨rfl, x9⟩))

abbrev rmL_smoke : Room := { frames := 8, cells := 2, slots := 12, locals := 136 }
set_option maxHeartbeats 400000 in
set_option maxRecDepth 100000 in
theorem kL_smoke (l : Launch) {M : Mm} (x1 : Int32) (x2 : Int32) (x3 : Int32) (x4 : Int32) {post : Nat → Option Value → Mm → Prop} {xp : String → Mm → Prop} (hM : Cx l yX8_smoke wsX8_smoke rmX8_smoke (fun B => [.ref (B + 0), .int x1, .int x2, .int x3, .int x4]) M post xp) (hp : ∀ B v u, post B v u → ∃ x, v = some (.int x)) (hx : ∀ E u, xp E u → E = xI ∨ E = xA) : Cw l yL_smoke wsL_smoke rmL_smoke (fun B => [.ref (B + 0), .int x1, .int x2, .int x3, .int x4, .ref (B + 717)]) M (WP2 post xp xI xA) := by
  refine Cw.of (own := RL) (by decide +kernel) rfl rfl (fun B => Nat.le_of_ble_eq_true rfl) ?_
  intro pp ee ss mm aa bb me c9 DD ca cl B oo AA QQ F hN hL hT K
  show G pp l ee rmL_smoke ss mm aa bb me c9 QQ DD ca B (TL cl B oo) AA 7 0 0 M 0 [(0, .ref (B + 0)), (1, .int x1), (2, .int x2), (3, .int x3), (4, .int x4), (5, .ref (B + 717))] []
  refine g_aload F dL_smoke_0 5 rfl ?_
  refine g_iconst F (v := 0) dL_smoke_2 (by decide) ?_
  refine g_aload_n F dL_smoke_3 rfl 0 rfl ?_
  refine g_iload_n F dL_smoke_4 rfl 1 rfl ?_
  refine g_iload_n F dL_smoke_5 rfl 2 rfl ?_
  refine g_iload_n F dL_smoke_6 rfl 3 rfl ?_
  refine g_iload F dL_smoke_7 4 rfl ?_
  refine x_callV F hM (cwV 4 F.1.2.2.2.2 gL_smoke_X8_smoke rfl rfl rfl (by decide +kernel) ⟨Nat.le_of_ble_eq_true rfl, Nat.le_of_ble_eq_true rfl⟩) r0 (by decide) rfl rfl rfl rfl (Nat.le_of_ble_eq_true rfl) dL_smoke_9 ⟨Nat.le_of_ble_eq_true rfl, Nat.le_of_ble_eq_true rfl⟩ (fun v9 u9 h9 => ?_) (fun E9 u9 x9 => ?_)
  · obtain ⟨x9, rfl⟩ := hp _ _ _ h9
    refine g_i2l F dL_smoke_12 ?_
    refine g_out F hL dL_smoke_13 ?_
    refine g_goto F 25 dL_smoke_14 (by decide) ?_
    refine g_iconst F (v := 0) dL_smoke_25 (by decide) ?_
    refine g_widen (k := rmL_smoke.cells) (n := rmL_smoke.slots) (Nat.le_of_ble_eq_true rfl) (Nat.le_of_ble_eq_true rfl) ?_
    exact K _ _ _ _ _ dL_smoke_26 (Or.inl ⟨rfl, _, x9, h9, rfl⟩)
  · have hE := hx _ _ x9
    rcases hE with rfl | rfl
    · refine g_catch F [] ⟨0, 14, 17, 13⟩ [⟨0, 14, 21, 15⟩] hT (fun z hz => absurd hz List.not_mem_nil) (by decide) (by decide) (by decide +kernel) (by decide +kernel) (fun q9 => ?_)
      refine g_astore F dL_smoke_17 (by decide) rfl ?_
      refine g_iconst F (v := 1) dL_smoke_19 (by decide) ?_
      refine g_widen (k := rmL_smoke.cells) (n := rmL_smoke.slots) (Nat.le_of_ble_eq_true rfl) (Nat.le_of_ble_eq_true rfl) ?_
      exact K _ _ _ _ _ dL_smoke_20 (Or.inr (Or.inl ⟨rfl, x9⟩))
    · refine g_catch F [⟨0, 14, 17, 13⟩] ⟨0, 14, 21, 15⟩ [] hT (fun z hz => by obtain rfl := List.mem_singleton.mp hz; exact Or.inr ⟨by decide, xI, by decide +kernel, hN.1⟩) (by decide) (by decide) (by decide +kernel) (by decide +kernel) (fun q9 => ?_)
      refine g_astore F dL_smoke_21 (by decide) rfl ?_
      refine g_iconst F (v := 2) dL_smoke_23 (by decide) ?_
      refine g_widen (k := rmL_smoke.cells) (n := rmL_smoke.slots) (Nat.le_of_ble_eq_true rfl) (Nat.le_of_ble_eq_true rfl) ?_
      exact K _ _ _ _ _ dL_smoke_24 (Or.inr (Or.inr ⟨rfl, x9⟩))

abbrev rmL_greyOf : Room := { frames := 8, cells := 1, slots := 6, locals := 131 }
set_option maxHeartbeats 400000 in
set_option maxRecDepth 100000 in
theorem kL_greyOf (l : Launch) {M : Mm} (x1 : Int32) {post : Nat → Option Value → Mm → Prop} {xp : String → Mm → Prop} (hM : Cx l yX8_greyOf wsX8_greyOf rmX8_greyOf (fun B => [.ref (B + 0), .int x1]) M post xp) (hp : ∀ B v u, post B v u → ∃ x, v = some (.int x)) (hx : ∀ E u, xp E u → E = xA) : Cw l yL_greyOf wsL_greyOf rmL_greyOf (fun B => [.ref (B + 0), .int x1, .ref (B + 717)]) M (WP1 post xp xA) := by
  refine Cw.of (own := RL) (by decide +kernel) rfl rfl (fun B => Nat.le_of_ble_eq_true rfl) ?_
  intro pp ee ss mm aa bb me c9 DD ca cl B oo AA QQ F hN hL hT K
  show G pp l ee rmL_greyOf ss mm aa bb me c9 QQ DD ca B (TL cl B oo) AA 4 0 0 M 0 [(0, .ref (B + 0)), (1, .int x1), (2, .ref (B + 717))] []
  refine g_aload_n F dL_greyOf_0 rfl 2 rfl ?_
  refine g_iconst F (v := 0) dL_greyOf_1 (by decide) ?_
  refine g_aload_n F dL_greyOf_2 rfl 0 rfl ?_
  refine g_iload_n F dL_greyOf_3 rfl 1 rfl ?_
  refine x_callV F hM (cwV 1 F.1.2.2.2.2 gL_greyOf_X8_greyOf rfl rfl rfl (by decide +kernel) ⟨Nat.le_of_ble_eq_true rfl, Nat.le_of_ble_eq_true rfl⟩) r0 (by decide) rfl rfl rfl rfl (Nat.le_of_ble_eq_true rfl) dL_greyOf_4 ⟨Nat.le_of_ble_eq_true rfl, Nat.le_of_ble_eq_true rfl⟩ (fun v9 u9 h9 => ?_) (fun E9 u9 x9 => ?_)
  · obtain ⟨x9, rfl⟩ := hp _ _ _ h9
    refine g_i2l F dL_greyOf_7 ?_
    refine g_out F hL dL_greyOf_8 ?_
    refine g_goto F 15 dL_greyOf_9 (by decide) ?_
    refine g_iconst F (v := 0) dL_greyOf_15 (by decide) ?_
    refine g_widen (k := rmL_greyOf.cells) (n := rmL_greyOf.slots) (Nat.le_of_ble_eq_true rfl) (Nat.le_of_ble_eq_true rfl) ?_
    exact K _ _ _ _ _ dL_greyOf_16 (Or.inl ⟨rfl, _, x9, h9, rfl⟩)
  · have hE := hx _ _ x9
    obtain rfl := hE
    refine g_catch F [] ⟨0, 9, 12, 15⟩ [] hT (fun z hz => absurd hz List.not_mem_nil) (by decide) (by decide) (by decide +kernel) (by decide +kernel) (fun q9 => ?_)
    refine g_astore_n F dL_greyOf_12 rfl (by decide) rfl ?_
    refine g_iconst F (v := 1) dL_greyOf_13 (by decide) ?_
    refine g_widen (k := rmL_greyOf.cells) (n := rmL_greyOf.slots) (Nat.le_of_ble_eq_true rfl) (Nat.le_of_ble_eq_true rfl) ?_
    exact K _ _ _ _ _ dL_greyOf_14 (Or.inr ⟨rfl, x9⟩)

abbrev rmL_watchedBy : Room := { frames := 8, cells := 1, slots := 6, locals := 132 }
set_option maxHeartbeats 400000 in
set_option maxRecDepth 100000 in
theorem kL_watchedBy (l : Launch) {M : Mm} (x1 : Int32) {post : Nat → Option Value → Mm → Prop} {xp : String → Mm → Prop} (hM : Cx l yX8_watchedBy wsX8_watchedBy rmX8_watchedBy (fun B => [.ref (B + 0), .int x1]) M post xp) (hp : ∀ B v u, post B v u → ∃ x, v = some (.int x)) (hx : ∀ E u, xp E u → E = xI) : Cw l yL_watchedBy wsL_watchedBy rmL_watchedBy (fun B => [.ref (B + 0), .int x1, .ref (B + 717)]) M (WP1 post xp xI) := by
  refine Cw.of (own := RL) (by decide +kernel) rfl rfl (fun B => Nat.le_of_ble_eq_true rfl) ?_
  intro pp ee ss mm aa bb me c9 DD ca cl B oo AA QQ F hN hL hT K
  show G pp l ee rmL_watchedBy ss mm aa bb me c9 QQ DD ca B (TL cl B oo) AA 4 0 0 M 0 [(0, .ref (B + 0)), (1, .int x1), (2, .ref (B + 717))] []
  refine g_aload_n F dL_watchedBy_0 rfl 2 rfl ?_
  refine g_iconst F (v := 0) dL_watchedBy_1 (by decide) ?_
  refine g_aload_n F dL_watchedBy_2 rfl 0 rfl ?_
  refine g_iload_n F dL_watchedBy_3 rfl 1 rfl ?_
  refine x_callV F hM (cwV 1 F.1.2.2.2.2 gL_watchedBy_X8_watchedBy rfl rfl rfl (by decide +kernel) ⟨Nat.le_of_ble_eq_true rfl, Nat.le_of_ble_eq_true rfl⟩) r0 (by decide) rfl rfl rfl rfl (Nat.le_of_ble_eq_true rfl) dL_watchedBy_4 ⟨Nat.le_of_ble_eq_true rfl, Nat.le_of_ble_eq_true rfl⟩ (fun v9 u9 h9 => ?_) (fun E9 u9 x9 => ?_)
  · obtain ⟨x9, rfl⟩ := hp _ _ _ h9
    refine g_i2l F dL_watchedBy_7 ?_
    refine g_out F hL dL_watchedBy_8 ?_
    refine g_goto F 15 dL_watchedBy_9 (by decide) ?_
    refine g_iconst F (v := 0) dL_watchedBy_15 (by decide) ?_
    refine g_widen (k := rmL_watchedBy.cells) (n := rmL_watchedBy.slots) (Nat.le_of_ble_eq_true rfl) (Nat.le_of_ble_eq_true rfl) ?_
    exact K _ _ _ _ _ dL_watchedBy_16 (Or.inl ⟨rfl, _, x9, h9, rfl⟩)
  · have hE := hx _ _ x9
    obtain rfl := hE
    refine g_catch F [] ⟨0, 9, 12, 13⟩ [] hT (fun z hz => absurd hz List.not_mem_nil) (by decide) (by decide) (by decide +kernel) (by decide +kernel) (fun q9 => ?_)
    refine g_astore_n F dL_watchedBy_12 rfl (by decide) rfl ?_
    refine g_iconst F (v := 1) dL_watchedBy_13 (by decide) ?_
    refine g_widen (k := rmL_watchedBy.cells) (n := rmL_watchedBy.slots) (Nat.le_of_ble_eq_true rfl) (Nat.le_of_ble_eq_true rfl) ?_
    exact K _ _ _ _ _ dL_watchedBy_14 (Or.inr ⟨rfl, x9⟩)

abbrev rmL_tirednessOf : Room := { frames := 8, cells := 1, slots := 6, locals := 132 }
set_option maxHeartbeats 400000 in
set_option maxRecDepth 100000 in
theorem kL_tirednessOf (l : Launch) {M : Mm} (x1 : Int32) {post : Nat → Option Value → Mm → Prop} {xp : String → Mm → Prop} (hM : Cx l yX8_tirednessOf wsX8_tirednessOf rmX8_tirednessOf (fun B => [.ref (B + 0), .int x1]) M post xp) (hp : ∀ B v u, post B v u → ∃ x, v = some (.int x)) (hx : ∀ E u, xp E u → E = xI) : Cw l yL_tirednessOf wsL_tirednessOf rmL_tirednessOf (fun B => [.ref (B + 0), .int x1, .ref (B + 717)]) M (WP1 post xp xI) := by
  refine Cw.of (own := RL) (by decide +kernel) rfl rfl (fun B => Nat.le_of_ble_eq_true rfl) ?_
  intro pp ee ss mm aa bb me c9 DD ca cl B oo AA QQ F hN hL hT K
  show G pp l ee rmL_tirednessOf ss mm aa bb me c9 QQ DD ca B (TL cl B oo) AA 4 0 0 M 0 [(0, .ref (B + 0)), (1, .int x1), (2, .ref (B + 717))] []
  refine g_aload_n F dL_tirednessOf_0 rfl 2 rfl ?_
  refine g_iconst F (v := 0) dL_tirednessOf_1 (by decide) ?_
  refine g_aload_n F dL_tirednessOf_2 rfl 0 rfl ?_
  refine g_iload_n F dL_tirednessOf_3 rfl 1 rfl ?_
  refine x_callV F hM (cwV 1 F.1.2.2.2.2 gL_tirednessOf_X8_tirednessOf rfl rfl rfl (by decide +kernel) ⟨Nat.le_of_ble_eq_true rfl, Nat.le_of_ble_eq_true rfl⟩) r0 (by decide) rfl rfl rfl rfl (Nat.le_of_ble_eq_true rfl) dL_tirednessOf_4 ⟨Nat.le_of_ble_eq_true rfl, Nat.le_of_ble_eq_true rfl⟩ (fun v9 u9 h9 => ?_) (fun E9 u9 x9 => ?_)
  · obtain ⟨x9, rfl⟩ := hp _ _ _ h9
    refine g_i2l F dL_tirednessOf_7 ?_
    refine g_out F hL dL_tirednessOf_8 ?_
    refine g_goto F 15 dL_tirednessOf_9 (by decide) ?_
    refine g_iconst F (v := 0) dL_tirednessOf_15 (by decide) ?_
    refine g_widen (k := rmL_tirednessOf.cells) (n := rmL_tirednessOf.slots) (Nat.le_of_ble_eq_true rfl) (Nat.le_of_ble_eq_true rfl) ?_
    exact K _ _ _ _ _ dL_tirednessOf_16 (Or.inl ⟨rfl, _, x9, h9, rfl⟩)
  · have hE := hx _ _ x9
    obtain rfl := hE
    refine g_catch F [] ⟨0, 9, 12, 13⟩ [] hT (fun z hz => absurd hz List.not_mem_nil) (by decide) (by decide) (by decide +kernel) (by decide +kernel) (fun q9 => ?_)
    refine g_astore_n F dL_tirednessOf_12 rfl (by decide) rfl ?_
    refine g_iconst F (v := 1) dL_tirednessOf_13 (by decide) ?_
    refine g_widen (k := rmL_tirednessOf.cells) (n := rmL_tirednessOf.slots) (Nat.le_of_ble_eq_true rfl) (Nat.le_of_ble_eq_true rfl) ?_
    exact K _ _ _ _ _ dL_tirednessOf_14 (Or.inr ⟨rfl, x9⟩)

abbrev rmL_wouldRead : Room := { frames := 8, cells := 2, slots := 12, locals := 135 }
set_option maxHeartbeats 400000 in
set_option maxRecDepth 100000 in
theorem kL_wouldRead (l : Launch) {M : Mm} (x1 : Int32) (x2 : Int32) {post : Nat → Option Value → Mm → Prop} {xp : String → Mm → Prop} (hM : Cx l yX8_wouldRead wsX8_wouldRead rmX8_wouldRead (fun B => [.ref (B + 0), .int x1, .int x2]) M post xp) (hp : ∀ B v u, post B v u → ∃ x, v = some (.int x)) (hx : ∀ E u, xp E u → E = xI) : Cw l yL_wouldRead wsL_wouldRead rmL_wouldRead (fun B => [.ref (B + 0), .int x1, .int x2, .ref (B + 717)]) M (WP1 post xp xI) := by
  refine Cw.of (own := RL) (by decide +kernel) rfl rfl (fun B => Nat.le_of_ble_eq_true rfl) ?_
  intro pp ee ss mm aa bb me c9 DD ca cl B oo AA QQ F hN hL hT K
  show G pp l ee rmL_wouldRead ss mm aa bb me c9 QQ DD ca B (TL cl B oo) AA 5 0 0 M 0 [(0, .ref (B + 0)), (1, .int x1), (2, .int x2), (3, .ref (B + 717))] []
  refine g_aload_n F dL_wouldRead_0 rfl 3 rfl ?_
  refine g_iconst F (v := 0) dL_wouldRead_1 (by decide) ?_
  refine g_aload_n F dL_wouldRead_2 rfl 0 rfl ?_
  refine g_iload_n F dL_wouldRead_3 rfl 1 rfl ?_
  refine g_iload_n F dL_wouldRead_4 rfl 2 rfl ?_
  refine x_callV F hM (cwV 2 F.1.2.2.2.2 gL_wouldRead_X8_wouldRead rfl rfl rfl (by decide +kernel) ⟨Nat.le_of_ble_eq_true rfl, Nat.le_of_ble_eq_true rfl⟩) r0 (by decide) rfl rfl rfl rfl (Nat.le_of_ble_eq_true rfl) dL_wouldRead_5 ⟨Nat.le_of_ble_eq_true rfl, Nat.le_of_ble_eq_true rfl⟩ (fun v9 u9 h9 => ?_) (fun E9 u9 x9 => ?_)
  · obtain ⟨x9, rfl⟩ := hp _ _ _ h9
    refine g_i2l F dL_wouldRead_8 ?_
    refine g_out F hL dL_wouldRead_9 ?_
    refine g_goto F 17 dL_wouldRead_10 (by decide) ?_
    refine g_iconst F (v := 0) dL_wouldRead_17 (by decide) ?_
    refine g_widen (k := rmL_wouldRead.cells) (n := rmL_wouldRead.slots) (Nat.le_of_ble_eq_true rfl) (Nat.le_of_ble_eq_true rfl) ?_
    exact K _ _ _ _ _ dL_wouldRead_18 (Or.inl ⟨rfl, _, x9, h9, rfl⟩)
  · have hE := hx _ _ x9
    obtain rfl := hE
    refine g_catch F [] ⟨0, 10, 13, 13⟩ [] hT (fun z hz => absurd hz List.not_mem_nil) (by decide) (by decide) (by decide +kernel) (by decide +kernel) (fun q9 => ?_)
    refine g_astore F dL_wouldRead_13 (by decide) rfl ?_
    refine g_iconst F (v := 1) dL_wouldRead_15 (by decide) ?_
    refine g_widen (k := rmL_wouldRead.cells) (n := rmL_wouldRead.slots) (Nat.le_of_ble_eq_true rfl) (Nat.le_of_ble_eq_true rfl) ?_
    exact K _ _ _ _ _ dL_wouldRead_16 (Or.inr ⟨rfl, x9⟩)

abbrev rmL_readingOf : Room := { frames := 8, cells := 2, slots := 12, locals := 134 }
set_option maxHeartbeats 400000 in
set_option maxRecDepth 100000 in
theorem kL_readingOf (l : Launch) {M : Mm} (x1 : Int32) (x2 : Int32) {post : Nat → Option Value → Mm → Prop} {xp : String → Mm → Prop} (hM : Cx l yX8_readingOf wsX8_readingOf rmX8_readingOf (fun B => [.ref (B + 0), .int x1, .int x2]) M post xp) (hp : ∀ B v u, post B v u → ∃ x, v = some (.int x)) (hx : ∀ E u, xp E u → E = xI ∨ E = xA) : Cw l yL_readingOf wsL_readingOf rmL_readingOf (fun B => [.ref (B + 0), .int x1, .int x2, .ref (B + 717)]) M (WP2 post xp xI xA) := by
  refine Cw.of (own := RL) (by decide +kernel) rfl rfl (fun B => Nat.le_of_ble_eq_true rfl) ?_
  intro pp ee ss mm aa bb me c9 DD ca cl B oo AA QQ F hN hL hT K
  show G pp l ee rmL_readingOf ss mm aa bb me c9 QQ DD ca B (TL cl B oo) AA 5 0 0 M 0 [(0, .ref (B + 0)), (1, .int x1), (2, .int x2), (3, .ref (B + 717))] []
  refine g_aload_n F dL_readingOf_0 rfl 3 rfl ?_
  refine g_iconst F (v := 0) dL_readingOf_1 (by decide) ?_
  refine g_aload_n F dL_readingOf_2 rfl 0 rfl ?_
  refine g_iload_n F dL_readingOf_3 rfl 1 rfl ?_
  refine g_iload_n F dL_readingOf_4 rfl 2 rfl ?_
  refine x_callV F hM (cwV 2 F.1.2.2.2.2 gL_readingOf_X8_readingOf rfl rfl rfl (by decide +kernel) ⟨Nat.le_of_ble_eq_true rfl, Nat.le_of_ble_eq_true rfl⟩) r0 (by decide) rfl rfl rfl rfl (Nat.le_of_ble_eq_true rfl) dL_readingOf_5 ⟨Nat.le_of_ble_eq_true rfl, Nat.le_of_ble_eq_true rfl⟩ (fun v9 u9 h9 => ?_) (fun E9 u9 x9 => ?_)
  · obtain ⟨x9, rfl⟩ := hp _ _ _ h9
    refine g_i2l F dL_readingOf_8 ?_
    refine g_out F hL dL_readingOf_9 ?_
    refine g_goto F 21 dL_readingOf_10 (by decide) ?_
    refine g_iconst F (v := 0) dL_readingOf_21 (by decide) ?_
    refine g_widen (k := rmL_readingOf.cells) (n := rmL_readingOf.slots) (Nat.le_of_ble_eq_true rfl) (Nat.le_of_ble_eq_true rfl) ?_
    exact K _ _ _ _ _ dL_readingOf_22 (Or.inl ⟨rfl, _, x9, h9, rfl⟩)
  · have hE := hx _ _ x9
    rcases hE with rfl | rfl
    · refine g_catch F [] ⟨0, 10, 13, 13⟩ [⟨0, 10, 17, 15⟩] hT (fun z hz => absurd hz List.not_mem_nil) (by decide) (by decide) (by decide +kernel) (by decide +kernel) (fun q9 => ?_)
      refine g_astore F dL_readingOf_13 (by decide) rfl ?_
      refine g_iconst F (v := 1) dL_readingOf_15 (by decide) ?_
      refine g_widen (k := rmL_readingOf.cells) (n := rmL_readingOf.slots) (Nat.le_of_ble_eq_true rfl) (Nat.le_of_ble_eq_true rfl) ?_
      exact K _ _ _ _ _ dL_readingOf_16 (Or.inr (Or.inl ⟨rfl, x9⟩))
    · refine g_catch F [⟨0, 10, 13, 13⟩] ⟨0, 10, 17, 15⟩ [] hT (fun z hz => by obtain rfl := List.mem_singleton.mp hz; exact Or.inr ⟨by decide, xI, by decide +kernel, hN.1⟩) (by decide) (by decide) (by decide +kernel) (by decide +kernel) (fun q9 => ?_)
      refine g_astore F dL_readingOf_17 (by decide) rfl ?_
      refine g_iconst F (v := 2) dL_readingOf_19 (by decide) ?_
      refine g_widen (k := rmL_readingOf.cells) (n := rmL_readingOf.slots) (Nat.le_of_ble_eq_true rfl) (Nat.le_of_ble_eq_true rfl) ?_
      exact K _ _ _ _ _ dL_readingOf_20 (Or.inr (Or.inr ⟨rfl, x9⟩))

abbrev rmL_readingsFrom : Room := { frames := 8, cells := 2, slots := 12, locals := 134 }
set_option maxHeartbeats 400000 in
set_option maxRecDepth 100000 in
theorem kL_readingsFrom (l : Launch) {M : Mm} (x1 : Int32) (x2 : Int32) {post : Nat → Option Value → Mm → Prop} {xp : String → Mm → Prop} (hM : Cx l yX8_readingsFrom wsX8_readingsFrom rmX8_readingsFrom (fun B => [.ref (B + 0), .int x1, .int x2]) M post xp) (hp : ∀ B v u, post B v u → ∃ x, v = some (.int x)) (hx : ∀ E u, xp E u → E = xI ∨ E = xA) : Cw l yL_readingsFrom wsL_readingsFrom rmL_readingsFrom (fun B => [.ref (B + 0), .int x1, .int x2, .ref (B + 717)]) M (WP2 post xp xI xA) := by
  refine Cw.of (own := RL) (by decide +kernel) rfl rfl (fun B => Nat.le_of_ble_eq_true rfl) ?_
  intro pp ee ss mm aa bb me c9 DD ca cl B oo AA QQ F hN hL hT K
  show G pp l ee rmL_readingsFrom ss mm aa bb me c9 QQ DD ca B (TL cl B oo) AA 5 0 0 M 0 [(0, .ref (B + 0)), (1, .int x1), (2, .int x2), (3, .ref (B + 717))] []
  refine g_aload_n F dL_readingsFrom_0 rfl 3 rfl ?_
  refine g_iconst F (v := 0) dL_readingsFrom_1 (by decide) ?_
  refine g_aload_n F dL_readingsFrom_2 rfl 0 rfl ?_
  refine g_iload_n F dL_readingsFrom_3 rfl 1 rfl ?_
  refine g_iload_n F dL_readingsFrom_4 rfl 2 rfl ?_
  refine x_callV F hM (cwV 2 F.1.2.2.2.2 gL_readingsFrom_X8_readingsFrom rfl rfl rfl (by decide +kernel) ⟨Nat.le_of_ble_eq_true rfl, Nat.le_of_ble_eq_true rfl⟩) r0 (by decide) rfl rfl rfl rfl (Nat.le_of_ble_eq_true rfl) dL_readingsFrom_5 ⟨Nat.le_of_ble_eq_true rfl, Nat.le_of_ble_eq_true rfl⟩ (fun v9 u9 h9 => ?_) (fun E9 u9 x9 => ?_)
  · obtain ⟨x9, rfl⟩ := hp _ _ _ h9
    refine g_i2l F dL_readingsFrom_8 ?_
    refine g_out F hL dL_readingsFrom_9 ?_
    refine g_goto F 21 dL_readingsFrom_10 (by decide) ?_
    refine g_iconst F (v := 0) dL_readingsFrom_21 (by decide) ?_
    refine g_widen (k := rmL_readingsFrom.cells) (n := rmL_readingsFrom.slots) (Nat.le_of_ble_eq_true rfl) (Nat.le_of_ble_eq_true rfl) ?_
    exact K _ _ _ _ _ dL_readingsFrom_22 (Or.inl ⟨rfl, _, x9, h9, rfl⟩)
  · have hE := hx _ _ x9
    rcases hE with rfl | rfl
    · refine g_catch F [] ⟨0, 10, 13, 13⟩ [⟨0, 10, 17, 15⟩] hT (fun z hz => absurd hz List.not_mem_nil) (by decide) (by decide) (by decide +kernel) (by decide +kernel) (fun q9 => ?_)
      refine g_astore F dL_readingsFrom_13 (by decide) rfl ?_
      refine g_iconst F (v := 1) dL_readingsFrom_15 (by decide) ?_
      refine g_widen (k := rmL_readingsFrom.cells) (n := rmL_readingsFrom.slots) (Nat.le_of_ble_eq_true rfl) (Nat.le_of_ble_eq_true rfl) ?_
      exact K _ _ _ _ _ dL_readingsFrom_16 (Or.inr (Or.inl ⟨rfl, x9⟩))
    · refine g_catch F [⟨0, 10, 13, 13⟩] ⟨0, 10, 17, 15⟩ [] hT (fun z hz => by obtain rfl := List.mem_singleton.mp hz; exact Or.inr ⟨by decide, xI, by decide +kernel, hN.1⟩) (by decide) (by decide) (by decide +kernel) (by decide +kernel) (fun q9 => ?_)
      refine g_astore F dL_readingsFrom_17 (by decide) rfl ?_
      refine g_iconst F (v := 2) dL_readingsFrom_19 (by decide) ?_
      refine g_widen (k := rmL_readingsFrom.cells) (n := rmL_readingsFrom.slots) (Nat.le_of_ble_eq_true rfl) (Nat.le_of_ble_eq_true rfl) ?_
      exact K _ _ _ _ _ dL_readingsFrom_20 (Or.inr (Or.inr ⟨rfl, x9⟩))

abbrev rmL_longestRow : Room := { frames := 8, cells := 2, slots := 12, locals := 135 }
set_option maxHeartbeats 400000 in
set_option maxRecDepth 100000 in
theorem kL_longestRow (l : Launch) {M : Mm} (x1 : Int32) (x2 : Int32) (x3 : Int32) {post : Nat → Option Value → Mm → Prop} {xp : String → Mm → Prop} (hM : Cx l yX8_longestRow wsX8_longestRow rmX8_longestRow (fun B => [.ref (B + 0), .int x1, .int x2, .int x3]) M post xp) (hp : ∀ B v u, post B v u → ∃ x, v = some (.int x)) (hx : ∀ E u, xp E u → E = xI ∨ E = xA) : Cw l yL_longestRow wsL_longestRow rmL_longestRow (fun B => [.ref (B + 0), .int x1, .int x2, .int x3, .ref (B + 717)]) M (WP2 post xp xI xA) := by
  refine Cw.of (own := RL) (by decide +kernel) rfl rfl (fun B => Nat.le_of_ble_eq_true rfl) ?_
  intro pp ee ss mm aa bb me c9 DD ca cl B oo AA QQ F hN hL hT K
  show G pp l ee rmL_longestRow ss mm aa bb me c9 QQ DD ca B (TL cl B oo) AA 6 0 0 M 0 [(0, .ref (B + 0)), (1, .int x1), (2, .int x2), (3, .int x3), (4, .ref (B + 717))] []
  refine g_aload F dL_longestRow_0 4 rfl ?_
  refine g_iconst F (v := 0) dL_longestRow_2 (by decide) ?_
  refine g_aload_n F dL_longestRow_3 rfl 0 rfl ?_
  refine g_iload_n F dL_longestRow_4 rfl 1 rfl ?_
  refine g_iload_n F dL_longestRow_5 rfl 2 rfl ?_
  refine g_iload_n F dL_longestRow_6 rfl 3 rfl ?_
  refine x_callV F hM (cwV 3 F.1.2.2.2.2 gL_longestRow_X8_longestRow rfl rfl rfl (by decide +kernel) ⟨Nat.le_of_ble_eq_true rfl, Nat.le_of_ble_eq_true rfl⟩) r0 (by decide) rfl rfl rfl rfl (Nat.le_of_ble_eq_true rfl) dL_longestRow_7 ⟨Nat.le_of_ble_eq_true rfl, Nat.le_of_ble_eq_true rfl⟩ (fun v9 u9 h9 => ?_) (fun E9 u9 x9 => ?_)
  · obtain ⟨x9, rfl⟩ := hp _ _ _ h9
    refine g_i2l F dL_longestRow_10 ?_
    refine g_out F hL dL_longestRow_11 ?_
    refine g_goto F 23 dL_longestRow_12 (by decide) ?_
    refine g_iconst F (v := 0) dL_longestRow_23 (by decide) ?_
    refine g_widen (k := rmL_longestRow.cells) (n := rmL_longestRow.slots) (Nat.le_of_ble_eq_true rfl) (Nat.le_of_ble_eq_true rfl) ?_
    exact K _ _ _ _ _ dL_longestRow_24 (Or.inl ⟨rfl, _, x9, h9, rfl⟩)
  · have hE := hx _ _ x9
    rcases hE with rfl | rfl
    · refine g_catch F [] ⟨0, 12, 15, 13⟩ [⟨0, 12, 19, 15⟩] hT (fun z hz => absurd hz List.not_mem_nil) (by decide) (by decide) (by decide +kernel) (by decide +kernel) (fun q9 => ?_)
      refine g_astore F dL_longestRow_15 (by decide) rfl ?_
      refine g_iconst F (v := 1) dL_longestRow_17 (by decide) ?_
      refine g_widen (k := rmL_longestRow.cells) (n := rmL_longestRow.slots) (Nat.le_of_ble_eq_true rfl) (Nat.le_of_ble_eq_true rfl) ?_
      exact K _ _ _ _ _ dL_longestRow_18 (Or.inr (Or.inl ⟨rfl, x9⟩))
    · refine g_catch F [⟨0, 12, 15, 13⟩] ⟨0, 12, 19, 15⟩ [] hT (fun z hz => by obtain rfl := List.mem_singleton.mp hz; exact Or.inr ⟨by decide, xI, by decide +kernel, hN.1⟩) (by decide) (by decide) (by decide +kernel) (by decide +kernel) (fun q9 => ?_)
      refine g_astore F dL_longestRow_19 (by decide) rfl ?_
      refine g_iconst F (v := 2) dL_longestRow_21 (by decide) ?_
      refine g_widen (k := rmL_longestRow.cells) (n := rmL_longestRow.slots) (Nat.le_of_ble_eq_true rfl) (Nat.le_of_ble_eq_true rfl) ?_
      exact K _ _ _ _ _ dL_longestRow_22 (Or.inr (Or.inr ⟨rfl, x9⟩))

abbrev rmL_errorsOf : Room := { frames := 8, cells := 1, slots := 6, locals := 132 }
set_option maxHeartbeats 400000 in
set_option maxRecDepth 100000 in
theorem kL_errorsOf (l : Launch) {M : Mm} (x1 : Int32) {post : Nat → Option Value → Mm → Prop} {xp : String → Mm → Prop} (hM : Cx l yX8_errorsOf wsX8_errorsOf rmX8_errorsOf (fun B => [.ref (B + 0), .int x1]) M post xp) (hp : ∀ B v u, post B v u → ∃ x, v = some (.int x)) (hx : ∀ E u, xp E u → E = xI) : Cw l yL_errorsOf wsL_errorsOf rmL_errorsOf (fun B => [.ref (B + 0), .int x1, .ref (B + 717)]) M (WP1 post xp xI) := by
  refine Cw.of (own := RL) (by decide +kernel) rfl rfl (fun B => Nat.le_of_ble_eq_true rfl) ?_
  intro pp ee ss mm aa bb me c9 DD ca cl B oo AA QQ F hN hL hT K
  show G pp l ee rmL_errorsOf ss mm aa bb me c9 QQ DD ca B (TL cl B oo) AA 4 0 0 M 0 [(0, .ref (B + 0)), (1, .int x1), (2, .ref (B + 717))] []
  refine g_aload_n F dL_errorsOf_0 rfl 2 rfl ?_
  refine g_iconst F (v := 0) dL_errorsOf_1 (by decide) ?_
  refine g_aload_n F dL_errorsOf_2 rfl 0 rfl ?_
  refine g_iload_n F dL_errorsOf_3 rfl 1 rfl ?_
  refine x_callV F hM (cwV 1 F.1.2.2.2.2 gL_errorsOf_X8_errorsOf rfl rfl rfl (by decide +kernel) ⟨Nat.le_of_ble_eq_true rfl, Nat.le_of_ble_eq_true rfl⟩) r0 (by decide) rfl rfl rfl rfl (Nat.le_of_ble_eq_true rfl) dL_errorsOf_4 ⟨Nat.le_of_ble_eq_true rfl, Nat.le_of_ble_eq_true rfl⟩ (fun v9 u9 h9 => ?_) (fun E9 u9 x9 => ?_)
  · obtain ⟨x9, rfl⟩ := hp _ _ _ h9
    refine g_i2l F dL_errorsOf_7 ?_
    refine g_out F hL dL_errorsOf_8 ?_
    refine g_goto F 15 dL_errorsOf_9 (by decide) ?_
    refine g_iconst F (v := 0) dL_errorsOf_15 (by decide) ?_
    refine g_widen (k := rmL_errorsOf.cells) (n := rmL_errorsOf.slots) (Nat.le_of_ble_eq_true rfl) (Nat.le_of_ble_eq_true rfl) ?_
    exact K _ _ _ _ _ dL_errorsOf_16 (Or.inl ⟨rfl, _, x9, h9, rfl⟩)
  · have hE := hx _ _ x9
    obtain rfl := hE
    refine g_catch F [] ⟨0, 9, 12, 13⟩ [] hT (fun z hz => absurd hz List.not_mem_nil) (by decide) (by decide) (by decide +kernel) (by decide +kernel) (fun q9 => ?_)
    refine g_astore_n F dL_errorsOf_12 rfl (by decide) rfl ?_
    refine g_iconst F (v := 1) dL_errorsOf_13 (by decide) ?_
    refine g_widen (k := rmL_errorsOf.cells) (n := rmL_errorsOf.slots) (Nat.le_of_ble_eq_true rfl) (Nat.le_of_ble_eq_true rfl) ?_
    exact K _ _ _ _ _ dL_errorsOf_14 (Or.inr ⟨rfl, x9⟩)

abbrev rmL_chimneyOf : Room := { frames := 8, cells := 1, slots := 6, locals := 132 }
set_option maxHeartbeats 400000 in
set_option maxRecDepth 100000 in
theorem kL_chimneyOf (l : Launch) {M : Mm} (x1 : Int32) {post : Nat → Option Value → Mm → Prop} {xp : String → Mm → Prop} (hM : Cx l yX8_chimneyOf wsX8_chimneyOf rmX8_chimneyOf (fun B => [.ref (B + 0), .int x1]) M post xp) (hp : ∀ B v u, post B v u → ∃ x, v = some (.int x)) (hx : ∀ E u, xp E u → E = xI) : Cw l yL_chimneyOf wsL_chimneyOf rmL_chimneyOf (fun B => [.ref (B + 0), .int x1, .ref (B + 717)]) M (WP1 post xp xI) := by
  refine Cw.of (own := RL) (by decide +kernel) rfl rfl (fun B => Nat.le_of_ble_eq_true rfl) ?_
  intro pp ee ss mm aa bb me c9 DD ca cl B oo AA QQ F hN hL hT K
  show G pp l ee rmL_chimneyOf ss mm aa bb me c9 QQ DD ca B (TL cl B oo) AA 4 0 0 M 0 [(0, .ref (B + 0)), (1, .int x1), (2, .ref (B + 717))] []
  refine g_aload_n F dL_chimneyOf_0 rfl 2 rfl ?_
  refine g_iconst F (v := 0) dL_chimneyOf_1 (by decide) ?_
  refine g_aload_n F dL_chimneyOf_2 rfl 0 rfl ?_
  refine g_iload_n F dL_chimneyOf_3 rfl 1 rfl ?_
  refine x_callV F hM (cwV 1 F.1.2.2.2.2 gL_chimneyOf_X8_chimneyOf rfl rfl rfl (by decide +kernel) ⟨Nat.le_of_ble_eq_true rfl, Nat.le_of_ble_eq_true rfl⟩) r0 (by decide) rfl rfl rfl rfl (Nat.le_of_ble_eq_true rfl) dL_chimneyOf_4 ⟨Nat.le_of_ble_eq_true rfl, Nat.le_of_ble_eq_true rfl⟩ (fun v9 u9 h9 => ?_) (fun E9 u9 x9 => ?_)
  · obtain ⟨x9, rfl⟩ := hp _ _ _ h9
    refine g_i2l F dL_chimneyOf_7 ?_
    refine g_out F hL dL_chimneyOf_8 ?_
    refine g_goto F 15 dL_chimneyOf_9 (by decide) ?_
    refine g_iconst F (v := 0) dL_chimneyOf_15 (by decide) ?_
    refine g_widen (k := rmL_chimneyOf.cells) (n := rmL_chimneyOf.slots) (Nat.le_of_ble_eq_true rfl) (Nat.le_of_ble_eq_true rfl) ?_
    exact K _ _ _ _ _ dL_chimneyOf_16 (Or.inl ⟨rfl, _, x9, h9, rfl⟩)
  · have hE := hx _ _ x9
    obtain rfl := hE
    refine g_catch F [] ⟨0, 9, 12, 13⟩ [] hT (fun z hz => absurd hz List.not_mem_nil) (by decide) (by decide) (by decide +kernel) (by decide +kernel) (fun q9 => ?_)
    refine g_astore_n F dL_chimneyOf_12 rfl (by decide) rfl ?_
    refine g_iconst F (v := 1) dL_chimneyOf_13 (by decide) ?_
    refine g_widen (k := rmL_chimneyOf.cells) (n := rmL_chimneyOf.slots) (Nat.le_of_ble_eq_true rfl) (Nat.le_of_ble_eq_true rfl) ?_
    exact K _ _ _ _ _ dL_chimneyOf_14 (Or.inr ⟨rfl, x9⟩)

abbrev rmL_fineOf : Room := { frames := 8, cells := 1, slots := 6, locals := 132 }
set_option maxHeartbeats 400000 in
set_option maxRecDepth 100000 in
theorem kL_fineOf (l : Launch) {M : Mm} (x1 : Int32) {post : Nat → Option Value → Mm → Prop} {xp : String → Mm → Prop} (hM : Cx l yX8_fineOf wsX8_fineOf rmX8_fineOf (fun B => [.ref (B + 0), .int x1]) M post xp) (hp : ∀ B v u, post B v u → ∃ x, v = some (.int x)) (hx : ∀ E u, xp E u → E = xI) : Cw l yL_fineOf wsL_fineOf rmL_fineOf (fun B => [.ref (B + 0), .int x1, .ref (B + 717)]) M (WP1 post xp xI) := by
  refine Cw.of (own := RL) (by decide +kernel) rfl rfl (fun B => Nat.le_of_ble_eq_true rfl) ?_
  intro pp ee ss mm aa bb me c9 DD ca cl B oo AA QQ F hN hL hT K
  show G pp l ee rmL_fineOf ss mm aa bb me c9 QQ DD ca B (TL cl B oo) AA 4 0 0 M 0 [(0, .ref (B + 0)), (1, .int x1), (2, .ref (B + 717))] []
  refine g_aload_n F dL_fineOf_0 rfl 2 rfl ?_
  refine g_iconst F (v := 0) dL_fineOf_1 (by decide) ?_
  refine g_aload_n F dL_fineOf_2 rfl 0 rfl ?_
  refine g_iload_n F dL_fineOf_3 rfl 1 rfl ?_
  refine x_callV F hM (cwV 1 F.1.2.2.2.2 gL_fineOf_X8_fineOf rfl rfl rfl (by decide +kernel) ⟨Nat.le_of_ble_eq_true rfl, Nat.le_of_ble_eq_true rfl⟩) r0 (by decide) rfl rfl rfl rfl (Nat.le_of_ble_eq_true rfl) dL_fineOf_4 ⟨Nat.le_of_ble_eq_true rfl, Nat.le_of_ble_eq_true rfl⟩ (fun v9 u9 h9 => ?_) (fun E9 u9 x9 => ?_)
  · obtain ⟨x9, rfl⟩ := hp _ _ _ h9
    refine g_i2l F dL_fineOf_7 ?_
    refine g_out F hL dL_fineOf_8 ?_
    refine g_goto F 15 dL_fineOf_9 (by decide) ?_
    refine g_iconst F (v := 0) dL_fineOf_15 (by decide) ?_
    refine g_widen (k := rmL_fineOf.cells) (n := rmL_fineOf.slots) (Nat.le_of_ble_eq_true rfl) (Nat.le_of_ble_eq_true rfl) ?_
    exact K _ _ _ _ _ dL_fineOf_16 (Or.inl ⟨rfl, _, x9, h9, rfl⟩)
  · have hE := hx _ _ x9
    obtain rfl := hE
    refine g_catch F [] ⟨0, 9, 12, 13⟩ [] hT (fun z hz => absurd hz List.not_mem_nil) (by decide) (by decide) (by decide +kernel) (by decide +kernel) (fun q9 => ?_)
    refine g_astore_n F dL_fineOf_12 rfl (by decide) rfl ?_
    refine g_iconst F (v := 1) dL_fineOf_13 (by decide) ?_
    refine g_widen (k := rmL_fineOf.cells) (n := rmL_fineOf.slots) (Nat.le_of_ble_eq_true rfl) (Nat.le_of_ble_eq_true rfl) ?_
    exact K _ _ _ _ _ dL_fineOf_14 (Or.inr ⟨rfl, x9⟩)

abbrev rmL_stands : Room := { frames := 8, cells := 1, slots := 6, locals := 132 }
set_option maxHeartbeats 400000 in
set_option maxRecDepth 100000 in
theorem kL_stands (l : Launch) {M : Mm} (x1 : Int32) {post : Nat → Option Value → Mm → Prop} {xp : String → Mm → Prop} (hM : Cx l yX8_stands wsX8_stands rmX8_stands (fun B => [.ref (B + 0), .int x1]) M post xp) (hp : ∀ B v u, post B v u → ∃ x, v = some (.int x)) (hx : ∀ E u, xp E u → E = xI) : Cw l yL_stands wsL_stands rmL_stands (fun B => [.ref (B + 0), .int x1, .ref (B + 717)]) M (WB1 post xp xI) := by
  refine Cw.of (own := RL) (by decide +kernel) rfl rfl (fun B => Nat.le_of_ble_eq_true rfl) ?_
  intro pp ee ss mm aa bb me c9 DD ca cl B oo AA QQ F hN hL hT K
  show G pp l ee rmL_stands ss mm aa bb me c9 QQ DD ca B (TL cl B oo) AA 4 0 0 M 0 [(0, .ref (B + 0)), (1, .int x1), (2, .ref (B + 717))] []
  refine g_aload_n F dL_stands_0 rfl 2 rfl ?_
  refine g_iconst F (v := 0) dL_stands_1 (by decide) ?_
  refine g_aload_n F dL_stands_2 rfl 0 rfl ?_
  refine g_iload_n F dL_stands_3 rfl 1 rfl ?_
  refine x_callV F hM (cwV 1 F.1.2.2.2.2 gL_stands_X8_stands rfl rfl rfl (by decide +kernel) ⟨Nat.le_of_ble_eq_true rfl, Nat.le_of_ble_eq_true rfl⟩) r0 (by decide) rfl rfl rfl rfl (Nat.le_of_ble_eq_true rfl) dL_stands_4 ⟨Nat.le_of_ble_eq_true rfl, Nat.le_of_ble_eq_true rfl⟩ (fun v9 u9 h9 => ?_) (fun E9 u9 x9 => ?_)
  · obtain ⟨x9, rfl⟩ := hp _ _ _ h9
    refine g_if_eq F 14 dL_stands_7 (by decide) (fun h1 => ?_) (fun h1 => ?_)
    · refine g_lconst F (v := 0) dL_stands_14 (by decide) ?_
      refine g_out F hL dL_stands_15 ?_
      refine g_goto F 22 dL_stands_16 (by decide) ?_
      refine g_iconst F (v := 0) dL_stands_22 (by decide) ?_
      refine g_widen (k := rmL_stands.cells) (n := rmL_stands.slots) (Nat.le_of_ble_eq_true rfl) (Nat.le_of_ble_eq_true rfl) ?_
      exact K _ _ _ _ _ dL_stands_23 (Or.inl ⟨rfl, _, x9, h9, (if_pos h1).symm⟩)
    · refine g_lconst F (v := 1) dL_stands_10 (by decide) ?_
      refine g_goto F 15 dL_stands_11 (by decide) ?_
      refine g_out F hL dL_stands_15 ?_
      refine g_goto F 22 dL_stands_16 (by decide) ?_
      refine g_iconst F (v := 0) dL_stands_22 (by decide) ?_
      refine g_widen (k := rmL_stands.cells) (n := rmL_stands.slots) (Nat.le_of_ble_eq_true rfl) (Nat.le_of_ble_eq_true rfl) ?_
      exact K _ _ _ _ _ dL_stands_23 (Or.inl ⟨rfl, _, x9, h9, (if_neg h1).symm⟩)
  · have hE := hx _ _ x9
    obtain rfl := hE
    refine g_catch F [] ⟨0, 16, 19, 13⟩ [] hT (fun z hz => absurd hz List.not_mem_nil) (by decide) (by decide) (by decide +kernel) (by decide +kernel) (fun q9 => ?_)
    refine g_astore_n F dL_stands_19 rfl (by decide) rfl ?_
    refine g_iconst F (v := 1) dL_stands_20 (by decide) ?_
    refine g_widen (k := rmL_stands.cells) (n := rmL_stands.slots) (Nat.le_of_ble_eq_true rfl) (Nat.le_of_ble_eq_true rfl) ?_
    exact K _ _ _ _ _ dL_stands_21 (Or.inr ⟨rfl, x9⟩)

abbrev rmL_wouldAppeal : Room := { frames := 8, cells := 1, slots := 6, locals := 132 }
set_option maxHeartbeats 400000 in
set_option maxRecDepth 100000 in
theorem kL_wouldAppeal (l : Launch) {M : Mm} (x1 : Int32) {post : Nat → Option Value → Mm → Prop} {xp : String → Mm → Prop} (hM : Cx l yX8_wouldAppeal wsX8_wouldAppeal rmX8_wouldAppeal (fun B => [.ref (B + 0), .int x1]) M post xp) (hp : ∀ B v u, post B v u → ∃ x, v = some (.int x)) (hx : ∀ E u, xp E u → E = xI) : Cw l yL_wouldAppeal wsL_wouldAppeal rmL_wouldAppeal (fun B => [.ref (B + 0), .int x1, .ref (B + 717)]) M (WP1 post xp xI) := by
  refine Cw.of (own := RL) (by decide +kernel) rfl rfl (fun B => Nat.le_of_ble_eq_true rfl) ?_
  intro pp ee ss mm aa bb me c9 DD ca cl B oo AA QQ F hN hL hT K
  show G pp l ee rmL_wouldAppeal ss mm aa bb me c9 QQ DD ca B (TL cl B oo) AA 4 0 0 M 0 [(0, .ref (B + 0)), (1, .int x1), (2, .ref (B + 717))] []
  refine g_aload_n F dL_wouldAppeal_0 rfl 2 rfl ?_
  refine g_iconst F (v := 0) dL_wouldAppeal_1 (by decide) ?_
  refine g_aload_n F dL_wouldAppeal_2 rfl 0 rfl ?_
  refine g_iload_n F dL_wouldAppeal_3 rfl 1 rfl ?_
  refine x_callV F hM (cwV 1 F.1.2.2.2.2 gL_wouldAppeal_X8_wouldAppeal rfl rfl rfl (by decide +kernel) ⟨Nat.le_of_ble_eq_true rfl, Nat.le_of_ble_eq_true rfl⟩) r0 (by decide) rfl rfl rfl rfl (Nat.le_of_ble_eq_true rfl) dL_wouldAppeal_4 ⟨Nat.le_of_ble_eq_true rfl, Nat.le_of_ble_eq_true rfl⟩ (fun v9 u9 h9 => ?_) (fun E9 u9 x9 => ?_)
  · obtain ⟨x9, rfl⟩ := hp _ _ _ h9
    refine g_i2l F dL_wouldAppeal_7 ?_
    refine g_out F hL dL_wouldAppeal_8 ?_
    refine g_goto F 15 dL_wouldAppeal_9 (by decide) ?_
    refine g_iconst F (v := 0) dL_wouldAppeal_15 (by decide) ?_
    refine g_widen (k := rmL_wouldAppeal.cells) (n := rmL_wouldAppeal.slots) (Nat.le_of_ble_eq_true rfl) (Nat.le_of_ble_eq_true rfl) ?_
    exact K _ _ _ _ _ dL_wouldAppeal_16 (Or.inl ⟨rfl, _, x9, h9, rfl⟩)
  · have hE := hx _ _ x9
    obtain rfl := hE
    refine g_catch F [] ⟨0, 9, 12, 13⟩ [] hT (fun z hz => absurd hz List.not_mem_nil) (by decide) (by decide) (by decide +kernel) (by decide +kernel) (fun q9 => ?_)
    refine g_astore_n F dL_wouldAppeal_12 rfl (by decide) rfl ?_
    refine g_iconst F (v := 1) dL_wouldAppeal_13 (by decide) ?_
    refine g_widen (k := rmL_wouldAppeal.cells) (n := rmL_wouldAppeal.slots) (Nat.le_of_ble_eq_true rfl) (Nat.le_of_ble_eq_true rfl) ?_
    exact K _ _ _ _ _ dL_wouldAppeal_14 (Or.inr ⟨rfl, x9⟩)

abbrev rmL_finesOf : Room := { frames := 8, cells := 1, slots := 6, locals := 134 }
set_option maxHeartbeats 400000 in
set_option maxRecDepth 100000 in
theorem kL_finesOf (l : Launch) {M : Mm} (x1 : Int32) (x2 : Int32) {post : Nat → Option Value → Mm → Prop} {xp : String → Mm → Prop} (hM : Cx l yX8_finesOf wsX8_finesOf rmX8_finesOf (fun B => [.ref (B + 0), .int x1, .int x2]) M post xp) (hp : ∀ B v u, post B v u → ∃ x, v = some (.int x)) (hx : ∀ E u, xp E u → E = xI) : Cw l yL_finesOf wsL_finesOf rmL_finesOf (fun B => [.ref (B + 0), .int x1, .int x2, .ref (B + 717)]) M (WP1 post xp xI) := by
  refine Cw.of (own := RL) (by decide +kernel) rfl rfl (fun B => Nat.le_of_ble_eq_true rfl) ?_
  intro pp ee ss mm aa bb me c9 DD ca cl B oo AA QQ F hN hL hT K
  show G pp l ee rmL_finesOf ss mm aa bb me c9 QQ DD ca B (TL cl B oo) AA 5 0 0 M 0 [(0, .ref (B + 0)), (1, .int x1), (2, .int x2), (3, .ref (B + 717))] []
  refine g_aload_n F dL_finesOf_0 rfl 3 rfl ?_
  refine g_iconst F (v := 0) dL_finesOf_1 (by decide) ?_
  refine g_aload_n F dL_finesOf_2 rfl 0 rfl ?_
  refine g_iload_n F dL_finesOf_3 rfl 1 rfl ?_
  refine g_iload_n F dL_finesOf_4 rfl 2 rfl ?_
  refine x_callV F hM (cwV 2 F.1.2.2.2.2 gL_finesOf_X8_finesOf rfl rfl rfl (by decide +kernel) ⟨Nat.le_of_ble_eq_true rfl, Nat.le_of_ble_eq_true rfl⟩) r0 (by decide) rfl rfl rfl rfl (Nat.le_of_ble_eq_true rfl) dL_finesOf_5 ⟨Nat.le_of_ble_eq_true rfl, Nat.le_of_ble_eq_true rfl⟩ (fun v9 u9 h9 => ?_) (fun E9 u9 x9 => ?_)
  · obtain ⟨x9, rfl⟩ := hp _ _ _ h9
    refine g_i2l F dL_finesOf_8 ?_
    refine g_out F hL dL_finesOf_9 ?_
    refine g_goto F 17 dL_finesOf_10 (by decide) ?_
    refine g_iconst F (v := 0) dL_finesOf_17 (by decide) ?_
    refine g_widen (k := rmL_finesOf.cells) (n := rmL_finesOf.slots) (Nat.le_of_ble_eq_true rfl) (Nat.le_of_ble_eq_true rfl) ?_
    exact K _ _ _ _ _ dL_finesOf_18 (Or.inl ⟨rfl, _, x9, h9, rfl⟩)
  · have hE := hx _ _ x9
    obtain rfl := hE
    refine g_catch F [] ⟨0, 10, 13, 13⟩ [] hT (fun z hz => absurd hz List.not_mem_nil) (by decide) (by decide) (by decide +kernel) (by decide +kernel) (fun q9 => ?_)
    refine g_astore F dL_finesOf_13 (by decide) rfl ?_
    refine g_iconst F (v := 1) dL_finesOf_15 (by decide) ?_
    refine g_widen (k := rmL_finesOf.cells) (n := rmL_finesOf.slots) (Nat.le_of_ble_eq_true rfl) (Nat.le_of_ble_eq_true rfl) ?_
    exact K _ _ _ _ _ dL_finesOf_16 (Or.inr ⟨rfl, x9⟩)

abbrev rmL_toWatch : Room := { frames := 8, cells := 1, slots := 6, locals := 134 }
set_option maxHeartbeats 400000 in
set_option maxRecDepth 100000 in
theorem kL_toWatch (l : Launch) {M : Mm} (x1 : Int32) (x2 : Int32) {post : Nat → Option Value → Mm → Prop} {xp : String → Mm → Prop} (hM : Cx l yX8_toWatch wsX8_toWatch rmX8_toWatch (fun B => [.ref (B + 0), .int x1, .int x2]) M post xp) (hp : ∀ B v u, post B v u → ∃ x, v = some (.int x)) (hx : ∀ E u, xp E u → E = xA) : Cw l yL_toWatch wsL_toWatch rmL_toWatch (fun B => [.ref (B + 0), .int x1, .int x2, .ref (B + 717)]) M (WP1 post xp xA) := by
  refine Cw.of (own := RL) (by decide +kernel) rfl rfl (fun B => Nat.le_of_ble_eq_true rfl) ?_
  intro pp ee ss mm aa bb me c9 DD ca cl B oo AA QQ F hN hL hT K
  show G pp l ee rmL_toWatch ss mm aa bb me c9 QQ DD ca B (TL cl B oo) AA 5 0 0 M 0 [(0, .ref (B + 0)), (1, .int x1), (2, .int x2), (3, .ref (B + 717))] []
  refine g_aload_n F dL_toWatch_0 rfl 3 rfl ?_
  refine g_iconst F (v := 0) dL_toWatch_1 (by decide) ?_
  refine g_aload_n F dL_toWatch_2 rfl 0 rfl ?_
  refine g_iload_n F dL_toWatch_3 rfl 1 rfl ?_
  refine g_iload_n F dL_toWatch_4 rfl 2 rfl ?_
  refine x_callV F hM (cwV 2 F.1.2.2.2.2 gL_toWatch_X8_toWatch rfl rfl rfl (by decide +kernel) ⟨Nat.le_of_ble_eq_true rfl, Nat.le_of_ble_eq_true rfl⟩) r0 (by decide) rfl rfl rfl rfl (Nat.le_of_ble_eq_true rfl) dL_toWatch_5 ⟨Nat.le_of_ble_eq_true rfl, Nat.le_of_ble_eq_true rfl⟩ (fun v9 u9 h9 => ?_) (fun E9 u9 x9 => ?_)
  · obtain ⟨x9, rfl⟩ := hp _ _ _ h9
    refine g_i2l F dL_toWatch_8 ?_
    refine g_out F hL dL_toWatch_9 ?_
    refine g_goto F 17 dL_toWatch_10 (by decide) ?_
    refine g_iconst F (v := 0) dL_toWatch_17 (by decide) ?_
    refine g_widen (k := rmL_toWatch.cells) (n := rmL_toWatch.slots) (Nat.le_of_ble_eq_true rfl) (Nat.le_of_ble_eq_true rfl) ?_
    exact K _ _ _ _ _ dL_toWatch_18 (Or.inl ⟨rfl, _, x9, h9, rfl⟩)
  · have hE := hx _ _ x9
    obtain rfl := hE
    refine g_catch F [] ⟨0, 10, 13, 15⟩ [] hT (fun z hz => absurd hz List.not_mem_nil) (by decide) (by decide) (by decide +kernel) (by decide +kernel) (fun q9 => ?_)
    refine g_astore F dL_toWatch_13 (by decide) rfl ?_
    refine g_iconst F (v := 1) dL_toWatch_15 (by decide) ?_
    refine g_widen (k := rmL_toWatch.cells) (n := rmL_toWatch.slots) (Nat.le_of_ble_eq_true rfl) (Nat.le_of_ble_eq_true rfl) ?_
    exact K _ _ _ _ _ dL_toWatch_16 (Or.inr ⟨rfl, x9⟩)

abbrev rmL_noticesIn : Room := { frames := 8, cells := 1, slots := 6, locals := 145 }
set_option maxHeartbeats 400000 in
set_option maxRecDepth 100000 in
theorem kL_noticesIn (l : Launch) {M : Mm} (x1 : Int32) {post : Nat → Option Value → Mm → Prop} {xp : String → Mm → Prop} (hM : Cx l yX8_noticesIn wsX8_noticesIn rmX8_noticesIn (fun B => [.ref (B + 0), .int x1]) M post xp) (hp : ∀ B v u, post B v u → ∃ x, v = some (.int x)) (hx : ∀ E u, xp E u → E = xA) : Cw l yL_noticesIn wsL_noticesIn rmL_noticesIn (fun B => [.ref (B + 0), .int x1, .ref (B + 717)]) M (WP1 post xp xA) := by
  refine Cw.of (own := RL) (by decide +kernel) rfl rfl (fun B => Nat.le_of_ble_eq_true rfl) ?_
  intro pp ee ss mm aa bb me c9 DD ca cl B oo AA QQ F hN hL hT K
  show G pp l ee rmL_noticesIn ss mm aa bb me c9 QQ DD ca B (TL cl B oo) AA 4 0 0 M 0 [(0, .ref (B + 0)), (1, .int x1), (2, .ref (B + 717))] []
  refine g_aload_n F dL_noticesIn_0 rfl 2 rfl ?_
  refine g_iconst F (v := 0) dL_noticesIn_1 (by decide) ?_
  refine g_aload_n F dL_noticesIn_2 rfl 0 rfl ?_
  refine g_iload_n F dL_noticesIn_3 rfl 1 rfl ?_
  refine x_callV F hM (cwV 1 F.1.2.2.2.2 gL_noticesIn_X8_noticesIn rfl rfl rfl (by decide +kernel) ⟨Nat.le_of_ble_eq_true rfl, Nat.le_of_ble_eq_true rfl⟩) r0 (by decide) rfl rfl rfl rfl (Nat.le_of_ble_eq_true rfl) dL_noticesIn_4 ⟨Nat.le_of_ble_eq_true rfl, Nat.le_of_ble_eq_true rfl⟩ (fun v9 u9 h9 => ?_) (fun E9 u9 x9 => ?_)
  · obtain ⟨x9, rfl⟩ := hp _ _ _ h9
    refine g_i2l F dL_noticesIn_7 ?_
    refine g_out F hL dL_noticesIn_8 ?_
    refine g_goto F 15 dL_noticesIn_9 (by decide) ?_
    refine g_iconst F (v := 0) dL_noticesIn_15 (by decide) ?_
    refine g_widen (k := rmL_noticesIn.cells) (n := rmL_noticesIn.slots) (Nat.le_of_ble_eq_true rfl) (Nat.le_of_ble_eq_true rfl) ?_
    exact K _ _ _ _ _ dL_noticesIn_16 (Or.inl ⟨rfl, _, x9, h9, rfl⟩)
  · have hE := hx _ _ x9
    obtain rfl := hE
    refine g_catch F [] ⟨0, 9, 12, 15⟩ [] hT (fun z hz => absurd hz List.not_mem_nil) (by decide) (by decide) (by decide +kernel) (by decide +kernel) (fun q9 => ?_)
    refine g_astore_n F dL_noticesIn_12 rfl (by decide) rfl ?_
    refine g_iconst F (v := 1) dL_noticesIn_13 (by decide) ?_
    refine g_widen (k := rmL_noticesIn.cells) (n := rmL_noticesIn.slots) (Nat.le_of_ble_eq_true rfl) (Nat.le_of_ble_eq_true rfl) ?_
    exact K _ _ _ _ _ dL_noticesIn_14 (Or.inr ⟨rfl, x9⟩)

abbrev rmL_ticksToNotice : Room := { frames := 8, cells := 1, slots := 6, locals := 148 }
set_option maxHeartbeats 400000 in
set_option maxRecDepth 100000 in
theorem kL_ticksToNotice (l : Launch) {M : Mm} (x1 : Int32) {post : Nat → Option Value → Mm → Prop} {xp : String → Mm → Prop} (hM : Cx l yX8_ticksToNotice wsX8_ticksToNotice rmX8_ticksToNotice (fun B => [.ref (B + 0), .int x1]) M post xp) (hp : ∀ B v u, post B v u → ∃ x, v = some (.int x)) (hx : ∀ E u, xp E u → E = xI) : Cw l yL_ticksToNotice wsL_ticksToNotice rmL_ticksToNotice (fun B => [.ref (B + 0), .int x1, .ref (B + 717)]) M (WP1 post xp xI) := by
  refine Cw.of (own := RL) (by decide +kernel) rfl rfl (fun B => Nat.le_of_ble_eq_true rfl) ?_
  intro pp ee ss mm aa bb me c9 DD ca cl B oo AA QQ F hN hL hT K
  show G pp l ee rmL_ticksToNotice ss mm aa bb me c9 QQ DD ca B (TL cl B oo) AA 4 0 0 M 0 [(0, .ref (B + 0)), (1, .int x1), (2, .ref (B + 717))] []
  refine g_aload_n F dL_ticksToNotice_0 rfl 2 rfl ?_
  refine g_iconst F (v := 0) dL_ticksToNotice_1 (by decide) ?_
  refine g_aload_n F dL_ticksToNotice_2 rfl 0 rfl ?_
  refine g_iload_n F dL_ticksToNotice_3 rfl 1 rfl ?_
  refine x_callV F hM (cwV 1 F.1.2.2.2.2 gL_ticksToNotice_X8_ticksToNotice rfl rfl rfl (by decide +kernel) ⟨Nat.le_of_ble_eq_true rfl, Nat.le_of_ble_eq_true rfl⟩) r0 (by decide) rfl rfl rfl rfl (Nat.le_of_ble_eq_true rfl) dL_ticksToNotice_4 ⟨Nat.le_of_ble_eq_true rfl, Nat.le_of_ble_eq_true rfl⟩ (fun v9 u9 h9 => ?_) (fun E9 u9 x9 => ?_)
  · obtain ⟨x9, rfl⟩ := hp _ _ _ h9
    refine g_i2l F dL_ticksToNotice_7 ?_
    refine g_out F hL dL_ticksToNotice_8 ?_
    refine g_goto F 15 dL_ticksToNotice_9 (by decide) ?_
    refine g_iconst F (v := 0) dL_ticksToNotice_15 (by decide) ?_
    refine g_widen (k := rmL_ticksToNotice.cells) (n := rmL_ticksToNotice.slots) (Nat.le_of_ble_eq_true rfl) (Nat.le_of_ble_eq_true rfl) ?_
    exact K _ _ _ _ _ dL_ticksToNotice_16 (Or.inl ⟨rfl, _, x9, h9, rfl⟩)
  · have hE := hx _ _ x9
    obtain rfl := hE
    refine g_catch F [] ⟨0, 9, 12, 13⟩ [] hT (fun z hz => absurd hz List.not_mem_nil) (by decide) (by decide) (by decide +kernel) (by decide +kernel) (fun q9 => ?_)
    refine g_astore_n F dL_ticksToNotice_12 rfl (by decide) rfl ?_
    refine g_iconst F (v := 1) dL_ticksToNotice_13 (by decide) ?_
    refine g_widen (k := rmL_ticksToNotice.cells) (n := rmL_ticksToNotice.slots) (Nat.le_of_ble_eq_true rfl) (Nat.le_of_ble_eq_true rfl) ?_
    exact K _ _ _ _ _ dL_ticksToNotice_14 (Or.inr ⟨rfl, x9⟩)

abbrev rmL_mildLimit : Room := { frames := 8, cells := 1, slots := 6, locals := 146 }
set_option maxHeartbeats 400000 in
set_option maxRecDepth 100000 in
theorem kL_mildLimit (l : Launch) {M : Mm} (x1 : Int32) {post : Nat → Option Value → Mm → Prop} {xp : String → Mm → Prop} (hM : Cx l yX8_mildLimit wsX8_mildLimit rmX8_mildLimit (fun B => [.ref (B + 0), .int x1]) M post xp) (hp : ∀ B v u, post B v u → ∃ x, v = some (.int x)) (hx : ∀ E u, xp E u → E = xA) : Cw l yL_mildLimit wsL_mildLimit rmL_mildLimit (fun B => [.ref (B + 0), .int x1, .ref (B + 717)]) M (WP1 post xp xA) := by
  refine Cw.of (own := RL) (by decide +kernel) rfl rfl (fun B => Nat.le_of_ble_eq_true rfl) ?_
  intro pp ee ss mm aa bb me c9 DD ca cl B oo AA QQ F hN hL hT K
  show G pp l ee rmL_mildLimit ss mm aa bb me c9 QQ DD ca B (TL cl B oo) AA 4 0 0 M 0 [(0, .ref (B + 0)), (1, .int x1), (2, .ref (B + 717))] []
  refine g_aload_n F dL_mildLimit_0 rfl 2 rfl ?_
  refine g_iconst F (v := 0) dL_mildLimit_1 (by decide) ?_
  refine g_aload_n F dL_mildLimit_2 rfl 0 rfl ?_
  refine g_iload_n F dL_mildLimit_3 rfl 1 rfl ?_
  refine x_callV F hM (cwV 1 F.1.2.2.2.2 gL_mildLimit_X8_mildLimit rfl rfl rfl (by decide +kernel) ⟨Nat.le_of_ble_eq_true rfl, Nat.le_of_ble_eq_true rfl⟩) r0 (by decide) rfl rfl rfl rfl (Nat.le_of_ble_eq_true rfl) dL_mildLimit_4 ⟨Nat.le_of_ble_eq_true rfl, Nat.le_of_ble_eq_true rfl⟩ (fun v9 u9 h9 => ?_) (fun E9 u9 x9 => ?_)
  · obtain ⟨x9, rfl⟩ := hp _ _ _ h9
    refine g_i2l F dL_mildLimit_7 ?_
    refine g_out F hL dL_mildLimit_8 ?_
    refine g_goto F 15 dL_mildLimit_9 (by decide) ?_
    refine g_iconst F (v := 0) dL_mildLimit_15 (by decide) ?_
    refine g_widen (k := rmL_mildLimit.cells) (n := rmL_mildLimit.slots) (Nat.le_of_ble_eq_true rfl) (Nat.le_of_ble_eq_true rfl) ?_
    exact K _ _ _ _ _ dL_mildLimit_16 (Or.inl ⟨rfl, _, x9, h9, rfl⟩)
  · have hE := hx _ _ x9
    obtain rfl := hE
    refine g_catch F [] ⟨0, 9, 12, 15⟩ [] hT (fun z hz => absurd hz List.not_mem_nil) (by decide) (by decide) (by decide +kernel) (by decide +kernel) (fun q9 => ?_)
    refine g_astore_n F dL_mildLimit_12 rfl (by decide) rfl ?_
    refine g_iconst F (v := 1) dL_mildLimit_13 (by decide) ?_
    refine g_widen (k := rmL_mildLimit.cells) (n := rmL_mildLimit.slots) (Nat.le_of_ble_eq_true rfl) (Nat.le_of_ble_eq_true rfl) ?_
    exact K _ _ _ _ _ dL_mildLimit_14 (Or.inr ⟨rfl, x9⟩)

abbrev rmL_put : Room := { frames := 8, cells := 2, slots := 12, locals := 133 }
set_option maxHeartbeats 400000 in
set_option maxRecDepth 100000 in
theorem kL_put (l : Launch) {M : Mm} (x1 : Int64) {post : Nat → Option Value → Mm → Prop} {xp : String → Mm → Prop} (hM : Cx l yX8_put wsX8_put rmX8_put (fun B => [.ref (B + 0), .long x1]) M post xp) (hp : ∀ B v u, post B v u → ∃ x, v = some (.int x)) (hx : ∀ E u, xp E u → E = xA ∨ E = xS) : Cw l yL_put wsL_put rmL_put (fun B => [.ref (B + 0), .long x1, .ref (B + 717)]) M (WP2 post xp xA xS) := by
  refine Cw.of (own := RL) (by decide +kernel) rfl rfl (fun B => Nat.le_of_ble_eq_true rfl) ?_
  intro pp ee ss mm aa bb me c9 DD ca cl B oo AA QQ F hN hL hT K
  show G pp l ee rmL_put ss mm aa bb me c9 QQ DD ca B (TL cl B oo) AA 5 0 0 M 0 [(0, .ref (B + 0)), (1, .long x1), (3, .ref (B + 717))] []
  refine g_aload_n F dL_put_0 rfl 2 rfl ?_
  refine g_iconst F (v := 0) dL_put_1 (by decide) ?_
  refine g_aload_n F dL_put_2 rfl 0 rfl ?_
  refine g_lload_n F dL_put_3 rfl 1 rfl ?_
  refine x_callV F hM (cwV 1 F.1.2.2.2.2 gL_put_X8_put rfl rfl rfl (by decide +kernel) ⟨Nat.le_of_ble_eq_true rfl, Nat.le_of_ble_eq_true rfl⟩) r0 (by decide) rfl rfl rfl rfl (Nat.le_of_ble_eq_true rfl) dL_put_4 ⟨Nat.le_of_ble_eq_true rfl, Nat.le_of_ble_eq_true rfl⟩ (fun v9 u9 h9 => ?_) (fun E9 u9 x9 => ?_)
  · obtain ⟨x9, rfl⟩ := hp _ _ _ h9
    refine g_i2l F dL_put_7 ?_
    refine g_out F hL dL_put_8 ?_
    refine g_goto F 20 dL_put_9 (by decide) ?_
    refine g_iconst F (v := 0) dL_put_20 (by decide) ?_
    refine g_widen (k := rmL_put.cells) (n := rmL_put.slots) (Nat.le_of_ble_eq_true rfl) (Nat.le_of_ble_eq_true rfl) ?_
    exact K _ _ _ _ _ dL_put_21 (Or.inl ⟨rfl, _, x9, h9, rfl⟩)
  · have hE := hx _ _ x9
    rcases hE with rfl | rfl
    · refine g_catch F [] ⟨0, 9, 12, 15⟩ [⟨0, 9, 16, 38⟩] hT (fun z hz => absurd hz List.not_mem_nil) (by decide) (by decide) (by decide +kernel) (by decide +kernel) (fun q9 => ?_)
      refine g_astore F dL_put_12 (by decide) rfl ?_
      refine g_iconst F (v := 1) dL_put_14 (by decide) ?_
      refine g_widen (k := rmL_put.cells) (n := rmL_put.slots) (Nat.le_of_ble_eq_true rfl) (Nat.le_of_ble_eq_true rfl) ?_
      exact K _ _ _ _ _ dL_put_15 (Or.inr (Or.inl ⟨rfl, x9⟩))
    · refine g_catch F [⟨0, 9, 12, 15⟩] ⟨0, 9, 16, 38⟩ [] hT (fun z hz => by obtain rfl := List.mem_singleton.mp hz; exact Or.inr ⟨by decide, xA, by decide +kernel, hN.2.2⟩) (by decide) (by decide) (by decide +kernel) (by decide +kernel) (fun q9 => ?_)
      refine g_astore F dL_put_16 (by decide) rfl ?_
      refine g_iconst F (v := 2) dL_put_18 (by decide) ?_
      refine g_widen (k := rmL_put.cells) (n := rmL_put.slots) (Nat.le_of_ble_eq_true rfl) (Nat.le_of_ble_eq_true rfl) ?_
      exact K _ _ _ _ _ dL_put_19 (Or.inr (Or.inr ⟨rfl, x9⟩))

abbrev rmL_undo : Room := { frames := 7, cells := 1, slots := 6, locals := 165 }
set_option maxHeartbeats 400000 in
set_option maxRecDepth 100000 in
theorem kL_undo (l : Launch) {M : Mm} {post : Nat → Option Value → Mm → Prop} {xp : String → Mm → Prop} (hM : Cx l yX8_undo wsX8_undo rmX8_undo (fun B => [.ref (B + 0)]) M post xp) (hp : ∀ B v u, post B v u → ∃ x, v = some (.int x)) (hx : ∀ E u, xp E u → E = xS) : Cw l yL_undo wsL_undo rmL_undo (fun B => [.ref (B + 0), .ref (B + 717)]) M (WP1 post xp xS) := by
  refine Cw.of (own := RL) (by decide +kernel) rfl rfl (fun B => Nat.le_of_ble_eq_true rfl) ?_
  intro pp ee ss mm aa bb me c9 DD ca cl B oo AA QQ F hN hL hT K
  show G pp l ee rmL_undo ss mm aa bb me c9 QQ DD ca B (TL cl B oo) AA 3 0 0 M 0 [(0, .ref (B + 0)), (1, .ref (B + 717))] []
  refine g_aload_n F dL_undo_0 rfl 1 rfl ?_
  refine g_iconst F (v := 0) dL_undo_1 (by decide) ?_
  refine g_aload_n F dL_undo_2 rfl 0 rfl ?_
  refine x_callV F hM (cwV 0 F.1.2.2.2.2 gL_undo_X8_undo rfl rfl rfl (by decide +kernel) ⟨Nat.le_of_ble_eq_true rfl, Nat.le_of_ble_eq_true rfl⟩) r0 (by decide) rfl rfl rfl rfl (Nat.le_of_ble_eq_true rfl) dL_undo_3 ⟨Nat.le_of_ble_eq_true rfl, Nat.le_of_ble_eq_true rfl⟩ (fun v9 u9 h9 => ?_) (fun E9 u9 x9 => ?_)
  · obtain ⟨x9, rfl⟩ := hp _ _ _ h9
    refine g_i2l F dL_undo_6 ?_
    refine g_out F hL dL_undo_7 ?_
    refine g_goto F 14 dL_undo_8 (by decide) ?_
    refine g_iconst F (v := 0) dL_undo_14 (by decide) ?_
    refine g_widen (k := rmL_undo.cells) (n := rmL_undo.slots) (Nat.le_of_ble_eq_true rfl) (Nat.le_of_ble_eq_true rfl) ?_
    exact K _ _ _ _ _ dL_undo_15 (Or.inl ⟨rfl, _, x9, h9, rfl⟩)
  · have hE := hx _ _ x9
    obtain rfl := hE
    refine g_catch F [] ⟨0, 8, 11, 38⟩ [] hT (fun z hz => absurd hz List.not_mem_nil) (by decide) (by decide) (by decide +kernel) (by decide +kernel) (fun q9 => ?_)
    refine g_astore_n F dL_undo_11 rfl (by decide) rfl ?_
    refine g_iconst F (v := 1) dL_undo_12 (by decide) ?_
    refine g_widen (k := rmL_undo.cells) (n := rmL_undo.slots) (Nat.le_of_ble_eq_true rfl) (Nat.le_of_ble_eq_true rfl) ?_
    exact K _ _ _ _ _ dL_undo_13 (Or.inr ⟨rfl, x9⟩)

abbrev rmL_save : Room := { frames := 8, cells := 1, slots := 6, locals := 146 }
set_option maxHeartbeats 400000 in
set_option maxRecDepth 100000 in
theorem kL_save (l : Launch) {M : Mm} (x1 : Int32) {post : Nat → Option Value → Mm → Prop} {xp : String → Mm → Prop} (hM : Cx l yX8_save wsX8_save rmX8_save (fun B => [.ref (B + 0), .int x1]) M post xp) (hp : ∀ B v u, post B v u → ∃ x, v = some (.int x)) (hx : ∀ E u, xp E u → E = xI) : Cw l yL_save wsL_save rmL_save (fun B => [.ref (B + 0), .int x1, .ref (B + 717)]) M (WP1 post xp xI) := by
  refine Cw.of (own := RL) (by decide +kernel) rfl rfl (fun B => Nat.le_of_ble_eq_true rfl) ?_
  intro pp ee ss mm aa bb me c9 DD ca cl B oo AA QQ F hN hL hT K
  show G pp l ee rmL_save ss mm aa bb me c9 QQ DD ca B (TL cl B oo) AA 4 0 0 M 0 [(0, .ref (B + 0)), (1, .int x1), (2, .ref (B + 717))] []
  refine g_aload_n F dL_save_0 rfl 2 rfl ?_
  refine g_iconst F (v := 0) dL_save_1 (by decide) ?_
  refine g_aload_n F dL_save_2 rfl 0 rfl ?_
  refine g_iload_n F dL_save_3 rfl 1 rfl ?_
  refine x_callV F hM (cwV 1 F.1.2.2.2.2 gL_save_X8_save rfl rfl rfl (by decide +kernel) ⟨Nat.le_of_ble_eq_true rfl, Nat.le_of_ble_eq_true rfl⟩) r0 (by decide) rfl rfl rfl rfl (Nat.le_of_ble_eq_true rfl) dL_save_4 ⟨Nat.le_of_ble_eq_true rfl, Nat.le_of_ble_eq_true rfl⟩ (fun v9 u9 h9 => ?_) (fun E9 u9 x9 => ?_)
  · obtain ⟨x9, rfl⟩ := hp _ _ _ h9
    refine g_i2l F dL_save_7 ?_
    refine g_out F hL dL_save_8 ?_
    refine g_goto F 15 dL_save_9 (by decide) ?_
    refine g_iconst F (v := 0) dL_save_15 (by decide) ?_
    refine g_widen (k := rmL_save.cells) (n := rmL_save.slots) (Nat.le_of_ble_eq_true rfl) (Nat.le_of_ble_eq_true rfl) ?_
    exact K _ _ _ _ _ dL_save_16 (Or.inl ⟨rfl, _, x9, h9, rfl⟩)
  · have hE := hx _ _ x9
    obtain rfl := hE
    refine g_catch F [] ⟨0, 9, 12, 13⟩ [] hT (fun z hz => absurd hz List.not_mem_nil) (by decide) (by decide) (by decide +kernel) (by decide +kernel) (fun q9 => ?_)
    refine g_astore_n F dL_save_12 rfl (by decide) rfl ?_
    refine g_iconst F (v := 1) dL_save_13 (by decide) ?_
    refine g_widen (k := rmL_save.cells) (n := rmL_save.slots) (Nat.le_of_ble_eq_true rfl) (Nat.le_of_ble_eq_true rfl) ?_
    exact K _ _ _ _ _ dL_save_14 (Or.inr ⟨rfl, x9⟩)

abbrev rmL_restore : Room := { frames := 8, cells := 2, slots := 12, locals := 167 }
set_option maxHeartbeats 400000 in
set_option maxRecDepth 100000 in
theorem kL_restore (l : Launch) {M : Mm} (x1 : Int32) {post : Nat → Option Value → Mm → Prop} {xp : String → Mm → Prop} (hM : Cx l yX8_restore wsX8_restore rmX8_restore (fun B => [.ref (B + 0), .int x1]) M post xp) (hp : ∀ B v u, post B v u → ∃ x, v = some (.int x)) (hx : ∀ E u, xp E u → E = xI ∨ E = xS) : Cw l yL_restore wsL_restore rmL_restore (fun B => [.ref (B + 0), .int x1, .ref (B + 717)]) M (WP2 post xp xI xS) := by
  refine Cw.of (own := RL) (by decide +kernel) rfl rfl (fun B => Nat.le_of_ble_eq_true rfl) ?_
  intro pp ee ss mm aa bb me c9 DD ca cl B oo AA QQ F hN hL hT K
  show G pp l ee rmL_restore ss mm aa bb me c9 QQ DD ca B (TL cl B oo) AA 4 0 0 M 0 [(0, .ref (B + 0)), (1, .int x1), (2, .ref (B + 717))] []
  refine g_aload_n F dL_restore_0 rfl 2 rfl ?_
  refine g_iconst F (v := 0) dL_restore_1 (by decide) ?_
  refine g_aload_n F dL_restore_2 rfl 0 rfl ?_
  refine g_iload_n F dL_restore_3 rfl 1 rfl ?_
  refine x_callV F hM (cwV 1 F.1.2.2.2.2 gL_restore_X8_restore rfl rfl rfl (by decide +kernel) ⟨Nat.le_of_ble_eq_true rfl, Nat.le_of_ble_eq_true rfl⟩) r0 (by decide) rfl rfl rfl rfl (Nat.le_of_ble_eq_true rfl) dL_restore_4 ⟨Nat.le_of_ble_eq_true rfl, Nat.le_of_ble_eq_true rfl⟩ (fun v9 u9 h9 => ?_) (fun E9 u9 x9 => ?_)
  · obtain ⟨x9, rfl⟩ := hp _ _ _ h9
    refine g_i2l F dL_restore_7 ?_
    refine g_out F hL dL_restore_8 ?_
    refine g_goto F 18 dL_restore_9 (by decide) ?_
    refine g_iconst F (v := 0) dL_restore_18 (by decide) ?_
    refine g_widen (k := rmL_restore.cells) (n := rmL_restore.slots) (Nat.le_of_ble_eq_true rfl) (Nat.le_of_ble_eq_true rfl) ?_
    exact K _ _ _ _ _ dL_restore_19 (Or.inl ⟨rfl, _, x9, h9, rfl⟩)
  · have hE := hx _ _ x9
    rcases hE with rfl | rfl
    · refine g_catch F [] ⟨0, 9, 12, 13⟩ [⟨0, 9, 15, 38⟩] hT (fun z hz => absurd hz List.not_mem_nil) (by decide) (by decide) (by decide +kernel) (by decide +kernel) (fun q9 => ?_)
      refine g_astore_n F dL_restore_12 rfl (by decide) rfl ?_
      refine g_iconst F (v := 1) dL_restore_13 (by decide) ?_
      refine g_widen (k := rmL_restore.cells) (n := rmL_restore.slots) (Nat.le_of_ble_eq_true rfl) (Nat.le_of_ble_eq_true rfl) ?_
      exact K _ _ _ _ _ dL_restore_14 (Or.inr (Or.inl ⟨rfl, x9⟩))
    · refine g_catch F [⟨0, 9, 12, 13⟩] ⟨0, 9, 15, 38⟩ [] hT (fun z hz => by obtain rfl := List.mem_singleton.mp hz; exact Or.inr ⟨by decide, xI, by decide +kernel, hN.2.1⟩) (by decide) (by decide) (by decide +kernel) (by decide +kernel) (fun q9 => ?_)
      refine g_astore_n F dL_restore_15 rfl (by decide) rfl ?_
      refine g_iconst F (v := 2) dL_restore_16 (by decide) ?_
      refine g_widen (k := rmL_restore.cells) (n := rmL_restore.slots) (Nat.le_of_ble_eq_true rfl) (Nat.le_of_ble_eq_true rfl) ?_
      exact K _ _ _ _ _ dL_restore_17 (Or.inr (Or.inr ⟨rfl, x9⟩))
