/-! the constructors: the world grows by one cell after the other, at places that follow each other -/
abbrev CE : Type := Nat → va_E
def wlC (B n : Nat) (C : CE) : va_W := (List.range n).map (fun r => (B + r, C r))
abbrev AB (B : Nat) : Nat → Prop := fun q => B ≤ q
theorem wlC_at {B n r : Nat} {C : CE} (h : r < n) : (wlC B n C)[r]? = some (B + r, C r) := by simp [wlC, h]
theorem wlC_of {B n k : Nat} {C : CE} {q : Nat × va_E} (h : (wlC B n C)[k]? = some q) : k < n ∧ q = (B + k, C k) := by
  by_cases hk : k < n
  · rw [wlC_at hk] at h; cases h; exact ⟨hk, rfl⟩
  · rw [List.getElem?_eq_none (by simp [wlC]; omega)] at h; cases h
theorem wlC_D {B n : Nat} {C : CE} : va_D (AB B) (wlC B n C) := by
  refine ⟨fun i j x y hx hy e => ?_, fun k q hk => ?_⟩
  · rw [(wlC_of hx).2, (wlC_of hy).2] at e
    replace e : B + i = B + j := e
    omega
  · rw [(wlC_of hk).2]; exact Nat.le_add_right _ _
theorem wlC_set {B n r : Nat} {C : CE} {x : va_E} (h : r < n) : (wlC B n C).set r (B + r, x) = wlC B n (va_up C r x) := by
  refine List.ext_getElem? fun i => ?_
  by_cases hi : i = r
  · subst hi
    rw [List.getElem?_set_self (by simpa [wlC] using h), wlC_at h, va_up_self]
  · rw [List.getElem?_set_ne (fun q => hi q.symm)]
    by_cases hl : i < n
    · rw [wlC_at hl, wlC_at hl, va_up_ne _ _ hi]
    · rw [List.getElem?_eq_none (by simp [wlC]; omega), List.getElem?_eq_none (by simp [wlC]; omega)]
/-- the world of n cells, in a heap that ends with it -/
def Wc (D : va_G) (B n : Nat) (C : CE) (H : Heap) : Prop := (∀ r, r < n → va_at D vwCl (B + r, C r) H) ∧ H.size = B + n
theorem Wc.P {D : va_G} {B n : Nat} {C : CE} {H : Heap} (h : Wc D B n C H) : va_P D vwCl (wlC B n C) H := fun k q hk => by
  obtain ⟨h1, h2⟩ := wlC_of hk
  rw [h2]; exact h.1 k h1
theorem Wc.of {D : va_G} {B n : Nat} {C : CE} {H : Heap} (h : va_P D vwCl (wlC B n C) H) (hs : H.size = B + n) : Wc D B n C H := ⟨fun _ hr => h _ _ (wlC_at hr), hs⟩
theorem Wc.push {D : va_G} {B n : Nat} {C : CE} {x : va_E} {H H1 : Heap} (h : Wc D B n C H) (z : H1.size = H.size + 1) (o : ∀ q, q < H.size → H1[q]? = H[q]?) (hx : va_at D vwCl (B + n, x) H1) : Wc D B (n + 1) (va_up C n x) H1 := by
  refine ⟨fun r hr => ?_, by rw [z, h.2]; omega⟩
  by_cases hk : r = n
  · rw [hk, va_up_self]; exact hx
  · rw [va_up_ne _ _ hk]
    exact (h.1 r (by omega)).kept (o _ (by rw [h.2]; show B + r < _; omega))
/-- from any heap that holds these cells, with these locals and this stack at pc, the constructor comes to a state with Q -/
def GC (p : Program) (l : Launch) (e : Env) (R : Room) (s : State) (m : MethodId) (args : Array Value) (below : List Frame) (meth : Method) (c : Code) (Q : State → Prop) (D : va_G) (ca : Nat → ClassId) (B : Nat) (A : Nat → Prop) (nL : Nat) (cells slots n : Nat) (C : CE) (pc : Nat) (lv : List (Nat × Value)) (st : List Value) : Prop :=
  ∀ (H : Heap) (locs : List Loc) (ls : Array Slot), Wc D B n C H → va_S A s.heap H locs → lv_has ls nL lv → W p l e R s m args below meth c H locs cells slots Q (F0 m pc ls st)
theorem Fx.h1 {p : Program} {R : Room} {s : State} {m : MethodId} {args : Array Value} {meth : Method} {c : Code} {cc : ByteArray} {nL : Nat} {Ts : List Cond} {own : String} {D : va_G} {ca : Nat → ClassId} {A : Nat → Prop} (F : Fx p R s m args meth c cc nL Ts own D ca A) {w : Cond} (h : w ∈ Ts) : w.before args s = true := F.1.2.2.2.2 _ h
section GROW
variable {p : Program} {l : Launch} {e : Env} {R : Room} {s : State} {m : MethodId} {args : Array Value} {below : List Frame} {meth : Method} {c : Code} {Q : State → Prop} {D : va_G} {ca : Nat → ClassId} {B : Nat} {nL cells slots n nn : Nat} {C : CE} {pc : Nat} {lv : List (Nat × Value)} {st : List Value} {cc : ByteArray} {Ts : List Cond} {own : String}

theorem gc_iconst (F : Fx p R s m args meth c cc nL Ts own D ca (AB B)) {n : Int} {v : Int32} (hdg : decode cc pc = .ok (.iconst n, 1)) (hv : Int32.ofInt n = v) (k : GC p l e R s m args below meth c Q D ca B (AB B) nL cells slots nn C (pc + 1) lv (.int v :: st)) : GC p l e R s m args below meth c Q D ca B (AB B) nL cells slots nn C pc lv st := fun H locs ls w9 h9 hl9 => lv_iconst F.1.1 F.1.2.1 hdg hv (k H locs ls w9 h9 hl9)
theorem gc_bipush (F : Fx p R s m args meth c cc nL Ts own D ca (AB B)) {n : Int} {v : Int32} (hdg : decode cc pc = .ok (.bipush n, 2)) (hv : (Int8.ofInt n).toInt32 = v) (k : GC p l e R s m args below meth c Q D ca B (AB B) nL cells slots nn C (pc + 2) lv (.int v :: st)) : GC p l e R s m args below meth c Q D ca B (AB B) nL cells slots nn C pc lv st := fun H locs ls w9 h9 hl9 => lv_bipush F.1.1 F.1.2.1 hdg hv (k H locs ls w9 h9 hl9)
theorem gc_sipush (F : Fx p R s m args meth c cc nL Ts own D ca (AB B)) {n : Int} {v : Int32} (hdg : decode cc pc = .ok (.sipush n, 3)) (hv : (Int16.ofInt n).toInt32 = v) (k : GC p l e R s m args below meth c Q D ca B (AB B) nL cells slots nn C (pc + 3) lv (.int v :: st)) : GC p l e R s m args below meth c Q D ca B (AB B) nL cells slots nn C pc lv st := fun H locs ls w9 h9 hl9 => lv_sipush F.1.1 F.1.2.1 hdg hv (k H locs ls w9 h9 hl9)
theorem gc_iload_n (F : Fx p R s m args meth c cc nL Ts own D ca (AB B)) {k : Fin 4} {i : Nat} {x : Int32} (hdg : decode cc pc = .ok (.iload_n k, 1)) (hi : (k : Nat) = i) (j : Nat) (hj : lv[j]? = some (i, .int x)) (kk : GC p l e R s m args below meth c Q D ca B (AB B) nL cells slots nn C (pc + 1) lv (.int x :: st)) : GC p l e R s m args below meth c Q D ca B (AB B) nL cells slots nn C pc lv st := fun H locs ls w9 h9 hl9 => lv_iload_n F.1.1 F.1.2.1 hdg hi (lv_at hl9 j hj) (kk H locs ls w9 h9 hl9)
theorem gc_istore_n (F : Fx p R s m args meth c cc nL Ts own D ca (AB B)) {k : Fin 4} {i : Nat} {x : Int32} {lv2 : List (Nat × Value)} (hdg : decode cc pc = .ok (.istore_n k, 1)) (hi : (k : Nat) = i) (hn : i < nL) (hq : lset i (.int x) lv = lv2) (kk : GC p l e R s m args below meth c Q D ca B (AB B) nL cells slots nn C (pc + 1) lv2 st) : GC p l e R s m args below meth c Q D ca B (AB B) nL cells slots nn C pc lv (.int x :: st) := fun H locs ls w9 h9 hl9 => lv_istore_n F.1.1 F.1.2.1 hdg hi hl9 hn hq (fun ls9 hl8 => kk H locs ls9 w9 h9 hl8)
theorem gc_aload_n (F : Fx p R s m args meth c cc nL Ts own D ca (AB B)) {k : Fin 4} {i : Nat} {x : Nat} (hdg : decode cc pc = .ok (.aload_n k, 1)) (hi : (k : Nat) = i) (j : Nat) (hj : lv[j]? = some (i, .ref x)) (kk : GC p l e R s m args below meth c Q D ca B (AB B) nL cells slots nn C (pc + 1) lv (.ref x :: st)) : GC p l e R s m args below meth c Q D ca B (AB B) nL cells slots nn C pc lv st := fun H locs ls w9 h9 hl9 => lv_aload_n F.1.1 F.1.2.1 hdg hi (lv_at hl9 j hj) (kk H locs ls w9 h9 hl9)
theorem gc_iinc (F : Fx p R s m args meth c cc nL Ts own D ca (AB B)) {i : Nat} {n : Int} {x v : Int32} {lv2 : List (Nat × Value)} (hdg : decode cc pc = .ok (.iinc i n, 3)) (j : Nat) (hj : lv[j]? = some (i, .int x)) (hv : x + Int32.ofInt n = v) (hn : i < nL) (hq : lset i (.int v) lv = lv2) (kk : GC p l e R s m args below meth c Q D ca B (AB B) nL cells slots nn C (pc + 3) lv2 st) : GC p l e R s m args below meth c Q D ca B (AB B) nL cells slots nn C pc lv st := fun H locs ls w9 h9 hl9 => lv_iinc F.1.1 F.1.2.1 hdg hl9 hj hv hn hq (fun ls9 hl8 => kk H locs ls9 w9 h9 hl8)
theorem gc_iadd (F : Fx p R s m args meth c cc nL Ts own D ca (AB B)) {x y : Int32} (hdg : decode cc pc = .ok (.iadd, 1)) (k : GC p l e R s m args below meth c Q D ca B (AB B) nL cells slots nn C (pc + 1) lv (.int (x + y) :: st)) : GC p l e R s m args below meth c Q D ca B (AB B) nL cells slots nn C pc lv (.int y :: .int x :: st) := fun H locs ls w9 h9 hl9 => lv_iadd F.1.1 F.1.2.1 hdg  (k H locs ls w9 h9 hl9)
theorem gc_irem (F : Fx p R s m args meth c cc nL Ts own D ca (AB B)) {x y : Int32} (hdg : decode cc pc = .ok (.irem, 1)) (hne : ¬ y = 0) (k : GC p l e R s m args below meth c Q D ca B (AB B) nL cells slots nn C (pc + 1) lv (.int (x - x / y * y) :: st)) : GC p l e R s m args below meth c Q D ca B (AB B) nL cells slots nn C pc lv (.int y :: .int x :: st) := fun H locs ls w9 h9 hl9 => lv_irem F.1.1 F.1.2.1 hdg hne (k H locs ls w9 h9 hl9)
theorem gc_dup (F : Fx p R s m args meth c cc nL Ts own D ca (AB B)) {va : Value} (hdg : decode cc pc = .ok (.dup, 1)) (hva : va.category = 1) (k : GC p l e R s m args below meth c Q D ca B (AB B) nL cells slots nn C (pc + 1) lv (va :: va :: st)) : GC p l e R s m args below meth c Q D ca B (AB B) nL cells slots nn C pc lv (va :: st) := fun H locs ls w9 h9 hl9 => lv_dup F.1.1 F.1.2.1 hdg hva (k H locs ls w9 h9 hl9)
theorem gc_icmp_ge (F : Fx p R s m args meth c cc nL Ts own D ca (AB B)) {x y : Int32} {off : Int} (tgt : Nat) (hdg : decode cc pc = .ok (.if_icmp .ge off, 3)) (ht : (pc : Int) + off = (tgt : Int)) (kt : y ≤ x → GC p l e R s m args below meth c Q D ca B (AB B) nL cells slots nn C tgt lv st) (kf : ¬ y ≤ x → GC p l e R s m args below meth c Q D ca B (AB B) nL cells slots nn C (pc + 3) lv st) : GC p l e R s m args below meth c Q D ca B (AB B) nL cells slots nn C pc lv (.int y :: .int x :: st) := fun H locs ls w9 h9 hl9 => lv_icmp_ge F.1.1 F.1.2.1 hdg ht (fun q => kt q H locs ls w9 h9 hl9) (fun q => kf q H locs ls w9 h9 hl9)
theorem gc_icmpN_ge (F : Fx p R s m args meth c cc nL Ts own D ca (AB B)) {x y : Int32} {off : Int} (tgt : Nat) (hdg : decode cc pc = .ok (.if_icmp .ge off, 3)) (ht : (pc : Int) + off = (tgt : Int)) (a b : Nat) (hx : x = nI a) (hy : y = nI b) (ha : a < 2 ^ 31) (hb : b < 2 ^ 31) (kt : b ≤ a → GC p l e R s m args below meth c Q D ca B (AB B) nL cells slots nn C tgt lv st) (kf : a < b → GC p l e R s m args below meth c Q D ca B (AB B) nL cells slots nn C (pc + 3) lv st) : GC p l e R s m args below meth c Q D ca B (AB B) nL cells slots nn C pc lv (.int y :: .int x :: st) := by
  subst hx; subst hy
  exact gc_icmp_ge F tgt hdg ht (fun q => kt ((nI_leI hb ha).mp q)) (fun q => kf (Nat.lt_of_not_le (fun z => q ((nI_leI hb ha).mpr z))))
theorem gc_goto (F : Fx p R s m args meth c cc nL Ts own D ca (AB B)) {off : Int} (tgt : Nat) (hdg : decode cc pc = .ok (.goto off, 3)) (ht : (pc : Int) + off = (tgt : Int)) (k : GC p l e R s m args below meth c Q D ca B (AB B) nL cells slots nn C tgt lv st) : GC p l e R s m args below meth c Q D ca B (AB B) nL cells slots nn C pc lv st := fun H locs ls w9 h9 hl9 => lv_goto F.1.1 F.1.2.1 hdg ht (k H locs ls w9 h9 hl9)
theorem gc_top {x y : Int32} (hxy : x = y) (k : GC p l e R s m args below meth c Q D ca B (AB B) nL cells slots nn C pc lv (.int y :: st)) : GC p l e R s m args below meth c Q D ca B (AB B) nL cells slots nn C pc lv (.int x :: st) := by rw [hxy]; exact k
theorem gc_lv {lv2 : List (Nat × Value)} (ks : List Nat) (hk : lv_pick lv ks = lv2) (k : GC p l e R s m args below meth c Q D ca B (AB B) nL cells slots nn C pc lv2 st) : GC p l e R s m args below meth c Q D ca B (AB B) nL cells slots nn C pc lv st := fun H locs ls w9 h9 hl9 => k H locs ls w9 h9 (lv_sub hl9 ks hk)
theorem gc_iload (F : Fx p R s m args meth c cc nL Ts own D ca (AB B)) {i : Nat} {x : Int32} (hdg : decode cc pc = .ok (.iload i, 2)) (j : Nat) (hj : lv[j]? = some (i, .int x)) (kk : GC p l e R s m args below meth c Q D ca B (AB B) nL cells slots nn C (pc + 2) lv (.int x :: st)) : GC p l e R s m args below meth c Q D ca B (AB B) nL cells slots nn C pc lv st := fun H locs ls w9 h9 hl9 => lv_iload F.1.1 F.1.2.1 hdg (lv_at hl9 j hj) (kk H locs ls w9 h9 hl9)

theorem gc_eqv {C2 : CE} (h : ∀ q, q < n → ∀ H, va_at D vwCl (B + q, C q) H → va_at D vwCl (B + q, C2 q) H) (k : GC p l e R s m args below meth c Q D ca B (AB B) nL cells slots n C2 pc lv st) : GC p l e R s m args below meth c Q D ca B (AB B) nL cells slots n C pc lv st := fun H locs ls w9 h9 hl9 => k H locs ls ⟨fun r hr => h r hr H (w9.1 r hr), w9.2⟩ h9 hl9
theorem gc_eq {C2 : CE} (h : ∀ q, q < n → C q = C2 q) (k : GC p l e R s m args below meth c Q D ca B (AB B) nL cells slots n C2 pc lv st) : GC p l e R s m args below meth c Q D ca B (AB B) nL cells slots n C pc lv st := gc_eqv (fun q hq H z => by rw [← h q hq]; exact z) k
theorem gc_n {n2 : Nat} (h : n = n2) (k : GC p l e R s m args below meth c Q D ca B (AB B) nL cells slots n2 C pc lv st) : GC p l e R s m args below meth c Q D ca B (AB B) nL cells slots n C pc lv st := by rw [h]; exact k
theorem gc_widen {k i : Nat} (h1 : cells ≤ k) (h2 : slots ≤ i) (kk : GC p l e R s m args below meth c Q D ca B (AB B) nL k i n C pc lv st) : GC p l e R s m args below meth c Q D ca B (AB B) nL cells slots n C pc lv st := fun H locs ls w9 h9 hl9 => W.widen (k := k) (n := i) h1 h2 (kk H locs ls w9 h9 hl9)
/-- Object's constructor -/
theorem gc_obj (F : Fx p R s m args meth c cc nL Ts own D ca (AB B)) {index a : Nat} (h1 : Cond.methodLink own index objectInit ∈ Ts) (h2 : Cond.instanceMethod objectInit ∈ Ts) (h3 : Cond.code objectInit ⟨#[0xb1]⟩ 1 none ∈ Ts) (hdg : decode cc pc = .ok (.invokespecial index, 3)) (hf : 1 ≤ R.frames) (hlo : (st.map fun v => v.category).sum + 12 ≤ R.locals) (k : GC p l e R s m args below meth c Q D ca B (AB B) nL cells slots n C (pc + 3) lv st) : GC p l e R s m args below meth c Q D ca B (AB B) nL cells slots n C pc lv (.ref (B + a) :: st) := fun H locs ls w9 h9 hl9 => by
  refine W.objInit F.1.1 F.1.2.1 F.1.2.2.2.1 (F.h1 h1) (F.h1 h2) (F.h1 h3) rfl (by rw [F.1.2.2.1]; exact hl9.1) rfl hdg hf (by have h0 : (F0 m pc ls (Value.ref (B + a) :: st)).monitorRoom = 0 := rfl; rw [h0]; omega) ?_
  exact k H locs ls w9 h9 hl9
/-- a new object: its place is the next -/
theorem gc_new (F : Fx p R s m args meth c cc nL Ts own D ca (AB B)) {C0 : String} {T : u_T} {N ci index : Nat} (hin : ∀ w ∈ u_ws C0 T N, w ∈ Ts) (ty : Nat → FieldType) (hty : ∀ k, k < N → parseFieldDescriptor (T k).2.2.1 = some (ty k)) (hc : vwCl[ci]? = some (C0, T, N)) {fs : List Value} (hfs : ∀ j, j < N → defaultValue (ty j) = vp_V fs j) (hcl : Cond.classLink own index C0 ∈ Ts) (hinst : Cond.instantiable C0 N ∈ Ts) (hini : Cond.initialized C0 ∈ Ts) (hcells : cells + 1 ≤ R.cells) (hslots : slots + N ≤ R.slots) (hdg : decode cc pc = .ok (.new index, 3))
    (kk : GC p l e R s m args below meth c Q D ca B (AB B) nL (cells + 1) (slots + N) (n + 1) (va_up C n (.inr (ci, fs))) (pc + 3) lv (.ref (B + n) :: st)) : GC p l e R s m args below meth c Q D ca B (AB B) nL cells slots n C pc lv st := by
  intro H locs ls w9 h9 hl9
  have hKn := F.2.1.1 ci _ hc
  refine W.newcK F.1.1 F.1.2.1 F.1.2.2.2.1 (F.h1 hcl) (F.h1 hinst) (F.h1 hini) rfl hdg hcells hslots hKn.2.1 rfl fun H1 kC hkC e1 z1 o1 => ?_
  have e2 : H1[B + n]? = some (blank (D.1 ci) kC) := by rw [← w9.2]; exact e1
  have k9 := kk H1 locs ls (w9.push z1 o1 ⟨_, hc, (u_born ty F.1.2.2.2.2 hin hKn hkC e2 hty).to hfs⟩) ⟨Nat.le_trans h9.1 (by omega), fun x q1 q2 => (o1 x (Nat.lt_of_lt_of_le q1 h9.1)).trans (h9.2.1 x q1 q2), h9.2.2⟩ hl9
  rw [← w9.2] at k9
  exact k9
/-- a new array of numbers -/
theorem gc_newa (F : Fx p R s m args meth c cc nL Ts own D ca (AB B)) {atype : ArrayType} {ty : FieldType} {cA : ClassId} (t0 : Nat) (ht : (tyl ca)[t0]? = some (cA, ty)) (hty : newarray.typeOf atype = ty) (hi : defaultValue ty = .int 0) (hra : va_RA s cA ty = (s.vm.findClass ("[" ++ ty.toString) = some cA)) (harr : Cond.arrayClass ty ∈ Ts) {x : Int32} (N : Nat) (hx : x = nI N) (hN : N + 1 < 2 ^ 31) (hb : N * componentBytes ty ≤ 536870912) (hcells : cells + 1 ≤ R.cells) (hslots : slots + N ≤ R.slots) (hdg : decode cc pc = .ok (.newarray atype, 2))
    (kk : GC p l e R s m args below meth c Q D ca B (AB B) nL (cells + 1) (slots + N) (n + 1) (va_up C n (.inl (cA, N, .inl (fun _ => 0)))) (pc + 2) lv (.ref (B + n) :: st)) : GC p l e R s m args below meth c Q D ca B (AB B) nL cells slots n C pc lv (.int x :: st) := by
  subst hx; subst hty
  intro H locs ls w9 h9 hl9
  refine va_newaK F.1.1 F.1.2.1 (F.h1 harr) rfl hdg rfl (fun q => vp_in_nI (Nat.lt_succ_self N) (by omega : N + 1 < 2 ^ 31) (Or.inl q)) (nI_clamp (by omega)) hb hcells hslots w9.2 fun H1 cB e1 z1 o1 hAr hNm => ?_
  obtain rfl : cA = cB := Option.some.inj ((hra.mp (F.2.1.2 t0 _ ht).2).symm.trans hNm)
  exact kk H1 locs ls (w9.push (z1.trans (by rw [w9.2])) (fun q hq => o1 q (by rw [← w9.2]; exact hq)) (by
    show H1[B + n]? = some (vp_cell _ _)
    rw [vp_cell_i, e1, hi])) ⟨Nat.le_trans h9.1 (by rw [z1, w9.2]; omega), fun y q1 q2 => (o1 y (by rw [← w9.2]; exact Nat.lt_of_lt_of_le q1 h9.1)).trans (h9.2.1 y q1 q2), h9.2.2⟩ hl9
/-- a new array of references -/
theorem gc_anew (F : Fx p R s m args meth c cc nL Ts own D ca (AB B)) {C0 : String} {index : Nat} {cA : ClassId} (t0 : Nat) (ht : (tyl ca)[t0]? = some (cA, .object C0)) (hcl : Cond.classLink own index C0 ∈ Ts) (hover : va_AO C0 s) {x : Int32} (N : Nat) (hx : x = nI N) (hN : N + 1 < 2 ^ 31) (hb : N * 4 ≤ 536870912) (hcells : cells + 1 ≤ R.cells) (hslots : slots + N ≤ R.slots) (hdg : decode cc pc = .ok (.anewarray index, 3))
    (kk : GC p l e R s m args below meth c Q D ca B (AB B) nL (cells + 1) (slots + N) (n + 1) (va_up C n (.inl (cA, N, .inr (.inr (.inr (.inr (fun _ => none))))))) (pc + 3) lv (.ref (B + n) :: st)) : GC p l e R s m args below meth c Q D ca B (AB B) nL cells slots n C pc lv (.int x :: st) := by
  subst hx
  intro H locs ls w9 h9 hl9
  have hz := nI_clamp (n := N) (by omega)
  refine W.anew F.1.1 F.1.2.1 F.1.2.2.2.1 (F.h1 hcl) (va_AO.use hover) rfl hdg rfl (fun q => vp_in_nI (Nat.lt_succ_self N) (by omega : N + 1 < 2 ^ 31) (Or.inl q)) (by rw [hz]; exact hb) hcells (by rw [hz]; exact hslots) fun cB kA comp f1 f2 f3 f4 => ?_
  obtain ⟨_, _, _, _, _, f5⟩ := (F.2.1.2 t0 _ ht).2
  obtain rfl : cA = cB := Option.some.inj (f5.symm.trans f1)
  generalize hH1 : H.push ({ cls := cA, slots := Array.replicate (nI N).toNatClampNeg .null, vm := .none } : Cell) = H1
  have z1 : H1.size = H.size + 1 := by rw [← hH1, Array.size_push]
  have e1 : H1[B + n]? = some (arrV cA N (fun _ => .null)) := by rw [← w9.2, ← hH1, Array.getElem?_push_size, hz, ← arrV_new]
  have o1 : ∀ q : Nat, q < H.size → H1[q]? = H[q]? := fun q hq => by rw [← hH1, Array.getElem?_push, if_neg (Nat.ne_of_lt hq)]
  have k9 := kk H1 locs ls (w9.push z1 o1 (by
    show H1[B + n]? = some (vp_cell _ _)
    rw [vp_cell_q]; exact e1)) ⟨Nat.le_trans h9.1 (by omega), fun y q1 q2 => (o1 y (Nat.lt_of_lt_of_le q1 h9.1)).trans (h9.2.1 y q1 q2), h9.2.2⟩ hl9
  rw [← w9.2] at k9
  rw [hz]
  exact k9
/-- a field is set: final or not -/
theorem gc_put (F : Fx p R s m args meth c cc nL Ts own D ca (AB B)) (hname : meth.name = "<init>") {C0 : String} {T : u_T} {N ci index : Nat} (hin : ∀ w ∈ u_ws C0 T N, w ∈ Ts) (ty0 : Nat → FieldType) (hty : ∀ k, k < N → parseFieldDescriptor (T k).2.2.1 = some (ty0 k)) (hnm : ∀ a, a < N → ∀ b, b < N → a ≠ b → (T a).2.1 ≠ (T b).2.1) (hc : vwCl[ci]? = some (C0, T, N)) {r : Nat} {fs : List Value} (hr : r < n) (he : C r = .inr (ci, fs)) (k : Nat) (hk : k < N) (hlink : Cond.fieldLink own index C0 (T k).2.1 (T k).2.2.1 ∈ Ts) (hT : (T k).1 = C0) (hown : C0 = own) {ty : FieldType} {v : Value} (hd : parseFieldDescriptor (T k).2.2.1 = some ty) (hn : narrow ty v = v) (hfit : fits ty v = true) (hl : k < fs.length) (hdg : decode cc pc = .ok (.putfield index, 3))
    (kk : GC p l e R s m args below meth c Q D ca B (AB B) nL cells slots n (va_up C r (.inr (ci, fs.set k v))) (pc + 3) lv st) : GC p l e R s m args below meth c Q D ca B (AB B) nL cells slots n C pc lv (v :: .ref (B + r) :: st) := by
  intro H locs ls w9 h9 hl9
  have h0 : va_at D vwCl (B + r, .inr (ci, fs)) H := by rw [← he]; exact w9.1 r hr
  have hts := F.1.2.2.2.2
  obtain ⟨r', h1, cell, q1, q2, q3, q4⟩ := h0
  obtain rfl : r' = (C0, T, N) := Option.some.inj (h1.symm.trans hc)
  have hap := va_apart (own := own) hts hin ty0 hty hnm F.2.1 hc
  obtain ⟨hS, hfc, kC, hkC, hkind⟩ := F.2.1.1 ci _ hc
  obtain ⟨cf, kf, fi, f, hi, hsl⟩ := hS k hk
  have hlay := hts _ (hin _ (u_in_lay hk))
  have hst := (u_facts hfc hkC (u_lays hts hin hk) hi).1
  have end9 : ∀ (H1 : Heap), H1[B + r]? = some (cell.setSlot f.slot v) → H1.size = H.size → (∀ q, q ≠ B + r → H1[q]? = H[q]?) → W p l e R s m args below meth c H1 (locs ++ [⟨B + r, f.slot⟩]) cells slots Q (F0 m (pc + 3) ls st) := fun H1 e1 e2 e3 => by
    rw [hsl] at e1
    refine kk H1 _ ls ⟨fun x hx => ?_, e2.trans w9.2⟩ (h9.put e2 e3 (Nat.le_add_right _ _)) hl9
    by_cases hxr : x = r
    · rw [hxr, va_up_self]
      exact ⟨_, hc, t_OB.to (V := updV (vp_V fs) k v) ⟨_, e1, q2, q3, t_set q4 hap hk v⟩ (fun j _ => vp_updV_set hl v j)⟩
    · rw [va_up_ne _ _ hxr]
      exact (w9.1 x hx).kept (e3 _ (fun z => hxr (by replace z : B + x = B + r := z; omega)))
  unfold u_lay at hlay
  by_cases hfin : (T k).2.2.2 = true
  · rw [if_pos hfin] at hlay
    have hcf : m.cls = cf := by
      obtain ⟨_, _, c', _, _, _, -, -, hf', -, -, -, hown2, -⟩ := Cond.laysFinal_spec hlay
      have e1 : c' = cf := by have := hi.symm.trans hf'; simp at this; exact this.1.symm
      rw [hT, hown] at hown2
      rw [← e1]; exact Option.some.inj (F.1.2.2.2.1.symm.trans hown2)
    have h6 := u_fits hfc hkC hkind (Or.inr hlay) hi hd hn hfit
    exact W.putFinK F.1.1 F.1.2.1 F.1.2.2.2.1 (F.h1 hlink) (hT ▸ hi) hst hcf hname (by rw [q2]; exact h6) q1 q3 (by rw [hsl]; exact k2_hasslot (q4 k hk)) rfl rfl hdg fun H' e1 e2 e3 => end9 H' e1 e2 e3
  · rw [if_neg hfin] at hlay
    have h6 := u_store hfc hkC hkind hlay hi hd hn hfit
    exact W.putK F.1.1 F.1.2.1 (f := f) ⟨F.1.2.2.2.1, F.h1 hlink, ⟨_, _, _, hT ▸ hi⟩, hst⟩ (by rw [q2]; exact h6) q1 q3 (by rw [hsl]; exact k2_hasslot (q4 k hk)) rfl rfl hdg fun H' e1 e2 e3 => end9 H' e1 e2 e3
/-- a field is read -/
theorem gc_get (F : Fx p R s m args meth c cc nL Ts own D ca (AB B)) {C0 : String} {T : u_T} {N ci index : Nat} (hin : ∀ w ∈ u_ws C0 T N, w ∈ Ts) (hc : vwCl[ci]? = some (C0, T, N)) {r : Nat} {fs : List Value} (hr : r < n) (he : C r = .inr (ci, fs)) (k : Nat) (hk : k < N) (hlink : Cond.fieldLink own index C0 (T k).2.1 (T k).2.2.1 ∈ Ts) (hT : (T k).1 = C0) {v : Value} (hv : fs[k]? = some v) (hdg : decode cc pc = .ok (.getfield index, 3))
    (kk : GC p l e R s m args below meth c Q D ca B (AB B) nL cells slots n C (pc + 3) lv (v :: st)) : GC p l e R s m args below meth c Q D ca B (AB B) nL cells slots n C pc lv (.ref (B + r) :: st) := fun H locs ls w9 h9 hl9 =>
  va_get F.1.1 F.1.2.1 F.1.2.2.2.2 hin F.1.2.2.2.1 F.2.1 w9.P r (by rw [wlC_at hr, he]) hc k hk (F.h1 hlink) (fun _ h => hT ▸ h) hv hdg (kk H locs ls w9 h9 hl9)
/-- a number is laid into an array -/
theorem gc_iastore (F : Fx p R s m args meth c cc nL Ts own D ca (AB B)) {r N : Nat} {f : Nat → Int32} (hr : r < n) (he : C r = .inl (ca 11, N, .inl f)) {i x : Int32} (j : Nat) (hi : i = nI j) (hj : j < N) (hN : N < 2 ^ 31) (hdg : decode cc pc = .ok (.iastore, 1))
    (kk : GC p l e R s m args below meth c Q D ca B (AB B) nL cells slots n (va_up C r (.inl (ca 11, N, .inl (upd f j x)))) (pc + 1) lv st) : GC p l e R s m args below meth c Q D ca B (AB B) nL cells slots n C pc lv (.int x :: .int i :: .ref (B + r) :: st) := by
  subst hi
  intro H locs ls w9 h9 hl9
  have h0 : H[B + r]? = some (vp_cell (ca 11) (N, .inl f)) := by have := w9.1 r hr; rw [he] at this; exact this
  refine W.iast F.1.1 F.1.2.1 h0 ((F.2.1.2 1 _ rfl).1 N (fun j => .int (f j))) (fun q => by cases q) (by show ¬ (nI j < 0 ∨ (arrV _ _ _).slots.size ≤ _); rw [arrV_size]; exact vp_in_nI hj hN) rfl rfl hdg fun H1 e z oq => ?_
  refine kk H1 _ ls ⟨fun y hy => ?_, z.trans w9.2⟩ (h9.put z oq (Nat.le_add_right _ _)) hl9
  by_cases hxr : y = r
  · rw [hxr, va_up_self]
    show H1[B + r]? = some (vp_cell _ _)
    rw [e, vp_cell_i, vp_cell_i, arrV_store, nI_clamp (by omega)]
    congr 2
    funext q
    by_cases hq : q = j
    · subst hq; simp [updV, upd]
    · simp [updV, upd, hq]
  · rw [va_up_ne _ _ hxr]
    exact (w9.1 y hy).kept (oq _ (fun z => hxr (by replace z : B + y = B + r := z; omega)))
/-- an object is laid into an array -/
theorem gc_aastore (F : Fx p R s m args meth c cc nL Ts own D ca (AB B)) {r v ci N t0 : Nat} {q0 : vw_C} {cA : ClassId} {f : Nat → Option Nat} {vs : List Value} (hr : r < n) (hv : v < n) (ht : (tyl ca)[t0]? = some (cA, .object q0.1)) (hc : vwCl[ci]? = some q0) (he : C r = .inl (cA, N, .inr (.inr (.inr (.inr f))))) (hw : C v = .inr (ci, vs)) {i : Int32} (j : Nat) (hi : i = nI j) (hj : j < N) (hN : N < 2 ^ 31) (hdg : decode cc pc = .ok (.aastore, 1))
    (kk : GC p l e R s m args below meth c Q D ca B (AB B) nL cells slots n (va_up C r (.inl (cA, N, .inr (.inr (.inr (.inr (va_up f j (some (B + v))))))))) (pc + 1) lv st) : GC p l e R s m args below meth c Q D ca B (AB B) nL cells slots n C pc lv (.ref (B + v) :: .int i :: .ref (B + r) :: st) := by
  subst hi
  intro H locs ls w9 h9 hl9
  have h0 : H[B + r]? = some (vp_cell cA (N, .inr (.inr (.inr (.inr f))))) := by have := w9.1 r hr; rw [he] at this; exact this
  have h1 : va_at D vwCl (B + v, .inr (ci, vs)) H := by have := w9.1 v hv; rw [hw] at this; exact this
  obtain ⟨r', hr', cellV, g1, g2, g3, -⟩ := h1
  have hcls := (F.2.1.1 ci q0 hc).2
  obtain ⟨kA, comp, k1, k2, k3, -⟩ := (F.2.1.2 t0 _ ht).2
  obtain rfl : comp = D.1 ci := Option.some.inj (k3.symm.trans hcls.1)
  obtain ⟨kC, hkC, -⟩ := hcls.2
  have hin := vp_in_nI hj hN
  refine W.aast F.1.1 F.1.2.1 h0 (fun q h => by cases h) (fun h => by cases h) k1 k2 rfl hkC ⟨fun q => hin (Or.inl q), by show _ < (arrV _ _ _).slots.size; rw [arrV_size]; exact Nat.not_le.mp fun q => hin (Or.inr q)⟩ g1 (fun q h => by rw [g3] at h; cases h) (by rw [g2]; exact hkC) (by rw [g2]; exact va_assign hcls) rfl rfl hdg fun H1 e z oq => ?_
  refine kk H1 _ ls ⟨fun y hy => ?_, z.trans w9.2⟩ (h9.put z oq (Nat.le_add_right _ _)) hl9
  by_cases hxr : y = r
  · rw [hxr, va_up_self]
    show H1[B + r]? = some (vp_cell _ _)
    rw [e, vp_cell_q, vp_cell_q, arrV_store, nI_clamp (by omega)]
    congr 2
    funext q
    by_cases hq : q = j
    · subst hq; simp [updV, va_up, va_rf]
    · simp [updV, va_up, hq]
  · rw [va_up_ne _ _ hxr]
    exact (w9.1 y hy).kept (oq _ (fun z => hxr (by replace z : B + y = B + r := z; omega)))
/-- an array's length -/
theorem gc_alen (F : Fx p R s m args meth c cc nL Ts own D ca (AB B)) {r N : Nat} {f : Nat → Int32} (hr : r < n) (he : C r = .inl (ca 11, N, .inl f)) (hdg : decode cc pc = .ok (.arraylength, 1))
    (kk : GC p l e R s m args below meth c Q D ca B (AB B) nL cells slots n C (pc + 1) lv (.int (nI N) :: st)) : GC p l e R s m args below meth c Q D ca B (AB B) nL cells slots n C pc lv (.ref (B + r) :: st) := fun H locs ls w9 h9 hl9 =>
  va_alen (x := ((N, .inl f) : vp_A)) (v := nI N) F.1.1 F.1.2.1 F.2.1 w9.P r 1 (by rw [wlC_at hr, he]) rfl rfl hdg (kk H locs ls w9 h9 hl9)
end GROW
def aoL : List String := ["ShadeCards$Chimney", "ShadeCards$Observer", "ShadeCards$Notice", "ShadeCards$Ridge", "ShadeCards$Slot"]
/-- a constructor's (and fill's) contract: from n cells C to n2 cells C2 -/
def PreC (D : va_G) (ca : Nat → ClassId) (B n : Nat) (C : CE) (U : State) : Prop := Wc D B n C U.heap ∧ va_K D vwCl (tyl ca) U ∧ Ex (AB B) U U.heap ∧ ∀ X ∈ aoL, va_AO X U
def QcC (D : va_G) (B n : Nat) (C : CE) : Array Value → State → Outcome → State → Prop := fun _ st oc t => (oc = .returned none ∧ Wc D B n C t.heap) ∧ va_F (AB B) st t
theorem PreC.call {D : va_G} {ca : Nat → ClassId} {B n : Nat} {C : CE} {U : State} {g : JFrame} {mk : MethodId} {a : Array Value} (h : PreC D ca B n C U) : PreC D ca B n C (U.calling g mk a) := ⟨h.1, va_K.moved (u := U) (U := U.calling g mk a) (Vm.Alike.refl U.vm) h.2.1, h.2.2.1.call, fun X hX => va_AO.moved (u := U) (U := U.calling g mk a) (Vm.Alike.refl U.vm) (h.2.2.2 X hX)⟩
def Cn (l : Launch) (y : MethodName) (ws : List Cond) (rm : Room) (av : Nat → List Value) (n n2 : Nat) (C C2 : (Nat → ClassId) → Nat → CE) : Prop :=
  ∀ (D : va_G) (ca : Nat → ClassId) (B : Nat), Met l y ws rm (va_Pc (av B) (PreC D ca B n (C ca B))) (QcC D B n2 (C2 ca B)) rm.cells rm.slots (AB B)
section GCALL
variable {p : Program} {l : Launch} {e : Env} {R : Room} {s : State} {m : MethodId} {args : Array Value} {below : List Frame} {meth : Method} {c : Code} {Q : State → Prop} {D : va_G} {ca : Nat → ClassId} {B : Nat} {nL cells slots n : Nat} {C : CE} {pc : Nat} {lv : List (Nat × Value)} {st rest : List Value} {cc : ByteArray} {Ts : List Cond} {own : String}
variable {y : MethodName} {ws : List Cond} {rm : Room} {av : Nat → List Value} {n2 : Nat} {C1 C2 : (Nat → ClassId) → Nat → CE}
theorem gc_call {a : Array Value} (F : Fx p R s m args meth c cc nL Ts own D ca (AB B)) (hr : ∀ (H : Heap) (locs : List Loc) (ls : Array Slot), Wc D B n C H → va_S (AB B) s.heap H locs → lv_has ls nL lv → va_Run p l e R s m args below meth c H locs cells slots rm.cells rm.slots (F0 m pc ls st) rest (QcC D B n2 (C2 ca B) a) (AB B))
    (kk : GC p l e R s m args below meth c Q D ca B (AB B) nL (cells + rm.cells) (slots + rm.slots) n2 (C2 ca B) (pc + 3) lv rest) : GC p l e R s m args below meth c Q D ca B (AB B) nL cells slots n C pc lv st := by
  intro H locs ls w9 h9 hl9 T hT X
  obtain ⟨v, st₀, t, T', L, h0, X', hL, e1, e2, ⟨⟨hv, hb⟩, hF⟩, stp⟩ := hr H locs ls w9 h9 hl9 T hT X
  cases hv
  obtain ⟨k1, k2, k3⟩ := vx_keep h0 e1 h9 (fun q _ z => z) (fun _ z => z) hL hF
  obtain ⟨t2, a1, b1⟩ := kk T'.heap (locs ++ L) ls (by rw [e1]; exact hb) k3 hl9 T' rfl X'
  exact ⟨t2, stp t2 a1, b1⟩
theorem Fx.preC {H : Heap} {locs : List Loc} (F : Fx p R s m args meth c cc nL Ts own D ca (AB B)) (hao : ∀ X ∈ aoL, va_AO X s) (w9 : Wc D B n C H) (h9 : va_S (AB B) s.heap H locs) {U : State} (hU : U.heap = H) (hW : s.WarmedH U.vm) : PreC D ca B n C U :=
  ⟨by rw [hU]; exact w9, va_K.moved hW.alike F.2.1, by rw [hU]; exact F.2.2.2.1.warm hW h9.2.1 (fun _ z => z), fun X hX => va_AO.moved hW.alike (hao X hX)⟩
theorem PreC_blind : FrameBlind (va_Pc (av B) (PreC D ca B n C)) := fun _ _ _ _ q => ⟨q.1, q.2.call⟩
/-- a constructor is called -/
theorem gc_init (F : Fx p R s m args meth c cc nL Ts own D ca (AB B)) (hao : ∀ X ∈ aoL, va_AO X s) (hM : Cn l y ws rm av n n2 C1 C2) {index k maxL a : Nat} {bytes : ByteArray} {As : List Value} (cw : CallB R s args own index y bytes maxL none ws rm rm.cells rm.slots k ∧ y.name = "<init>" ∧ (Cond.instanceMethod y).before args s = true) (hC : ∀ q, q < n → ∀ H, va_at D vwCl (B + q, C q) H → va_at D vwCl (B + q, C1 ca B q) H) (hav : av B = .ref (B + a) :: As) (hn : As.length = k) (hst : st = As.reverse ++ .ref (B + a) :: rest) (hW : (rest.map fun v => v.category).sum ≤ 8) (hdg : decode cc pc = .ok (.invokespecial index, 3)) (hf : cells + rm.cells ≤ R.cells ∧ slots + rm.slots ≤ R.slots)
    (kk : GC p l e R s m args below meth c Q D ca B (AB B) nL (cells + rm.cells) (slots + rm.slots) n2 (C2 ca B) (pc + 3) lv rest) : GC p l e R s m args below meth c Q D ca B (AB B) nL cells slots n C pc lv st := by
  refine gc_eqv hC (gc_call (a := (.ref (B + a) :: As : List Value).toArray) F (fun H locs ls w9 h9 hl9 => ?_) kk)
  exact va_runI (As := As) (rest := rest) F.1 (hM D ca B) cw ⟨PreC_blind, fun U hU hW => ⟨by rw [hav], F.preC hao w9 h9 hU hW⟩⟩ rfl hn hl9.1 hst (lv_room hW) hdg hf
/-- a nest mate's private constructor is called -/
theorem gc_initN (F : Fx p R s m args meth c cc nL Ts own D ca (AB B)) (hao : ∀ X ∈ aoL, va_AO X s) (hM : Cn l y ws rm av n n2 C1 C2) {host : String} {index k maxL a : Nat} {bytes : ByteArray} {As : List Value} (cw : va_CN R s args own index y host bytes maxL none ws rm rm.cells rm.slots k ∧ y.name = "<init>" ∧ (Cond.instanceMethod y).before args s = true) (hC : ∀ q, q < n → ∀ H, va_at D vwCl (B + q, C q) H → va_at D vwCl (B + q, C1 ca B q) H) (hav : av B = .ref (B + a) :: As) (hn : As.length = k) (hst : st = As.reverse ++ .ref (B + a) :: rest) (hW : (rest.map fun v => v.category).sum ≤ 8) (hdg : decode cc pc = .ok (.invokespecial index, 3)) (hf : cells + rm.cells ≤ R.cells ∧ slots + rm.slots ≤ R.slots)
    (kk : GC p l e R s m args below meth c Q D ca B (AB B) nL (cells + rm.cells) (slots + rm.slots) n2 (C2 ca B) (pc + 3) lv rest) : GC p l e R s m args below meth c Q D ca B (AB B) nL cells slots n C pc lv st := by
  refine gc_eqv hC (gc_call (a := (.ref (B + a) :: As : List Value).toArray) F (fun H locs ls w9 h9 hl9 => ?_) kk)
  exact va_runIN (As := As) (rest := rest) F.1 (hM D ca B) cw ⟨PreC_blind, fun U hU hW => ⟨by rw [hav], F.preC hao w9 h9 hU hW⟩⟩ rfl hn hl9.1 hst (lv_room hW) hdg hf
/-- a static method is called (fill) -/
theorem gc_stat (F : Fx p R s m args meth c cc nL Ts own D ca (AB B)) (hao : ∀ X ∈ aoL, va_AO X s) (hM : Cn l y ws rm av n n2 C1 C2) {index k maxL : Nat} {bytes : ByteArray} {As : List Value} (cw : CallB R s args own index y bytes maxL none ws rm rm.cells rm.slots k ∧ (Cond.static y).before args s = true) (hC : ∀ q, q < n → ∀ H, va_at D vwCl (B + q, C q) H → va_at D vwCl (B + q, C1 ca B q) H) (hav : av B = As) (hn : As.length = k) (hst : st = As.reverse ++ rest) (hW : (rest.map fun v => v.category).sum ≤ 8) (hdg : decode cc pc = .ok (.invokestatic index, 3)) (hf : cells + rm.cells ≤ R.cells ∧ slots + rm.slots ≤ R.slots)
    (kk : GC p l e R s m args below meth c Q D ca B (AB B) nL (cells + rm.cells) (slots + rm.slots) n2 (C2 ca B) (pc + 3) lv rest) : GC p l e R s m args below meth c Q D ca B (AB B) nL cells slots n C pc lv st := by
  refine gc_eqv hC (gc_call (a := (As : List Value).toArray) F (fun H locs ls w9 h9 hl9 => ?_) kk)
  exact va_runS (As := As) (rest := rest) F.1 (hM D ca B) cw ⟨PreC_blind, fun U hU hW => ⟨by rw [hav], F.preC hao w9 h9 hU hW⟩⟩ rfl hn hl9.1 hst (lv_room hW) hdg hf
/-- a constructor's contract, out of its walk -/
theorem Cn.of {maxL : Nat} {ws' : List Cond} (hy : plainName y.cls = true) (hw : ws = Cond.code y cc maxL none :: ws') (ho : y.cls = own) (hav : ∀ B, (lg_sl (av B)).length ≤ maxL)
    (body : ∀ (p : Program) (e : Env) (s : State) (m : MethodId) (args : Array Value) (below : List Frame) (meth : Method) (c : Code) (D : va_G) (ca : Nat → ClassId) (B : Nat) (Q : State → Prop), meth.name = y.name → (∀ X ∈ aoL, va_AO X s) → Fx p rm s m args meth c cc maxL ws own D ca (AB B) →
      (∀ (C9 : CE) (pc : Nat) (lv : List (Nat × Value)), decode cc pc = .ok (.return_, 1) → (∀ q, q < n2 → ∀ H, va_at D vwCl (B + q, C9 q) H → va_at D vwCl (B + q, C2 ca B q) H) → GC p l e rm s m args below meth c Q D ca B (AB B) maxL rm.cells rm.slots n2 C9 pc lv []) →
      GC p l e rm s m args below meth c Q D ca B (AB B) maxL 0 0 n (C1 ca B) 0 (lv_args 0 (av B)) []) : Cn l y ws rm av n n2 C1 C2 := by
  intro D ca B
  refine Met.ofW (cc := cc) (maxL := maxL) (ret := none) hy hw ?_
  intro p e s m args below meth c s₁ BL hml hv
  obtain ⟨rfl, hP, hK, hE, hao⟩ := hv
  have hts := atoms_spec (ws := ws) BL.pre
  have hown : s.vm.findClass own = some m.cls := ho ▸ findClass_of_methodNamed BL.named
  have hl := lv_entry (av B) (n := maxL) (hav B)
  rw [lg_entry_eq]
  refine body p e s m _ below meth c D ca B _ (name_of_methodNamed BL.named BL.method).1 hao ⟨⟨BL.exec, BL.bytes, hml, hown, hts⟩, hK, fun q h => by rw [hP.2] at h; show B ≤ q; omega, hE, BL.notSynchronized⟩ ?_ s.heap [] _ hP va_S.rf hl
  intro C9 pc lv hd hC H locs ls w9 h9 hl9
  exact W.vret BL.exec BL.bytes BL.returns (fun t ht hW => ⟨⟨rfl, by rw [ht]; exact ⟨fun r hr => hC r hr H (w9.1 r hr), w9.2⟩⟩, h9.F ht⟩) h9.2.2 hd BL.notSynchronized
end GCALL
/-- cells that hold the same -/
theorem at_i {D : va_G} {a N : Nat} {cA : ClassId} {f g : Nat → Int32} {H : Heap} (h : ∀ j, j < N → f j = g j) (k : va_at D vwCl (a, .inl (cA, N, .inl f)) H) : va_at D vwCl (a, .inl (cA, N, .inl g)) H := by
  simp only [va_at, vp_cell_i] at k ⊢
  rw [k, arr_eqv (fun j hj => by rw [h j hj])]
theorem at_q {D : va_G} {a N : Nat} {cA : ClassId} {f g : Nat → Option Nat} {H : Heap} (h : ∀ j, j < N → f j = g j) (k : va_at D vwCl (a, .inl (cA, N, .inr (.inr (.inr (.inr f))))) H) : va_at D vwCl (a, .inl (cA, N, .inr (.inr (.inr (.inr g))))) H := by
  simp only [va_at, vp_cell_q] at k ⊢
  rw [k, arr_eqv (fun j hj => by rw [h j hj])]
/-- k cells from place r on are as the memory M has them -/
def fz (ca : Nat → ClassId) (B : Nat) (M : Mm) (r k : Nat) (C : CE) : CE := fun q => if r ≤ q ∧ q < r + k then cel ca B M q else C q
theorem fz_in {ca : Nat → ClassId} {B : Nat} {M : Mm} {r k q : Nat} {C : CE} (h : r ≤ q ∧ q < r + k) : fz ca B M r k C q = cel ca B M q := if_pos h
theorem fz_out {ca : Nat → ClassId} {B : Nat} {M : Mm} {r k q : Nat} {C : CE} (h : ¬ (r ≤ q ∧ q < r + k)) : fz ca B M r k C q = C q := if_neg h
section CEL
variable {ca : Nat → ClassId} {B : Nat} {M : Mm} {r n : Nat}
theorem cel0 (h : isR 0 r) : cel ca B M r = .inr (0, fs0 B M r) := by simp only [cel, h.2]
theorem cel1 (h : isR 1 r) : cel ca B M r = .inr (1, fs1 B r) := by simp only [cel, h.2]
theorem cel2 (h : isR 2 r) : cel ca B M r = .inr (2, fs2 B M r) := by simp only [cel, h.2]
theorem cel3 (h : isR 3 r) : cel ca B M r = .inr (3, fs3 M r) := by simp only [cel, h.2]
theorem cel4 (h : isR 4 r) : cel ca B M r = .inr (4, fs4 M r) := by simp only [cel, h.2]
theorem cel5 (h : isR 5 r) : cel ca B M r = .inr (5, fs5 B M r) := by simp only [cel, h.2]
theorem cel6 (h : isR 6 r) : cel ca B M r = .inr (6, fs6 B M r) := by simp only [cel, h.2]
theorem cel7 (h : isR 7 r) : cel ca B M r = .inr (7, fs7 B M r) := by simp only [cel, h.2]
theorem cel8 (h : isR 8 r) : cel ca B M r = .inr (8, fs8 B r) := by simp only [cel, h.2]
theorem cel10 (h : isA 10 n r) : cel ca B M r = .inl (ca 10, n, .inl (M r)) := by simp only [cel, h.2.1, h.2.2]
theorem cel11 (h : isA 11 n r) : cel ca B M r = .inl (ca 11, n, .inl (M r)) := by simp only [cel, h.2.1, h.2.2]
theorem cel12 (h : isR 12 r) : cel ca B M r = .inl (ca 12, 8, qa (fun i => B + (r + 6 + 5 * i))) := by simp only [cel, h.2]
theorem cel13 (h : isR 13 r) : cel ca B M r = .inl (ca 13, 20, qa (fun i => B + (r + 47 + 1 * i))) := by simp only [cel, h.2]
theorem cel14 (h : isR 14 r) : cel ca B M r = .inl (ca 14, 3, qa (fun i => B + (r + 45 + 1 * i))) := by simp only [cel, h.2]
theorem cel15 (h : isR 15 r) : cel ca B M r = .inl (ca 15, 6, qa (fun i => B + (r + 1 + 70 * (M r i).toNatClampNeg))) := by simp only [cel, h.2]
theorem cel16 (h : isR 16 r) : cel ca B M r = .inl (ca 16, 2, qa (fun i => B + (r + 4 + 71 * i))) := by simp only [cel, h.2]
end CEL
