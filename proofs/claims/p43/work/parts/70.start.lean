theorem law_u8 : ∀ w ∈ u_ws RX8 TX8 6, w ∈ wsL_law := fun w h => inlX8 w h
theorem law_w8a : Cond.classLink RL 11 RX8 ∈ wsL_law := List.mem_of_getElem? (i := 0) rfl
theorem law_w8b : Cond.instantiable RX8 6 ∈ wsL_law := List.mem_of_getElem? (i := 1) rfl
theorem law_w8c : Cond.initialized RX8 ∈ wsL_law := List.mem_of_getElem? (i := 2) rfl
theorem law_w8d : Cond.methodLink RL 185 yX8_init ∈ wsL_law := List.mem_of_getElem? (i := 4) rfl
theorem law_w8e : Cond.instanceMethod yX8_init ∈ wsL_law := List.mem_of_getElem? (i := 5) rfl
theorem law_wi : Cond.arrayClass .int ∈ wsL_law := List.mem_of_getElem? (i := 3) rfl
/-! THE CLAIM OUT OF ONE WALK OF THE LAW'S BODY. Your part is whole_start (and what it stands on); all else here is the same for every law, but numbers. -/
def R_law : String := "ShadeCardsLaw"
def lw_P (b : Addr) (xs : List Int32) (args : Array Value) (s : State) : Prop := args = #[.ref b] ∧ s.IntsAt b xs ∧ xs.length ≤ 260 ∧ (Jvm.Cond.and given_1 narrow_1).before args s = true
def lw_Q (_ : Array Value) (s : State) (o : Outcome) (t : State) : Prop := o = .returned (some (.int 1)) ∧ Framed s o t [] 600086 7301442
def lw_Z (below : List Frame) (a : Array Value) (s : State) : State → Prop := fun t => ∃ o, t.status = .running ∧ Ended t below o ∧ lw_Q a s o t
/-- the law's own end, with 1 on the stack, nothing written that was there before, its room as the claim has it -/
theorem lw_ret {p : Program} {l : Launch} {e : Env} {s : State} {m : MethodId} {below : List Frame} {meth : Method} {c : Code} {b : Nat} (hx : p.tables.exec = Jvm.exec) (hb : c.code = code) (hr : meth.sig.returnType = ret) (hlocks : meth.locks = false) {pc : Nat} {H : Heap} {ls : Array Slot} (hdg : decode code pc = .ok (.ireturn, 1)) : W p l e room_1 s m #[Value.ref b] below meth c H [] 600086 7301442 (lw_Z below #[Value.ref b] s) (F0 m pc ls [.int 1]) := by
  intro T hT X
  obtain ⟨fs, hret, hrun, hended, hW, hframe⟩ := X.leave (v := some (.int 1)) (hlocks := hlocks) (fun h => by rw [hr] at h; cases h)
  have hmeth' : T.vm.method? m = some meth := X.method'
  refine ⟨T.setFrames fs, ?_, .returned (some (.int 1)), hrun, hended, rfl, ⟨_, rfl⟩, hW, hframe⟩
  jvm_step X.here [X.here.top, hx, hb, hdg, hmeth', hr, ret, narrow_b1]
  (try refine ⟨rfl, ?_⟩); (try refine ⟨rfl, ?_⟩)
  first | (intro acts; rw [hret _ acts rfl rfl rfl]) | rw [hret _ _ rfl rfl rfl]
  exact Steps.refl _
/-- what holds at the law's entry: the machine, the code, the tables' words (any of lw_tbl by 'hts w (by decide +kernel)'), the script of L ints xs at the cell b, what the Statement gives of the start (any of its parts by flat_of_before) -/
def lw_At (p : Program) (s : State) (m : MethodId) (meth : Method) (c : Code) (b L : Nat) (xs : Nat → Int32) : Prop :=
  p.tables.exec = Jvm.exec ∧ c.code = code ∧ meth.sig.returnType = ret ∧ c.maxLocals = 21 ∧ s.vm.findClass R_law = some m.cls ∧ (∀ w ∈ lw_tbl, w.before #[Value.ref b] s = true) ∧ va_X b L xs s s.heap ∧ b < s.heap.size ∧ meth.locks = false ∧ (Jvm.Cond.and given_1 narrow_1).before #[Value.ref b] s = true
-- ===== YOUR PART BEGINS =====
set_option maxHeartbeats 4000000 in
set_option maxRecDepth 100000 in
/-- YOUR PART: from the entry, for every script of at most 260 ints, the law comes to its end with true ('hflags': the launch's flags, for a law that throws: no stack traces) -/
theorem whole_start {p : Program} {e : Env} {s : State} {m : MethodId} {below : List Frame} {meth : Method} {c : Code} (l : Launch) (hflags : l.flags = flags0) {b L : Nat} {xs : Nat → Int32} (hL : L ≤ 260) (C0 : lw_At p s m meth c b L xs) : W p l e room_1 s m #[Value.ref b] below meth c s.heap [] 0 0 (lw_Z below #[Value.ref b] s) (entryFrame m ([Value.ref b] : List Value).toArray 21) := by
  obtain ⟨hx, hb, hr, hml, hown, hts, hX, hbl, hlocks, hgv⟩ := id C0
  obtain ⟨D, ca, hK⟩ := pre_K hts
  have hEx := pre_Ex (B := s.heap.size) rfl hts hgv
  have hao := pre_AO hts
  have hls : l.stackTraces = false := by show (!l.flags.contains noTraceFlag) = false; rw [hflags]; decide +kernel
  have F : Fx p room_1 s m #[Value.ref b] meth c cL_law 21 wsL_law RL D ca (AB s.heap.size) := ⟨⟨hx, hb, hml, hown, fun w h => hts w (wsL_law_in w h)⟩, hK, fun q h => h, hEx, hlocks⟩
  have hbA : ¬ AB s.heap.size b := Nat.not_le.mpr hbl
  have hl := lv_entry ([.ref b]) (n := 21) (Nat.le_of_ble_eq_true rfl)
  rw [lg_entry_eq]
  have key : GC p l e room_1 s m #[Value.ref b] below meth c (lw_Z below #[Value.ref b] s) D ca s.heap.size (AB s.heap.size) 21 0 0 0 (fun _ => .inr (0, [])) 0 [(0, .ref b)] [] := by
    refine gc_new F (ci := 8) (fs := [.null, .null, .null, .null, .null, .null]) (fun w h => law_u8 w h) tyX8 tyX8_ok rfl (fun j hj => by rcases (show j = 0 ∨ j = 1 ∨ j = 2 ∨ j = 3 ∨ j = 4 ∨ j = 5 by omega) with rfl | rfl | rfl | rfl | rfl | rfl <;> rfl) law_w8a law_w8b law_w8c (Nat.le_of_ble_eq_true rfl) (Nat.le_of_ble_eq_true rfl) dL_law_0 ?_
    refine gc_dup F dL_law_3 rfl ?_
    refine gc_init F hao (kX8_init l (r := 0) (M := M0) (C := fun ca B => (va_up (fun _ => .inr (0, [])) 0 (.inr (8, [.null, .null, .null, .null, .null, .null])))) r0 M0_1 M0_71 (by decide +kernel) (fun i hi => rfl) (fun i hi => (show RI M0 (0 + 141 + 2 + 70 * i) from by rw [show 0 + 141 + 2 + 70 * i = 143 + 70 * i by omega]; exact M0_143 hi)) (by decide +kernel) (fun j _ => rfl) (fun j _ => rfl) (fun i hi => (show M0 (0 + 567 + 71 * i) 1 = 0 ∧ RI M0 (0 + 567 + 71 * i + 1) from by rw [show 0 + 567 + 71 * i = 567 + 71 * i by omega]; exact ⟨M0_567 hi, M0_568 hi⟩)) (fun ca B => va_up_self _ _ _)) (cwI 0 F.1.2.2.2.2 gL_law_X8_init rfl rfl rfl (F.h1 law_w8c) (F.h1 law_w8d) (F.h1 law_w8e) rfl (by decide +kernel) ⟨Nat.le_of_ble_eq_true rfl, Nat.le_of_ble_eq_true rfl⟩) (fun _ _ _ z => z) rfl rfl rfl (Nat.le_of_ble_eq_true rfl) dL_law_4 ⟨Nat.le_of_ble_eq_true rfl, Nat.le_of_ble_eq_true rfl⟩ ?_
    refine gc_astore_n F (lv2 := [(1, _), (0, _)]) dL_law_7 rfl (by decide) rfl ?_
    refine gc_bipush F (v := 32) dL_law_8 (by decide +kernel) ?_
    refine gc_newa F 1 rfl rfl rfl rfl law_wi 32 rfl (by decide) (by decide) (Nat.le_of_ble_eq_true rfl) (Nat.le_of_ble_eq_true rfl) dL_law_10 ?_
    refine gc_astore_n F (lv2 := [(2, _), (1, _), (0, _)]) dL_law_12 rfl (by decide) rfl ?_
    refine gc_bipush F (v := 32) dL_law_13 (by decide +kernel) ?_
    refine gc_newa F 1 rfl rfl rfl rfl law_wi 32 rfl (by decide) (by decide) (Nat.le_of_ble_eq_true rfl) (Nat.le_of_ble_eq_true rfl) dL_law_15 ?_
    refine gc_astore_n F (lv2 := [(3, _), (2, _), (1, _), (0, _)]) dL_law_17 rfl (by decide) rfl ?_
    refine gc_bipush F (v := 20) dL_law_18 (by decide +kernel) ?_
    refine gc_newa F 1 rfl rfl rfl rfl law_wi 20 rfl (by decide) (by decide) (Nat.le_of_ble_eq_true rfl) (Nat.le_of_ble_eq_true rfl) dL_law_20 ?_
    refine gc_astore F (lv2 := [(4, _), (3, _), (2, _), (1, _), (0, _)]) dL_law_22 (by decide) rfl ?_
    refine gc_bipush F (v := 64) dL_law_24 (by decide +kernel) ?_
    refine gc_newa F 1 rfl rfl rfl rfl law_wi 64 rfl (by decide) (by decide) (Nat.le_of_ble_eq_true rfl) (Nat.le_of_ble_eq_true rfl) dL_law_26 ?_
    refine gc_astore F (lv2 := [(5, _), (4, _), (3, _), (2, _), (1, _), (0, _)]) dL_law_28 (by decide) rfl ?_
    refine gc_bipush F (v := 48) dL_law_30 (by decide +kernel) ?_
    refine gc_newa F 1 rfl rfl rfl rfl law_wi 48 rfl (by decide) (by decide) (Nat.le_of_ble_eq_true rfl) (Nat.le_of_ble_eq_true rfl) dL_law_32 ?_
    refine gc_astore F (lv2 := [(6, _), (5, _), (4, _), (3, _), (2, _), (1, _), (0, _)]) dL_law_34 (by decide) rfl ?_
    refine gc_bipush F (v := 20) dL_law_36 (by decide +kernel) ?_
    refine gc_newa F 1 rfl rfl rfl rfl law_wi 20 rfl (by decide) (by decide) (Nat.le_of_ble_eq_true rfl) (Nat.le_of_ble_eq_true rfl) dL_law_38 ?_
    refine gc_astore F (lv2 := [(7, _), (6, _), (5, _), (4, _), (3, _), (2, _), (1, _), (0, _)]) dL_law_40 (by decide) rfl ?_
    refine GC_G (M := M0) M0_Ty (fun q hq H z => ?_) ?_
    · by_cases h : q < 709
      · exact (show (va_up (va_up (va_up (va_up (va_up (va_up (fz ca s.heap.size M0 0 709 (va_up (fun _ => .inr (0, [])) 0 (.inr (8, [.null, .null, .null, .null, .null, .null])))) 709 (.inl (ca 11, 32, .inl (fun _ => 0)))) 710 (.inl (ca 11, 32, .inl (fun _ => 0)))) 711 (.inl (ca 11, 20, .inl (fun _ => 0)))) 712 (.inl (ca 11, 64, .inl (fun _ => 0)))) 713 (.inl (ca 11, 48, .inl (fun _ => 0)))) 714 (.inl (ca 11, 20, .inl (fun _ => 0)))) q = cel ca s.heap.size M0 q from (va_up_ne _ _ (by omega)).trans ((va_up_ne _ _ (by omega)).trans ((va_up_ne _ _ (by omega)).trans ((va_up_ne _ _ (by omega)).trans ((va_up_ne _ _ (by omega)).trans ((va_up_ne _ _ (by omega)).trans (fz_in ⟨Nat.zero_le _, by omega⟩))))))) ▸ z
      · rcases (show q = 709 ∨ q = 710 ∨ q = 711 ∨ q = 712 ∨ q = 713 ∨ q = 714 by omega) with e1 | e1 | e1 | e1 | e1 | e1
        · rw [e1] at z ⊢
          replace z : va_at D vwCl (s.heap.size + 709, .inl (ca 11, 32, .inl (fun _ => 0))) H := (show (va_up (va_up (va_up (va_up (va_up (va_up (fz ca s.heap.size M0 0 709 (va_up (fun _ => .inr (0, [])) 0 (.inr (8, [.null, .null, .null, .null, .null, .null])))) 709 (.inl (ca 11, 32, .inl (fun _ => 0)))) 710 (.inl (ca 11, 32, .inl (fun _ => 0)))) 711 (.inl (ca 11, 20, .inl (fun _ => 0)))) 712 (.inl (ca 11, 64, .inl (fun _ => 0)))) 713 (.inl (ca 11, 48, .inl (fun _ => 0)))) 714 (.inl (ca 11, 20, .inl (fun _ => 0)))) 709 = .inl (ca 11, 32, .inl (fun _ => 0)) from (va_up_ne _ _ (by decide)).trans ((va_up_ne _ _ (by decide)).trans ((va_up_ne _ _ (by decide)).trans ((va_up_ne _ _ (by decide)).trans ((va_up_ne _ _ (by decide)).trans (va_up_self _ _ _)))))) ▸ z
          rw [cel11 a709]; exact at_i (fun j hj => rfl) z
        · rw [e1] at z ⊢
          replace z : va_at D vwCl (s.heap.size + 710, .inl (ca 11, 32, .inl (fun _ => 0))) H := (show (va_up (va_up (va_up (va_up (va_up (va_up (fz ca s.heap.size M0 0 709 (va_up (fun _ => .inr (0, [])) 0 (.inr (8, [.null, .null, .null, .null, .null, .null])))) 709 (.inl (ca 11, 32, .inl (fun _ => 0)))) 710 (.inl (ca 11, 32, .inl (fun _ => 0)))) 711 (.inl (ca 11, 20, .inl (fun _ => 0)))) 712 (.inl (ca 11, 64, .inl (fun _ => 0)))) 713 (.inl (ca 11, 48, .inl (fun _ => 0)))) 714 (.inl (ca 11, 20, .inl (fun _ => 0)))) 710 = .inl (ca 11, 32, .inl (fun _ => 0)) from (va_up_ne _ _ (by decide)).trans ((va_up_ne _ _ (by decide)).trans ((va_up_ne _ _ (by decide)).trans ((va_up_ne _ _ (by decide)).trans (va_up_self _ _ _))))) ▸ z
          rw [cel11 a710]; exact at_i (fun j hj => rfl) z
        · rw [e1] at z ⊢
          replace z : va_at D vwCl (s.heap.size + 711, .inl (ca 11, 20, .inl (fun _ => 0))) H := (show (va_up (va_up (va_up (va_up (va_up (va_up (fz ca s.heap.size M0 0 709 (va_up (fun _ => .inr (0, [])) 0 (.inr (8, [.null, .null, .null, .null, .null, .null])))) 709 (.inl (ca 11, 32, .inl (fun _ => 0)))) 710 (.inl (ca 11, 32, .inl (fun _ => 0)))) 711 (.inl (ca 11, 20, .inl (fun _ => 0)))) 712 (.inl (ca 11, 64, .inl (fun _ => 0)))) 713 (.inl (ca 11, 48, .inl (fun _ => 0)))) 714 (.inl (ca 11, 20, .inl (fun _ => 0)))) 711 = .inl (ca 11, 20, .inl (fun _ => 0)) from (va_up_ne _ _ (by decide)).trans ((va_up_ne _ _ (by decide)).trans ((va_up_ne _ _ (by decide)).trans (va_up_self _ _ _)))) ▸ z
          rw [cel11 a711]; exact at_i (fun j hj => rfl) z
        · rw [e1] at z ⊢
          replace z : va_at D vwCl (s.heap.size + 712, .inl (ca 11, 64, .inl (fun _ => 0))) H := (show (va_up (va_up (va_up (va_up (va_up (va_up (fz ca s.heap.size M0 0 709 (va_up (fun _ => .inr (0, [])) 0 (.inr (8, [.null, .null, .null, .null, .null, .null])))) 709 (.inl (ca 11, 32, .inl (fun _ => 0)))) 710 (.inl (ca 11, 32, .inl (fun _ => 0)))) 711 (.inl (ca 11, 20, .inl (fun _ => 0)))) 712 (.inl (ca 11, 64, .inl (fun _ => 0)))) 713 (.inl (ca 11, 48, .inl (fun _ => 0)))) 714 (.inl (ca 11, 20, .inl (fun _ => 0)))) 712 = .inl (ca 11, 64, .inl (fun _ => 0)) from (va_up_ne _ _ (by decide)).trans ((va_up_ne _ _ (by decide)).trans (va_up_self _ _ _))) ▸ z
          rw [cel11 a712]; exact at_i (fun j hj => rfl) z
        · rw [e1] at z ⊢
          replace z : va_at D vwCl (s.heap.size + 713, .inl (ca 11, 48, .inl (fun _ => 0))) H := (show (va_up (va_up (va_up (va_up (va_up (va_up (fz ca s.heap.size M0 0 709 (va_up (fun _ => .inr (0, [])) 0 (.inr (8, [.null, .null, .null, .null, .null, .null])))) 709 (.inl (ca 11, 32, .inl (fun _ => 0)))) 710 (.inl (ca 11, 32, .inl (fun _ => 0)))) 711 (.inl (ca 11, 20, .inl (fun _ => 0)))) 712 (.inl (ca 11, 64, .inl (fun _ => 0)))) 713 (.inl (ca 11, 48, .inl (fun _ => 0)))) 714 (.inl (ca 11, 20, .inl (fun _ => 0)))) 713 = .inl (ca 11, 48, .inl (fun _ => 0)) from (va_up_ne _ _ (by decide)).trans (va_up_self _ _ _)) ▸ z
          rw [cel11 a713]; exact at_i (fun j hj => rfl) z
        · rw [e1] at z ⊢
          replace z : va_at D vwCl (s.heap.size + 714, .inl (ca 11, 20, .inl (fun _ => 0))) H := (show (va_up (va_up (va_up (va_up (va_up (va_up (fz ca s.heap.size M0 0 709 (va_up (fun _ => .inr (0, [])) 0 (.inr (8, [.null, .null, .null, .null, .null, .null])))) 709 (.inl (ca 11, 32, .inl (fun _ => 0)))) 710 (.inl (ca 11, 32, .inl (fun _ => 0)))) 711 (.inl (ca 11, 20, .inl (fun _ => 0)))) 712 (.inl (ca 11, 64, .inl (fun _ => 0)))) 713 (.inl (ca 11, 48, .inl (fun _ => 0)))) 714 (.inl (ca 11, 20, .inl (fun _ => 0)))) 714 = .inl (ca 11, 20, .inl (fun _ => 0)) from va_up_self _ _ _) ▸ z
          rw [cel11 a714]; exact at_i (fun j hj => rfl) z
    refine g_widen (k := 1000 + 8000 * 0) (n := 50000 + 48000 * 0) (Nat.le_of_ble_eq_true rfl) (Nat.le_of_ble_eq_true rfl) ?_
    refine law_first hls F hX hbl hbA hL (fun M cs sl h1 h2 lv => ?_)
    refine g_iconst F (v := 1) dL_law_691 (by decide) ?_
    intro H locs ls w9 h9 hl9
    refine va_forget (fun q hq => h9.2.2 q hq) ?_
    exact W.widen h1 h2 (lw_ret hx hb hr hlocks dL_law_692)
  exact key s.heap [] _ ⟨fun r h => absurd h (by omega), rfl⟩ va_S.rf hl
-- ===== YOUR PART ENDS =====
set_option maxHeartbeats 4000000 in
theorem lw_walk (l : Launch) (hflags : l.flags = flags0) (b : Addr) (xs : List Int32) : MetFree l x (headSpec (Jvm.Cond.code x code maxLocals ret :: tables_1) room_1) (lw_P b xs) (fun _ _ _ _ _ => True) lw_Q := by
  refine MetFree.of_bodyS (code := code) (maxLocals := maxLocals) (ret := ret) (by decide) ?_ ?_
  · intro args s m h hn
    obtain ⟨meth, c, h1, h2, h3, h4, h5, h6, -, -⟩ := Cond.code_spec hn (atoms_spec (ws := Jvm.Cond.code x code maxLocals ret :: tables_1) h _ List.mem_cons_self)
    exact ⟨meth, c, h1, h2, h3, h4, h5, h6⟩
  · intro p e s m args below meth c s₁ B hml0 hP _
    obtain ⟨rfl, hx, hbd, hgv⟩ := hP
    obtain ⟨scr, harrAt, hlist, hof, hsmall⟩ := hx
    obtain ⟨hcb, hkn, -, -⟩ := State.arrayAt?_spec harrAt
    have hown : s.vm.findClass R_law = some m.cls := findClass_of_methodNamed B.named
    have hts0 : ∀ c ∈ (Jvm.Cond.code x code maxLocals ret :: tables_1), c.before #[Value.ref b] s = true := atoms_spec (ws := Jvm.Cond.code x code maxLocals ret :: tables_1) B.pre
    have hts : ∀ w ∈ lw_tbl, w.before #[Value.ref b] s = true := k2_hts_sels lw_privs (fun w hw => hts0 w (List.mem_cons_of_mem _ hw)) lw_privs_ok
    have hml : c.maxLocals = 21 := B.maxLocals_eq (hts0 _ List.mem_cons_self)
    have X₀ : Stand p l e room_1 s m #[Value.ref b] below meth c s₁ [] 0 0 := Stand.of_body B
    have hh0 : s₁.heap = s.heap := by rw [B.state]; rfl
    have hsz : scr.slots.size = xs.length := by rw [← Array.length_toList, hlist, List.length_map]
    have hval : ∀ j : Nat, j < xs.length → scr.slots[j]? = some (.int (xs.getD j 0)) := fun j hj => by
      rw [← Array.getElem?_toList, hlist]
      simp [hj]
    have hbl : b < s.heap.size := (Array.getElem?_eq_some_iff.mp hcb).1
    have hX : va_X b xs.length (fun j => xs.getD j 0) s s.heap := ⟨scr, hcb, hof, hkn, hsz, hval⟩
    have K : W p l e room_1 s m #[Value.ref b] below meth c s₁.heap [] 0 0 (lw_Z below #[Value.ref b] s) (entryFrame m ([Value.ref b] : List Value).toArray 21) := by
      rw [hh0]
      exact whole_start l hflags hbd ⟨B.exec, B.bytes, B.returns, hml, hown, hts, hX, hbl, B.notSynchronized, hgv⟩
    obtain ⟨t, a1, o, b1, b2, b3⟩ := K s₁ rfl X₀
    exact ⟨t, o, a1, b1, b2, b3⟩
theorem lw_pre_spec {args : Array Value} {s : State} (h : (Jvm.Cond.and given_1 narrow_1).before args s = true) (hr : rest_1_c.before args s = true) : ∃ (b : Addr) (xs : List Int32), lw_P b xs args s := by
  have hs := flat_of_before _ h
  have hq := flat_of_before _ hr
  have hc : (Cond.count 1).before args s = true := hs _ (by decide +kernel)
  have harr : (Cond.arrayOf (.arg 0) .int).before args s = true := hs _ (by decide +kernel)
  have hle : (Cond.le (.length (.arg 0)) (.int 260)).before args s = true := hs _ (by decide +kernel)
  have hlen : (Cond.isInt (.length (.arg 0))).before args s = true := hq _ (by decide +kernel)
  have hall : (Cond.all (.arg 0) (.isInt (.elem (.arg 0) (.index 0)))).before args s = true := hq _ (by decide +kernel)
  obtain ⟨b, xs, hb, hx⟩ := State.ints_of_pre rfl harr hlen hall
  have hsm : xs.length < 2 ^ 31 := hx.choose_spec.2.2.2
  have hev : (Term.length (.arg 0)).eval args s none [] s = some (.int xs.length.toInt32) := hx.length_eval hb
  have hv := Cond.le_ints hev (show (Term.int 260).eval args s none [] s = some (.int 260) from rfl)
  have hd : xs.length.toInt32 ≤ 260 := by
    simpa [Cond.before, Cond.holds, hv] using hle
  have hN : xs.length ≤ 260 := (Int32.ofNat_le_ofNat hsm (by decide)).mp (show Int32.ofNat xs.length ≤ Int32.ofNat 260 from hd)
  exact ⟨b, xs, Cond.one_arg hc (show args[0]? = some (.ref b) from hb), hx, hN, h⟩
theorem lw_comes (l : Launch) (hflags : l.flags = flags0) : Comes l x (Jvm.Cond.code x code maxLocals ret :: tables_1) room_1 (fun tb e args s => Calls_1 tb e args s ∧ rest_1 tb e args s ∧ Pre_1 tb e args s)
    (fun _ _ args s o t => lw_Q args s o t) := by
  intro p e ha hc hk s m args below hf hfit hheap happ hpre
  obtain ⟨b, xs, hP⟩ := lw_pre_spec hpre.2.2 hpre.2.1
  obtain ⟨k, o, h1, h2, h3, hQ⟩ := lw_walk l hflags b xs p e ha hc hk s m args below hf ((Spec.applies_iff_loose hf).mp happ).1 hP trivial
  exact ⟨k, o, h1, h2, h3, hQ⟩
theorem lw_frame {s t : State} {o : Outcome} {args : Array Value} (h : Framed s o t [] 600086 7301442) :
    Framed s o t (fieldLocs frame_1_writes args s ++ arrayLocs frame_1_arrays args s ++ staticLocs frame_1_statics s) 600086 7301442 := h
theorem lw_limb (L : Cond) (hL : ∀ (args : Array Value) (s t : State), L.after args s (.returned (some (.int 1))) t = true) :
    ArmFor flags0 classFile x code maxLocals ret World_1 tables_1 room_1 Calls_1 rest_1 Pre_1
      (fun tb e a s o t => postC L tb e a s o t ∧ Framed s o t (fieldLocs frame_1_writes a s ++ arrayLocs frame_1_arrays a s ++ staticLocs frame_1_statics s) 600086 7301442) := by
  intro l hflags _ _ p e ha hc hk s m args below hf hfit hheap happ hpre
  obtain ⟨k, o, h1, h2, h3, rfl, hF⟩ := lw_comes l hflags p e ha hc hk s m args below hf hfit hheap happ hpre
  exact ⟨k, _, h1, h2, h3, hL args s _, lw_frame hF⟩
theorem i_vc : Claimed_1_1 ∧ Claimed_1_2 := ⟨lw_limb limb_1_1 (fun args s t => by simp [limb_1_1, Cond.after, Cond.holds, Cond.value]), lw_limb limb_1_2 (fun args s t => Cond.after_iff.mpr (by
  first | (rw [show limb_1_2 = Cond.eq .result (.int 1) from rfl, Cond.eq_ints (x := 1) (y := 1) rfl rfl]; simp; done) | (simp [limb_1_2, Cond.value, Term.eval]; done)))⟩
