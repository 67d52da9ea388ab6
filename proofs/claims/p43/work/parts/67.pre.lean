/-! what the start gives -/
section PRE
variable {args : Array Value} {s : State}
theorem pre_K (hts : ∀ w ∈ lw_tbl, w.before args s = true) : ∃ (D : va_G) (ca : Nat → ClassId), va_K D vwCl (tyl ca) s := by
  obtain ⟨c0, i0, h0⟩ := u_known (C := RX0) (T := TX0) (N := 8) (n := 8) hts (fun w h => wsL_law_u0 w h) (hts (.instantiable RX0 8) (tt1 (List.mem_of_getElem? (i := 53) rfl)))
  obtain ⟨c1, i1, h1⟩ := u_known (C := RX1) (T := TX1) (N := 1) (n := 1) hts (fun w h => wsL_law_u1 w h) (hts (.instantiable RX1 1) (tt1 (List.mem_of_getElem? (i := 40) rfl)))
  obtain ⟨c2, i2, h2⟩ := u_known (C := RX2) (T := TX2) (N := 2) (n := 2) hts (fun w h => wsL_law_u2 w h) (hts (.instantiable RX2 2) (tt1 (List.mem_of_getElem? (i := 194) rfl)))
  obtain ⟨c3, i3, h3⟩ := u_known (C := RX3) (T := TX3) (N := 6) (n := 6) hts (fun w h => wsL_law_u3 w h) (hts (.instantiable RX3 6) (tt1 (List.mem_of_getElem? (i := 120) rfl)))
  obtain ⟨c4, i4, h4⟩ := u_known (C := RX4) (T := TX4) (N := 5) (n := 5) hts (fun w h => wsL_law_u4 w h) (hts (.instantiable RX4 5) (tt1 (List.mem_of_getElem? (i := 94) rfl)))
  obtain ⟨c5, i5, h5⟩ := u_known (C := RX5) (T := TX5) (N := 6) (n := 6) hts (fun w h => wsL_law_u5 w h) (hts (.instantiable RX5 6) (tt1 (List.mem_of_getElem? (i := 213) rfl)))
  obtain ⟨c6, i6, h6⟩ := u_known (C := RX6) (T := TX6) (N := 10) (n := 10) hts (fun w h => wsL_law_u6 w h) (hts (.instantiable RX6 10) (tt1 (List.mem_of_getElem? (i := 28) rfl)))
  obtain ⟨c7, i7, h7⟩ := u_known (C := RX7) (T := TX7) (N := 2) (n := 2) hts (fun w h => wsL_law_u7 w h) (hts (.instantiable RX7 2) (tt1 (List.mem_of_getElem? (i := 238) rfl)))
  obtain ⟨c8, i8, h8⟩ := u_known (C := RX8) (T := TX8) (N := 6) (n := 6) hts (fun w h => wsL_law_u8 w h) (hts (.instantiable RX8 6) (tt1 (List.mem_of_getElem? (i := 20) rfl)))
  obtain ⟨a10, k10, m10, f10, g10, e10⟩ := Cond.arrayClass_spec (hts (.arrayClass .char) (tt1 (List.mem_of_getElem? (i := 237) rfl)))
  obtain ⟨a11, k11, m11, f11, g11, e11⟩ := Cond.arrayClass_spec (hts (.arrayClass .int) (tt1 (List.mem_of_getElem? (i := 52) rfl)))
  obtain ⟨m12, a12, k12, f12, -, g12, e12, n12⟩ := Cond.arrayOver_spec (hts (.arrayOver (.object "ShadeCards$Chimney")) (tt1 (List.mem_of_getElem? (i := 34) rfl)))
  obtain ⟨m13, a13, k13, f13, -, g13, e13, n13⟩ := Cond.arrayOver_spec (hts (.arrayOver (.object "ShadeCards$Notice")) (tt1 (List.mem_of_getElem? (i := 38) rfl)))
  obtain ⟨m14, a14, k14, f14, -, g14, e14, n14⟩ := Cond.arrayOver_spec (hts (.arrayOver (.object "ShadeCards$Observer")) (tt1 (List.mem_of_getElem? (i := 36) rfl)))
  obtain ⟨m15, a15, k15, f15, -, g15, e15, n15⟩ := Cond.arrayOver_spec (hts (.arrayOver (.object "ShadeCards$Ridge")) (tt1 (List.mem_of_getElem? (i := 200) rfl)))
  obtain ⟨m16, a16, k16, f16, -, g16, e16, n16⟩ := Cond.arrayOver_spec (hts (.arrayOver (.object "ShadeCards$Slot")) (tt1 (List.mem_of_getElem? (i := 211) rfl)))
  refine ⟨(fun k => if k = 0 then c0 else if k = 1 then c1 else if k = 2 then c2 else if k = 3 then c3 else if k = 4 then c4 else if k = 5 then c5 else if k = 6 then c6 else if k = 7 then c7 else c8, fun k => if k = 0 then i0 else if k = 1 then i1 else if k = 2 then i2 else if k = 3 then i3 else if k = 4 then i4 else if k = 5 then i5 else if k = 6 then i6 else if k = 7 then i7 else i8), fun k => if k = 10 then a10 else if k = 11 then a11 else if k = 12 then a12 else if k = 13 then a13 else if k = 14 then a14 else if k = 15 then a15 else a16, fun k q hq => ?_, fun k q hq => ?_⟩
  · match k, hq with
    | 0, hq => cases hq; exact h0
    | 1, hq => cases hq; exact h1
    | 2, hq => cases hq; exact h2
    | 3, hq => cases hq; exact h3
    | 4, hq => cases hq; exact h4
    | 5, hq => cases hq; exact h5
    | 6, hq => cases hq; exact h6
    | 7, hq => cases hq; exact h7
    | 8, hq => cases hq; exact h8
    | k + 9, hq => simp [vwCl] at hq
  · match k, hq with
    | 0, hq => cases hq; exact ⟨fun n z => ⟨fun k h => (by cases h), k10, g10, m10, e10⟩, f10⟩
    | 1, hq => cases hq; exact ⟨fun n z => ⟨fun k h => (by cases h), k11, g11, m11, e11⟩, f11⟩
    | 2, hq => cases hq; exact ⟨fun n z => ⟨fun k h => (by cases h), k12, g12, m12, e12⟩, k12, m12, g12, e12, f12, n12⟩
    | 3, hq => cases hq; exact ⟨fun n z => ⟨fun k h => (by cases h), k13, g13, m13, e13⟩, k13, m13, g13, e13, f13, n13⟩
    | 4, hq => cases hq; exact ⟨fun n z => ⟨fun k h => (by cases h), k14, g14, m14, e14⟩, k14, m14, g14, e14, f14, n14⟩
    | 5, hq => cases hq; exact ⟨fun n z => ⟨fun k h => (by cases h), k15, g15, m15, e15⟩, k15, m15, g15, e15, f15, n15⟩
    | 6, hq => cases hq; exact ⟨fun n z => ⟨fun k h => (by cases h), k16, g16, m16, e16⟩, k16, m16, g16, e16, f16, n16⟩
    | k + 7, hq => simp [tyl] at hq
theorem str_of {own C tx : String} {k : Nat} (h1 : (Cond.stringRef own k tx).before args s = true) (h2 : (Cond.exactly (.string own k) C).before args s = true) : ∃ a, vk_R own k tx a s := by
  have h3 : ∃ a, (Term.string own k).eval args s none [] s = some (.ref a) := by
    simp only [Cond.before, Cond.holds, Cond.value] at h2
    cases h : (Term.string own k).eval args s none [] s with
    | none => simp [h] at h2
    | some v =>
      rw [h] at h2
      cases hf : s.vm.findClass C <;> cases v <;> first | exact ⟨_, rfl⟩ | (rw [hf] at h2; simp at h2)
  obtain ⟨a, h3⟩ := h3
  exact ⟨a, vk_R.of h1 h3⟩
theorem pre_Nc (hgv : (Cond.and given_1 narrow_1).before args s = true) : Nc3 s := by
  have hs := flat_of_before _ hgv
  exact ⟨va_Nc.of (hs (.not (.castable xA xI)) (by decide +kernel)), va_Nc.of (hs (.not (.castable xS xI)) (by decide +kernel)), va_Nc.of (hs (.not (.castable xS xA)) (by decide +kernel))⟩
theorem pre_Ex {B : Nat} (hB : B = s.heap.size) (hts : ∀ w ∈ lw_tbl, w.before args s = true) (hgv : (Cond.and given_1 narrow_1).before args s = true) : Ex (AB B) s s.heap := by
  have hs := flat_of_before _ hgv
  have hA : ∀ a : Nat, a < s.heap.size → ¬ AB B a := fun a h q => by replace q : B ≤ a := q; omega
  refine ⟨List.forall_mem_cons.mpr ⟨va_Nw.of rfl (hts (.methodLinkNest RX6 59 yX4_init "ShadeCards") (tt1 (List.mem_of_getElem? (i := 95) rfl))), List.forall_mem_cons.mpr ⟨va_Nw.of rfl (hts (.methodLinkNest RX6 60 yX3_init "ShadeCards") (tt1 (List.mem_of_getElem? (i := 121) rfl))), List.forall_mem_cons.mpr ⟨va_Nw.of rfl (hts (.methodLinkNest RX8 34 yX5_init "ShadeCards") (tt1 (List.mem_of_getElem? (i := 214) rfl))), List.forall_mem_cons.mpr ⟨va_Nw.of rfl (hts (.methodLinkNest RX8 43 yX7_init "ShadeCards") (tt1 (List.mem_of_getElem? (i := 239) rfl))), List.forall_mem_cons.mpr ⟨va_Nw.of rfl (hts (.methodLinkNest RX2 25 yX8_isWithin "ShadeCards") (tt2 (List.mem_of_getElem? (i := 132) rfl))), List.forall_mem_cons.mpr ⟨va_Nw.of rfl (hts (.methodLinkNest RX0 48 yX8_hold "ShadeCards") (tt2 (List.mem_of_getElem? (i := 191) rfl))), List.forall_mem_cons.mpr ⟨va_Nw.of rfl (hts (.methodLinkNest RX6 109 yX8_isWithin "ShadeCards") (tt2 (List.mem_of_getElem? (i := 182) rfl))), List.forall_mem_cons.mpr ⟨va_Nw.of rfl (hts (.methodLinkNest RX4 27 yX8_hold "ShadeCards") (tt2 (List.mem_of_getElem? (i := 198) rfl))), List.forall_mem_cons.mpr ⟨va_Nw.of rfl (hts (.methodLinkNest RX0 51 yX8_isTick "ShadeCards") (tt4 (List.mem_of_getElem? (i := 109) rfl))), fun _ h => absurd h List.not_mem_nil⟩⟩⟩⟩⟩⟩⟩⟩⟩, ?_, ?_, List.forall_mem_cons.mpr ⟨str_of (hts (.stringRef "ShadeCards" 122 "an appeal against this notice was made") (tt3 (List.mem_of_getElem? (i := 178) rfl))) (hs (.exactly (.string "ShadeCards" 122) "java/lang/String") (by decide +kernel)), List.forall_mem_cons.mpr ⟨str_of (hts (.stringRef "ShadeCards" 283 "there is no change to undo") (tt3 (List.mem_of_getElem? (i := 56) rfl))) (hs (.exactly (.string "ShadeCards" 283) "java/lang/String") (by decide +kernel)), List.forall_mem_cons.mpr ⟨str_of (hts (.stringRef "ShadeCards" 301 "nothing was saved in this slot") (tt3 (List.mem_of_getElem? (i := 91) rfl))) (hs (.exactly (.string "ShadeCards" 301) "java/lang/String") (by decide +kernel)), List.forall_mem_cons.mpr ⟨str_of (hts (.stringRef "ShadeCards" 305 "an argument, or the pad, is not as it has to be") (tt2 (List.mem_of_getElem? (i := 97) rfl))) (hs (.exactly (.string "ShadeCards" 305) "java/lang/String") (by decide +kernel)), List.forall_mem_cons.mpr ⟨str_of (hts (.stringRef "ShadeCards" 310 "there is no such chimney") (tt3 (List.mem_of_getElem? (i := 28) rfl))) (hs (.exactly (.string "ShadeCards" 310) "java/lang/String") (by decide +kernel)), List.forall_mem_cons.mpr ⟨str_of (hts (.stringRef "ShadeCards" 313 "there is no such observer") (tt3 (List.mem_of_getElem? (i := 147) rfl))) (hs (.exactly (.string "ShadeCards" 313) "java/lang/String") (by decide +kernel)), List.forall_mem_cons.mpr ⟨str_of (hts (.stringRef "ShadeCards" 322 "there is no such notice") (tt3 (List.mem_of_getElem? (i := 177) rfl))) (hs (.exactly (.string "ShadeCards" 322) "java/lang/String") (by decide +kernel)), List.forall_mem_cons.mpr ⟨str_of (hts (.stringRef "ShadeCards" 328 "there is no such slot") (tt3 (List.mem_of_getElem? (i := 78) rfl))) (hs (.exactly (.string "ShadeCards" 328) "java/lang/String") (by decide +kernel)), fun _ h => absurd h List.not_mem_nil⟩⟩⟩⟩⟩⟩⟩⟩, List.forall_mem_cons.mpr ⟨va_Nw.of rfl (hts (.castable "java/lang/IllegalArgumentException" "java/lang/IllegalArgumentException") (tt2 (List.mem_of_getElem? (i := 58) rfl))), List.forall_mem_cons.mpr ⟨va_Nw.of rfl (hts (.castable "java/lang/IllegalStateException" "java/lang/IllegalStateException") (tt3 (List.mem_of_getElem? (i := 49) rfl))), List.forall_mem_cons.mpr ⟨va_Nw.of rfl (hts (.castable "java/lang/IndexOutOfBoundsException" "java/lang/IndexOutOfBoundsException") (tt3 (List.mem_of_getElem? (i := 21) rfl))), fun _ h => absurd h List.not_mem_nil⟩⟩⟩, List.forall_mem_cons.mpr ⟨va_Nw.of rfl (hts (.declares (Bundle.initS "java/lang/RuntimeException")) (tt2 (List.mem_of_getElem? (i := 60) rfl))), List.forall_mem_cons.mpr ⟨va_Nw.of rfl (hts (.declares (Bundle.initS "java/lang/Exception")) (tt2 (List.mem_of_getElem? (i := 62) rfl))), List.forall_mem_cons.mpr ⟨va_Nw.of rfl (hts (.declares (Bundle.initS Bundle.tN)) (tt2 (List.mem_of_getElem? (i := 64) rfl))), fun _ h => absurd h List.not_mem_nil⟩⟩⟩, pre_Nc hgv⟩
  · exact vx_Zqof (hts (.laysStatic Bundle.tN "UNASSIGNED_STACK" Bundle.steD) (tt2 (List.mem_of_getElem? (i := 83) rfl))) (hts (.initialized Bundle.tN) (tt1 (List.mem_of_getElem? (i := 11) rfl))) (hs (.isRef (.static Bundle.tN "UNASSIGNED_STACK" Bundle.steD)) (by decide +kernel)) hA
  · exact vx_Zqof (hts (.laysStatic Bundle.tN "SUPPRESSED_SENTINEL" Bundle.listD) (tt2 (List.mem_of_getElem? (i := 85) rfl))) (hts (.initialized Bundle.tN) (tt1 (List.mem_of_getElem? (i := 11) rfl))) (hs (.isRef (.static Bundle.tN "SUPPRESSED_SENTINEL" Bundle.listD)) (by decide +kernel)) hA
theorem pre_AO (hts : ∀ w ∈ lw_tbl, w.before args s = true) : ∀ X ∈ aoL, va_AO X s :=
  List.forall_mem_cons.mpr ⟨va_AO.of (hts (.arrayOver (.object "ShadeCards$Chimney")) (tt1 (List.mem_of_getElem? (i := 34) rfl))), List.forall_mem_cons.mpr ⟨va_AO.of (hts (.arrayOver (.object "ShadeCards$Observer")) (tt1 (List.mem_of_getElem? (i := 36) rfl))), List.forall_mem_cons.mpr ⟨va_AO.of (hts (.arrayOver (.object "ShadeCards$Notice")) (tt1 (List.mem_of_getElem? (i := 38) rfl))), List.forall_mem_cons.mpr ⟨va_AO.of (hts (.arrayOver (.object "ShadeCards$Ridge")) (tt1 (List.mem_of_getElem? (i := 200) rfl))), List.forall_mem_cons.mpr ⟨va_AO.of (hts (.arrayOver (.object "ShadeCards$Slot")) (tt1 (List.mem_of_getElem? (i := 211) rfl))), fun _ h => absurd h List.not_mem_nil⟩⟩⟩⟩⟩
end PRE
