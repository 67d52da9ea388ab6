section TOG
variable {p : Program} {l : Launch} {e : Env} {R : Room} {s : State} {m : MethodId} {args : Array Value} {below : List Frame} {meth : Method} {c : Code} {Q : State → Prop} {D : va_G} {ca : Nat → ClassId} {B : Nat} {nL cells slots n : Nat} {C : CE} {pc : Nat} {lv : List (Nat × Value)} {st : List Value} {cc : ByteArray} {Ts : List Cond} {own : String} {M : Mm}
theorem wld_C : wld ca B M [] = wlC B 715 (cel ca B M) := by simp [wld, wlC]
/-- all places are there: the whole memory -/
theorem GC_G (hT : Ty M) (h : ∀ q, q < 715 → ∀ H, va_at D vwCl (B + q, C q) H → va_at D vwCl (B + q, cel ca B M q) H) (k : G p l e R s m args below meth c Q D ca B ([] : va_W) (AB B) nL cells slots M pc lv st) : GC p l e R s m args below meth c Q D ca B (AB B) nL cells slots 715 C pc lv st := fun H locs ls w9 h9 hl9 =>
  k H locs ls ⟨by rw [wld_C]; exact Wc.P (C := cel ca B M) ⟨fun r hr => h r hr H (w9.1 r hr), w9.2⟩, by rw [wld_C]; exact wlC_D, hT⟩ h9 hl9
theorem gc_astore_n (F : Fx p R s m args meth c cc nL Ts own D ca (AB B)) {k : Fin 4} {i : Nat} {x : Nat} {lv2 : List (Nat × Value)} (hdg : decode cc pc = .ok (.astore_n k, 1)) (hi : (k : Nat) = i) (hn : i < nL) (hq : lset i (.ref x) lv = lv2) (kk : GC p l e R s m args below meth c Q D ca B (AB B) nL cells slots n C (pc + 1) lv2 st) : GC p l e R s m args below meth c Q D ca B (AB B) nL cells slots n C pc lv (.ref x :: st) := fun H locs ls w9 h9 hl9 => lv_astore_n F.1.1 F.1.2.1 hdg hi hl9 hn hq (fun ls9 hl8 => kk H locs ls9 w9 h9 hl8)
theorem gc_astore (F : Fx p R s m args meth c cc nL Ts own D ca (AB B)) {i : Nat} {x : Nat} {lv2 : List (Nat × Value)} (hdg : decode cc pc = .ok (.astore i, 2)) (hn : i < nL) (hq : lset i (.ref x) lv = lv2) (kk : GC p l e R s m args below meth c Q D ca B (AB B) nL cells slots n C (pc + 2) lv2 st) : GC p l e R s m args below meth c Q D ca B (AB B) nL cells slots n C pc lv (.ref x :: st) := fun H locs ls w9 h9 hl9 => lv_astore F.1.1 F.1.2.1 hdg hl9 hn hq (fun ls9 hl8 => kk H locs ls9 w9 h9 hl8)
end TOG
section LAWB
variable {pp : Program} {l : Launch} {ee : Env} {ss : State} {mm : MethodId} {aa : Array Value} {bb : List Frame} {me : Method} {c9 : Code} {QQ : State → Prop} {DD : va_G} {ca : Nat → ClassId} {B b L9 : Nat} {xs : Nat → Int32}
set_option maxHeartbeats 4000000 in
set_option maxRecDepth 100000 in
theorem law_first (hls : l.stackTraces = false) (F : Fx pp room_1 ss mm aa me c9 cL_law 21 wsL_law RL DD ca (AB B)) (hX : va_X b L9 xs ss ss.heap) (hb : b < ss.heap.size) (hbA : ¬ AB B b) (hL9 : L9 ≤ 260) (ke : ∀ (M : Mm) (cs sl : Nat), cs ≤ 600086 → sl ≤ 7301442 → ∀ lv, G pp l ee room_1 ss mm aa bb me c9 QQ DD ca B ([] : va_W) (AB B) 21 cs sl M 691 lv []) : G pp l ee room_1 ss mm aa bb me c9 QQ DD ca B ([] : va_W) (AB B) 21 (1000 + 8000 * 0) (50000 + 48000 * 0) M0 42 [(7, .ref (B + 714)), (6, .ref (B + 713)), (5, .ref (B + 712)), (4, .ref (B + 711)), (3, .ref (B + 710)), (2, .ref (B + 709)), (1, .ref (B + 0)), (0, .ref b)] [] := by
  refine g_iconst F (v := 0) dL_law_42 (by decide) ?_
  refine g_istore F (lv2 := [(8, _), (7, _), (6, _), (5, _), (4, _), (3, _), (2, _), (1, _), (0, _)]) dL_law_43 (by decide) rfl ?_
  have LI : ∀ (nkq kq : Nat), kq + nkq = 8 → G pp l ee room_1 ss mm aa bb me c9 QQ DD ca B ([] : va_W) (AB B) 21 (1000 + 8000 * 0) (50000 + 48000 * 0) ((lwM M0 (cI kq) z0 (qI kq) z0 z0 z0)) 45 [(8, .int (nI kq)), (0, .ref b), (1, .ref (B + 0)), (2, .ref (B + 709)), (3, .ref (B + 710)), (4, .ref (B + 711)), (5, .ref (B + 712)), (6, .ref (B + 713)), (7, .ref (B + 714))] [] := by
    intro nkq
    induction nkq with
    | zero =>
      intro kq hnkq
      refine g_iload F dL_law_45 0 rfl ?_
      refine g_bipush F (v := 8) dL_law_47 (by decide +kernel) ?_
      refine g_icmpN_ge F 93 dL_law_49 (by decide) (kq) (8) rfl rfl (by omega) (by omega) (fun hckq => ?_) (fun hckq => ?_)
      · obtain rfl : kq = 8 := by omega
        refine g_aload F dL_law_93 5 rfl ?_
        refine g_bipush F (v := 15) dL_law_95 (by decide +kernel) ?_
        refine g_iconst F (v := 3) dL_law_97 (by decide) ?_
        refine g_iastore (r := 711) F a711 (15) rfl (by omega) (by decide) dL_law_98 ?_
        refine g_mem (lwS_711 _ _ _ _ _ _ _ _ _) ?_
        refine g_aload F dL_law_99 5 rfl ?_
        refine g_bipush F (v := 16) dL_law_101 (by decide +kernel) ?_
        refine g_iconst F (v := 3) dL_law_103 (by decide) ?_
        refine g_iastore (r := 711) F a711 (16) rfl (by omega) (by decide) dL_law_104 ?_
        refine g_mem (lwS_711 _ _ _ _ _ _ _ _ _) ?_
        refine g_iconst F (v := 0) dL_law_105 (by decide) ?_
        refine g_istore F (lv2 := [(8, _), (0, _), (1, _), (2, _), (3, _), (4, _), (5, _), (6, _), (7, _)]) dL_law_106 (by decide) rfl ?_
        refine g_lv (lv2 := [(8, _), (0, _), (1, _), (2, _), (3, _), (4, _), (5, _), (6, _), (7, _)]) [0, 1, 2, 3, 4, 5, 6, 7, 8] rfl ?_
        exact law_loop hls F hX hb hbA hL9 ke 60 0 _ INV_0 rfl
      · exact absurd hckq (by omega)
    | succ nkq ihkq =>
      intro kq hnkq
      have hkq : kq < 8 := by omega
      refine g_iload F dL_law_45 0 rfl ?_
      refine g_bipush F (v := 8) dL_law_47 (by decide +kernel) ?_
      refine g_icmpN_ge F 93 dL_law_49 (by decide) (kq) (8) rfl rfl (by omega) (by omega) (fun hckq => ?_) (fun hckq => ?_)
      · exact absurd hckq (by omega)
      · refine g_aload_n F dL_law_52 rfl 3 rfl ?_
        refine g_iload F dL_law_53 0 rfl ?_
        refine g_iconst F (v := 3) dL_law_55 (by decide) ?_
        refine g_iastore (r := 709) F a709 (kq) rfl (by omega) (by decide) dL_law_56 ?_
        refine g_mem (lwS_709 _ _ _ _ _ _ _ _ _) ?_
        refine g_aload_n F dL_law_57 rfl 3 rfl ?_
        refine g_bipush F (v := 16) dL_law_58 (by decide +kernel) ?_
        refine g_iload F dL_law_60 0 rfl ?_
        refine g_iadd F dL_law_62 ?_
        refine g_top (nI_add (16) (kq)) ?_
        refine g_iconst F (v := 4) dL_law_63 (by decide) ?_
        refine g_iastore (r := 709) F a709 ((16 + kq)) rfl (by omega) (by decide) dL_law_64 ?_
        refine g_mem (lwS_709 _ _ _ _ _ _ _ _ _) ?_
        refine g_aload_n F dL_law_65 rfl 3 rfl ?_
        refine g_bipush F (v := 24) dL_law_66 (by decide +kernel) ?_
        refine g_iload F dL_law_68 0 rfl ?_
        refine g_iadd F dL_law_70 ?_
        refine g_top (nI_add (24) (kq)) ?_
        refine g_iload F dL_law_71 0 rfl ?_
        refine g_iconst F (v := 4) dL_law_73 (by decide) ?_
        refine g_irem F dL_law_74 (by decide) ?_
        refine g_top (pk_rem (a := kq) (d := 4) (by omega) (by omega) (by omega)) ?_
        refine g_iastore (r := 709) F a709 ((24 + kq)) rfl (by omega) (by decide) dL_law_75 ?_
        refine g_mem (lwS_709 _ _ _ _ _ _ _ _ _) ?_
        rw [cI_s hkq]
        refine g_aload F dL_law_76 5 rfl ?_
        refine g_bipush F (v := 6) dL_law_78 (by decide +kernel) ?_
        refine g_iload F dL_law_80 0 rfl ?_
        refine g_iconst F (v := 3) dL_law_82 (by decide) ?_
        refine g_irem F dL_law_83 (by decide) ?_
        refine g_top (pk_rem (a := kq) (d := 3) (by omega) (by omega) (by omega)) ?_
        refine g_iadd F dL_law_84 ?_
        refine g_top (nI_add (6) ((kq % 3))) ?_
        refine g_iconst F (v := -1) dL_law_85 (by decide) ?_
        refine g_iastore (r := 711) F a711 ((6 + (kq % 3))) rfl (by omega) (by decide) dL_law_86 ?_
        refine g_mem (lwS_711 _ _ _ _ _ _ _ _ _) ?_
        rw [qI_s]
        refine g_iinc F (lv2 := [(8, _), (0, _), (1, _), (2, _), (3, _), (4, _), (5, _), (6, _), (7, _)]) dL_law_87 0 rfl (nI_1 _) (by decide) rfl ?_
        refine g_goto F 45 dL_law_90 (by decide) ?_
        refine g_lv (lv2 := [(8, _), (0, _), (1, _), (2, _), (3, _), (4, _), (5, _), (6, _), (7, _)]) [0, 1, 2, 3, 4, 5, 6, 7, 8] rfl ?_
        exact g_is rfl rfl (ihkq (kq + 1) (by omega))
  refine g_lv (lv2 := [(8, _), (0, _), (1, _), (2, _), (3, _), (4, _), (5, _), (6, _), (7, _)]) [0, 8, 7, 6, 5, 4, 3, 2, 1] rfl ?_
  exact g_is M0_law rfl (LI (8 - 0) (0) (by omega))
end LAWB
