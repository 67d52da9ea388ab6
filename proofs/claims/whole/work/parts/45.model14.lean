/-- the character at place i of some -/
def cdR (x : Int64) (i : Nat) : Int32 := (x.toUInt64 >>> ((nI (8 * i)).toInt64.toUInt64 &&& Int64.toUInt64 63)).toInt64.toInt32 &&& 255
def enI (x : Int64) : Nat → Int32
  | 0 => 0
  | i + 1 => if ¬ enI x i = 0 ∨ cdR x i = 0 then 1 else 0
def isI (x : Int64) : Nat → Int32
  | 0 => 1
  | i + 1 => if ¬ isI x i = 0 ∧ (¬ enI x (i + 1) = 0 ∧ cdR x i = 0 ∨ enI x (i + 1) = 0 ∧ 33 ≤ cdR x i ∧ cdR x i ≤ 126) then 1 else 0
def mnI (x : Int64) : Nat → Int32
  | 0 => 0
  | i + 1 => mnI x i + (if ¬ enI x (i + 1) = 0 then 0 else 1)
def hmF (x : Int64) : Int32 := if ¬ isI x 8 = 0 then mnI x 8 else 0
theorem hmF_1 {x : Int64} (d : ¬ isI x 8 = 0) : hmF x = mnI x 8 := if_pos d
theorem hmF_0 {x : Int64} (d : isI x 8 = 0) : hmF x = 0 := if_neg (fun z => z d)
theorem isI_a {x : Int64} {i : Nat} (b1 : isI x i = 0) : isI x (i + 1) = 0 := if_neg (fun z => z.1 b1)
theorem isI_b {x : Int64} {i : Nat} (b1 : ¬ isI x i = 0) (b2 : enI x (i + 1) = 0) (b4 : 33 ≤ cdR x i ∧ cdR x i ≤ 126) : isI x (i + 1) = 1 := if_pos (And.intro b1 (Or.inr (And.intro b2 b4)))
theorem isI_c {x : Int64} {i : Nat} (b2 : enI x (i + 1) = 0) (b4 : ¬ (33 ≤ cdR x i ∧ cdR x i ≤ 126)) : isI x (i + 1) = 0 := if_neg (fun z => z.2.elim (fun q => q.1 b2) (fun q => b4 q.2))
theorem isI_d {x : Int64} {i : Nat} (b1 : ¬ isI x i = 0) (b2 : ¬ enI x (i + 1) = 0) (b3 : cdR x i = 0) : isI x (i + 1) = 1 := if_pos (And.intro b1 (Or.inl (And.intro b2 b3)))
theorem isI_e {x : Int64} {i : Nat} (b2 : ¬ enI x (i + 1) = 0) (b3 : ¬ cdR x i = 0) : isI x (i + 1) = 0 := if_neg (fun z => z.2.elim (fun q => b3 q.2) (fun q => b2 q.1))
theorem nI_8 (i : Nat) : nI (8 * i) + Int32.ofInt 8 = nI (8 * (i + 1)) := nI_add (8 * i) 8

abbrev rmX9_howMany : Room := { frames := 1, cells := 0, slots := 0, locals := 22 }
set_option maxHeartbeats 200000 in
set_option maxRecDepth 100000 in
theorem kX9_howMany (l : Launch) {M : Mm} (x : Int64) : Ct l yX9_howMany wsX9_howMany rmX9_howMany (fun B => [.long x]) M (fun _ v u => v = some (.int (hmF x)) ∧ u = M) := by
  refine Ct.ofI (own := RX9) (by decide +kernel) rfl rfl (fun B => Nat.le_of_ble_eq_true rfl) ?_
  intro pp ee ss mm aa bb me c9 DD ca B Tl AA QQ F K
  show G pp l ee rmX9_howMany ss mm aa bb me c9 QQ DD ca B Tl AA 7 0 0 M 0 [(0, .long x)] []
  refine g_iconst F (v := 0) dX9_howMany_0 (by decide) ?_
  refine g_istore_n F (lv2 := [(2, _), (0, _)]) dX9_howMany_1 rfl (by decide) rfl ?_
  refine g_iconst F (v := 0) dX9_howMany_2 (by decide) ?_
  refine g_istore_n F (lv2 := [(3, _), (2, _), (0, _)]) dX9_howMany_3 rfl (by decide) rfl ?_
  refine g_iconst F (v := 1) dX9_howMany_4 (by decide) ?_
  refine g_istore F (lv2 := [(4, _), (3, _), (2, _), (0, _)]) dX9_howMany_5 (by decide) rfl ?_
  refine g_iconst F (v := 0) dX9_howMany_7 (by decide) ?_
  refine g_istore F (lv2 := [(5, _), (4, _), (3, _), (2, _), (0, _)]) dX9_howMany_8 (by decide) rfl ?_
  have LP : ∀ (ni i : Nat), i + ni = 8 → G pp l ee rmX9_howMany ss mm aa bb me c9 QQ DD ca B Tl AA 7 0 0 (M) 10 [(5, .int (nI (8 * i))), (0, .long x), (2, .int (mnI x i)), (3, .int (enI x i)), (4, .int (isI x i))] [] := by
    intro ni
    induction ni with
    | zero =>
      intro i hni
      refine g_iload F dX9_howMany_10 0 rfl ?_
      refine g_bipush F (v := 64) dX9_howMany_12 (by decide +kernel) ?_
      refine g_icmpN_ge F 97 dX9_howMany_14 (by decide) ((8 * i)) (64) rfl rfl (by omega) (by omega) (fun hci => ?_) (fun hci => ?_)
      · obtain rfl : i = 8 := by omega
        refine g_iload F dX9_howMany_97 4 rfl ?_
        refine g_if_eq F 106 dX9_howMany_99 (by decide) (fun d1 => ?_) (fun d1 => ?_)
        · have eh := hmF_0 d1
          refine g_iconst F (v := 0) dX9_howMany_106 (by decide) ?_
          exact K _ _ _ _ dX9_howMany_107 rfl ⟨by rw [eh], rfl⟩
        · have eh := hmF_1 d1
          refine g_iload_n F dX9_howMany_102 rfl 2 rfl ?_
          refine g_goto F 107 dX9_howMany_103 (by decide) ?_
          exact K _ _ _ _ dX9_howMany_107 rfl ⟨by rw [eh], rfl⟩
      · exact absurd hci (by omega)
    | succ ni ihi =>
      intro i hni
      refine g_iload F dX9_howMany_10 0 rfl ?_
      refine g_bipush F (v := 64) dX9_howMany_12 (by decide +kernel) ?_
      refine g_icmpN_ge F 97 dX9_howMany_14 (by decide) ((8 * i)) (64) rfl rfl (by omega) (by omega) (fun hci => ?_) (fun hci => ?_)
      · exact absurd hci (by omega)
      · refine g_lload_n F dX9_howMany_17 rfl 1 rfl ?_
        refine g_iload F dX9_howMany_18 0 rfl ?_
        refine g_lushr F dX9_howMany_20 ?_
        refine g_l2i F dX9_howMany_21 ?_
        refine g_sipush F (v := 255) dX9_howMany_22 (by decide +kernel) ?_
        refine g_iand F dX9_howMany_25 ?_
        refine g_top (y := cdR x i) (by rfl) ?_
        refine g_istore F (lv2 := [(6, _), (5, _), (0, _), (2, _), (3, _), (4, _)]) dX9_howMany_26 (by decide) rfl ?_
        refine g_iload_n F dX9_howMany_28 rfl 4 rfl ?_
        refine g_if_ne F 37 dX9_howMany_29 (by decide) (fun a1 => ?_) (fun a1 => ?_)
        · refine g_iconst F (v := 1) dX9_howMany_37 (by decide) ?_
          refine g_goto F 42 dX9_howMany_38 (by decide) ?_
          refine g_top (y := enI x (i + 1)) (by first | exact (if_pos (Or.inl a1)).symm | exact (if_pos (Or.inr a2)).symm | exact (if_neg (fun z => z.elim (fun q => q a1) a2)).symm) ?_
          refine g_istore_n F (lv2 := [(3, _), (6, _), (5, _), (0, _), (2, _), (4, _)]) dX9_howMany_42 rfl (by decide) rfl ?_
          refine g_iload F dX9_howMany_43 5 rfl ?_
          refine g_if_eq F 76 dX9_howMany_45 (by decide) (fun b1 => ?_) (fun b1 => ?_)
          · refine g_iconst F (v := 0) dX9_howMany_76 (by decide) ?_
            refine g_top (y := isI x (i + 1)) (by first | exact (isI_a b1).symm | exact (isI_b b1 b2 b4).symm | exact (isI_c b2 b4).symm | exact (isI_d b1 b2 b3).symm | exact (isI_e b2 b3).symm) ?_
            refine g_istore F (lv2 := [(4, _), (3, _), (6, _), (5, _), (0, _), (2, _)]) dX9_howMany_77 (by decide) rfl ?_
            refine g_iload_n F dX9_howMany_79 rfl 5 rfl ?_
            refine g_iload_n F dX9_howMany_80 rfl 1 rfl ?_
            refine g_if_eq F 88 dX9_howMany_81 (by decide) (fun c1 => ?_) (fun c1 => ?_)
            · refine g_iconst F (v := 1) dX9_howMany_88 (by decide) ?_
              refine g_top (y := if ¬ enI x (i + 1) = 0 then 0 else 1) (by first | exact (if_pos c1).symm | exact (if_neg (fun z => z c1)).symm) ?_
              refine g_iadd F dX9_howMany_89 ?_
              refine g_istore_n F (lv2 := [(2, _), (4, _), (3, _), (6, _), (5, _), (0, _)]) dX9_howMany_90 rfl (by decide) rfl ?_
              refine g_iinc F (lv2 := [(5, _), (2, _), (4, _), (3, _), (6, _), (0, _)]) dX9_howMany_91 4 rfl rfl (by decide) rfl ?_
              refine g_goto F 10 dX9_howMany_94 (by decide) ?_
              refine g_lv (lv2 := [(5, _), (0, _), (2, _), (3, _), (4, _)]) [0, 5, 1, 3, 2] rfl ?_
              exact g_is rfl (by rw [nI_8]; rfl) (ihi (i + 1) (by omega))
            · refine g_iconst F (v := 0) dX9_howMany_84 (by decide) ?_
              refine g_goto F 89 dX9_howMany_85 (by decide) ?_
              refine g_top (y := if ¬ enI x (i + 1) = 0 then 0 else 1) (by first | exact (if_pos c1).symm | exact (if_neg (fun z => z c1)).symm) ?_
              refine g_iadd F dX9_howMany_89 ?_
              refine g_istore_n F (lv2 := [(2, _), (4, _), (3, _), (6, _), (5, _), (0, _)]) dX9_howMany_90 rfl (by decide) rfl ?_
              refine g_iinc F (lv2 := [(5, _), (2, _), (4, _), (3, _), (6, _), (0, _)]) dX9_howMany_91 4 rfl rfl (by decide) rfl ?_
              refine g_goto F 10 dX9_howMany_94 (by decide) ?_
              refine g_lv (lv2 := [(5, _), (0, _), (2, _), (3, _), (4, _)]) [0, 5, 1, 3, 2] rfl ?_
              exact g_is rfl (by rw [nI_8]; rfl) (ihi (i + 1) (by omega))
          · refine g_iload_n F dX9_howMany_48 rfl 0 rfl ?_
            refine g_if_eq F 60 dX9_howMany_49 (by decide) (fun b2 => ?_) (fun b2 => ?_)
            · refine g_iload F dX9_howMany_60 1 rfl ?_
              refine g_bipush F (v := 33) dX9_howMany_62 (by decide +kernel) ?_
              refine g_bipush F (v := 126) dX9_howMany_64 (by decide +kernel) ?_
              refine g_callS F (kX9_within l _ _ _) (va_cwS 3 F.1.2.2.2.2 gX9_howMany_X9_within rfl rfl rfl (by decide +kernel) ⟨Nat.le_of_ble_eq_true rfl, Nat.le_of_ble_eq_true rfl⟩) rfl rfl rfl (Nat.le_of_ble_eq_true rfl) dX9_howMany_66 ⟨Nat.le_of_ble_eq_true rfl, Nat.le_of_ble_eq_true rfl⟩ (g_det ?_)
              refine g_ifB_eq F 76 dX9_howMany_69 (by decide) (fun b4 => ?_) (fun b4 => ?_)
              · refine g_iconst F (v := 0) dX9_howMany_76 (by decide) ?_
                refine g_top (y := isI x (i + 1)) (by first | exact (isI_a b1).symm | exact (isI_b b1 b2 b4).symm | exact (isI_c b2 b4).symm | exact (isI_d b1 b2 b3).symm | exact (isI_e b2 b3).symm) ?_
                refine g_istore F (lv2 := [(4, _), (3, _), (6, _), (5, _), (0, _), (2, _)]) dX9_howMany_77 (by decide) rfl ?_
                refine g_iload_n F dX9_howMany_79 rfl 5 rfl ?_
                refine g_iload_n F dX9_howMany_80 rfl 1 rfl ?_
                refine g_if_eq F 88 dX9_howMany_81 (by decide) (fun c1 => ?_) (fun c1 => ?_)
                · refine g_iconst F (v := 1) dX9_howMany_88 (by decide) ?_
                  refine g_top (y := if ¬ enI x (i + 1) = 0 then 0 else 1) (by first | exact (if_pos c1).symm | exact (if_neg (fun z => z c1)).symm) ?_
                  refine g_iadd F dX9_howMany_89 ?_
                  refine g_istore_n F (lv2 := [(2, _), (4, _), (3, _), (6, _), (5, _), (0, _)]) dX9_howMany_90 rfl (by decide) rfl ?_
                  refine g_iinc F (lv2 := [(5, _), (2, _), (4, _), (3, _), (6, _), (0, _)]) dX9_howMany_91 4 rfl rfl (by decide) rfl ?_
                  refine g_goto F 10 dX9_howMany_94 (by decide) ?_
                  refine g_lv (lv2 := [(5, _), (0, _), (2, _), (3, _), (4, _)]) [0, 5, 1, 3, 2] rfl ?_
                  exact g_is rfl (by rw [nI_8]; rfl) (ihi (i + 1) (by omega))
                · refine g_iconst F (v := 0) dX9_howMany_84 (by decide) ?_
                  refine g_goto F 89 dX9_howMany_85 (by decide) ?_
                  refine g_top (y := if ¬ enI x (i + 1) = 0 then 0 else 1) (by first | exact (if_pos c1).symm | exact (if_neg (fun z => z c1)).symm) ?_
                  refine g_iadd F dX9_howMany_89 ?_
                  refine g_istore_n F (lv2 := [(2, _), (4, _), (3, _), (6, _), (5, _), (0, _)]) dX9_howMany_90 rfl (by decide) rfl ?_
                  refine g_iinc F (lv2 := [(5, _), (2, _), (4, _), (3, _), (6, _), (0, _)]) dX9_howMany_91 4 rfl rfl (by decide) rfl ?_
                  refine g_goto F 10 dX9_howMany_94 (by decide) ?_
                  refine g_lv (lv2 := [(5, _), (0, _), (2, _), (3, _), (4, _)]) [0, 5, 1, 3, 2] rfl ?_
                  exact g_is rfl (by rw [nI_8]; rfl) (ihi (i + 1) (by omega))
              · refine g_iconst F (v := 1) dX9_howMany_72 (by decide) ?_
                refine g_goto F 77 dX9_howMany_73 (by decide) ?_
                refine g_top (y := isI x (i + 1)) (by first | exact (isI_a b1).symm | exact (isI_b b1 b2 b4).symm | exact (isI_c b2 b4).symm | exact (isI_d b1 b2 b3).symm | exact (isI_e b2 b3).symm) ?_
                refine g_istore F (lv2 := [(4, _), (3, _), (6, _), (5, _), (0, _), (2, _)]) dX9_howMany_77 (by decide) rfl ?_
                refine g_iload_n F dX9_howMany_79 rfl 5 rfl ?_
                refine g_iload_n F dX9_howMany_80 rfl 1 rfl ?_
                refine g_if_eq F 88 dX9_howMany_81 (by decide) (fun c1 => ?_) (fun c1 => ?_)
                · refine g_iconst F (v := 1) dX9_howMany_88 (by decide) ?_
                  refine g_top (y := if ¬ enI x (i + 1) = 0 then 0 else 1) (by first | exact (if_pos c1).symm | exact (if_neg (fun z => z c1)).symm) ?_
                  refine g_iadd F dX9_howMany_89 ?_
                  refine g_istore_n F (lv2 := [(2, _), (4, _), (3, _), (6, _), (5, _), (0, _)]) dX9_howMany_90 rfl (by decide) rfl ?_
                  refine g_iinc F (lv2 := [(5, _), (2, _), (4, _), (3, _), (6, _), (0, _)]) dX9_howMany_91 4 rfl rfl (by decide) rfl ?_
                  refine g_goto F 10 dX9_howMany_94 (by decide) ?_
                  refine g_lv (lv2 := [(5, _), (0, _), (2, _), (3, _), (4, _)]) [0, 5, 1, 3, 2] rfl ?_
                  exact g_is rfl (by rw [nI_8]; rfl) (ihi (i + 1) (by omega))
                · refine g_iconst F (v := 0) dX9_howMany_84 (by decide) ?_
                  refine g_goto F 89 dX9_howMany_85 (by decide) ?_
                  refine g_top (y := if ¬ enI x (i + 1) = 0 then 0 else 1) (by first | exact (if_pos c1).symm | exact (if_neg (fun z => z c1)).symm) ?_
                  refine g_iadd F dX9_howMany_89 ?_
                  refine g_istore_n F (lv2 := [(2, _), (4, _), (3, _), (6, _), (5, _), (0, _)]) dX9_howMany_90 rfl (by decide) rfl ?_
                  refine g_iinc F (lv2 := [(5, _), (2, _), (4, _), (3, _), (6, _), (0, _)]) dX9_howMany_91 4 rfl rfl (by decide) rfl ?_
                  refine g_goto F 10 dX9_howMany_94 (by decide) ?_
                  refine g_lv (lv2 := [(5, _), (0, _), (2, _), (3, _), (4, _)]) [0, 5, 1, 3, 2] rfl ?_
                  exact g_is rfl (by rw [nI_8]; rfl) (ihi (i + 1) (by omega))
            · refine g_iload F dX9_howMany_52 1 rfl ?_
              refine g_if_ne F 76 dX9_howMany_54 (by decide) (fun b3 => ?_) (fun b3 => ?_)
              · refine g_iconst F (v := 0) dX9_howMany_76 (by decide) ?_
                refine g_top (y := isI x (i + 1)) (by first | exact (isI_a b1).symm | exact (isI_b b1 b2 b4).symm | exact (isI_c b2 b4).symm | exact (isI_d b1 b2 b3).symm | exact (isI_e b2 b3).symm) ?_
                refine g_istore F (lv2 := [(4, _), (3, _), (6, _), (5, _), (0, _), (2, _)]) dX9_howMany_77 (by decide) rfl ?_
                refine g_iload_n F dX9_howMany_79 rfl 5 rfl ?_
                refine g_iload_n F dX9_howMany_80 rfl 1 rfl ?_
                refine g_if_eq F 88 dX9_howMany_81 (by decide) (fun c1 => ?_) (fun c1 => ?_)
                · refine g_iconst F (v := 1) dX9_howMany_88 (by decide) ?_
                  refine g_top (y := if ¬ enI x (i + 1) = 0 then 0 else 1) (by first | exact (if_pos c1).symm | exact (if_neg (fun z => z c1)).symm) ?_
                  refine g_iadd F dX9_howMany_89 ?_
                  refine g_istore_n F (lv2 := [(2, _), (4, _), (3, _), (6, _), (5, _), (0, _)]) dX9_howMany_90 rfl (by decide) rfl ?_
                  refine g_iinc F (lv2 := [(5, _), (2, _), (4, _), (3, _), (6, _), (0, _)]) dX9_howMany_91 4 rfl rfl (by decide) rfl ?_
                  refine g_goto F 10 dX9_howMany_94 (by decide) ?_
                  refine g_lv (lv2 := [(5, _), (0, _), (2, _), (3, _), (4, _)]) [0, 5, 1, 3, 2] rfl ?_
                  exact g_is rfl (by rw [nI_8]; rfl) (ihi (i + 1) (by omega))
                · refine g_iconst F (v := 0) dX9_howMany_84 (by decide) ?_
                  refine g_goto F 89 dX9_howMany_85 (by decide) ?_
                  refine g_top (y := if ¬ enI x (i + 1) = 0 then 0 else 1) (by first | exact (if_pos c1).symm | exact (if_neg (fun z => z c1)).symm) ?_
                  refine g_iadd F dX9_howMany_89 ?_
                  refine g_istore_n F (lv2 := [(2, _), (4, _), (3, _), (6, _), (5, _), (0, _)]) dX9_howMany_90 rfl (by decide) rfl ?_
                  refine g_iinc F (lv2 := [(5, _), (2, _), (4, _), (3, _), (6, _), (0, _)]) dX9_howMany_91 4 rfl rfl (by decide) rfl ?_
                  refine g_goto F 10 dX9_howMany_94 (by decide) ?_
                  refine g_lv (lv2 := [(5, _), (0, _), (2, _), (3, _), (4, _)]) [0, 5, 1, 3, 2] rfl ?_
                  exact g_is rfl (by rw [nI_8]; rfl) (ihi (i + 1) (by omega))
              · refine g_goto F 72 dX9_howMany_57 (by decide) ?_
                refine g_iconst F (v := 1) dX9_howMany_72 (by decide) ?_
                refine g_goto F 77 dX9_howMany_73 (by decide) ?_
                refine g_top (y := isI x (i + 1)) (by first | exact (isI_a b1).symm | exact (isI_b b1 b2 b4).symm | exact (isI_c b2 b4).symm | exact (isI_d b1 b2 b3).symm | exact (isI_e b2 b3).symm) ?_
                refine g_istore F (lv2 := [(4, _), (3, _), (6, _), (5, _), (0, _), (2, _)]) dX9_howMany_77 (by decide) rfl ?_
                refine g_iload_n F dX9_howMany_79 rfl 5 rfl ?_
                refine g_iload_n F dX9_howMany_80 rfl 1 rfl ?_
                refine g_if_eq F 88 dX9_howMany_81 (by decide) (fun c1 => ?_) (fun c1 => ?_)
                · refine g_iconst F (v := 1) dX9_howMany_88 (by decide) ?_
                  refine g_top (y := if ¬ enI x (i + 1) = 0 then 0 else 1) (by first | exact (if_pos c1).symm | exact (if_neg (fun z => z c1)).symm) ?_
                  refine g_iadd F dX9_howMany_89 ?_
                  refine g_istore_n F (lv2 := [(2, _), (4, _), (3, _), (6, _), (5, _), (0, _)]) dX9_howMany_90 rfl (by decide) rfl ?_
                  refine g_iinc F (lv2 := [(5, _), (2, _), (4, _), (3, _), (6, _), (0, _)]) dX9_howMany_91 4 rfl rfl (by decide) rfl ?_
                  refine g_goto F 10 dX9_howMany_94 (by decide) ?_
                  refine g_lv (lv2 := [(5, _), (0, _), (2, _), (3, _), (4, _)]) [0, 5, 1, 3, 2] rfl ?_
                  exact g_is rfl (by rw [nI_8]; rfl) (ihi (i + 1) (by omega))
                · refine g_iconst F (v := 0) dX9_howMany_84 (by decide) ?_
                  refine g_goto F 89 dX9_howMany_85 (by decide) ?_
                  refine g_top (y := if ¬ enI x (i + 1) = 0 then 0 else 1) (by first | exact (if_pos c1).symm | exact (if_neg (fun z => z c1)).symm) ?_
                  refine g_iadd F dX9_howMany_89 ?_
                  refine g_istore_n F (lv2 := [(2, _), (4, _), (3, _), (6, _), (5, _), (0, _)]) dX9_howMany_90 rfl (by decide) rfl ?_
                  refine g_iinc F (lv2 := [(5, _), (2, _), (4, _), (3, _), (6, _), (0, _)]) dX9_howMany_91 4 rfl rfl (by decide) rfl ?_
                  refine g_goto F 10 dX9_howMany_94 (by decide) ?_
                  refine g_lv (lv2 := [(5, _), (0, _), (2, _), (3, _), (4, _)]) [0, 5, 1, 3, 2] rfl ?_
                  exact g_is rfl (by rw [nI_8]; rfl) (ihi (i + 1) (by omega))
        · refine g_iload F dX9_howMany_32 0 rfl ?_
          refine g_if_ne F 41 dX9_howMany_34 (by decide) (fun a2 => ?_) (fun a2 => ?_)
          · refine g_iconst F (v := 0) dX9_howMany_41 (by decide) ?_
            refine g_top (y := enI x (i + 1)) (by first | exact (if_pos (Or.inl a1)).symm | exact (if_pos (Or.inr a2)).symm | exact (if_neg (fun z => z.elim (fun q => q a1) a2)).symm) ?_
            refine g_istore_n F (lv2 := [(3, _), (6, _), (5, _), (0, _), (2, _), (4, _)]) dX9_howMany_42 rfl (by decide) rfl ?_
            refine g_iload F dX9_howMany_43 5 rfl ?_
            refine g_if_eq F 76 dX9_howMany_45 (by decide) (fun b1 => ?_) (fun b1 => ?_)
            · refine g_iconst F (v := 0) dX9_howMany_76 (by decide) ?_
              refine g_top (y := isI x (i + 1)) (by first | exact (isI_a b1).symm | exact (isI_b b1 b2 b4).symm | exact (isI_c b2 b4).symm | exact (isI_d b1 b2 b3).symm | exact (isI_e b2 b3).symm) ?_
              refine g_istore F (lv2 := [(4, _), (3, _), (6, _), (5, _), (0, _), (2, _)]) dX9_howMany_77 (by decide) rfl ?_
              refine g_iload_n F dX9_howMany_79 rfl 5 rfl ?_
              refine g_iload_n F dX9_howMany_80 rfl 1 rfl ?_
              refine g_if_eq F 88 dX9_howMany_81 (by decide) (fun c1 => ?_) (fun c1 => ?_)
              · refine g_iconst F (v := 1) dX9_howMany_88 (by decide) ?_
                refine g_top (y := if ¬ enI x (i + 1) = 0 then 0 else 1) (by first | exact (if_pos c1).symm | exact (if_neg (fun z => z c1)).symm) ?_
                refine g_iadd F dX9_howMany_89 ?_
                refine g_istore_n F (lv2 := [(2, _), (4, _), (3, _), (6, _), (5, _), (0, _)]) dX9_howMany_90 rfl (by decide) rfl ?_
                refine g_iinc F (lv2 := [(5, _), (2, _), (4, _), (3, _), (6, _), (0, _)]) dX9_howMany_91 4 rfl rfl (by decide) rfl ?_
                refine g_goto F 10 dX9_howMany_94 (by decide) ?_
                refine g_lv (lv2 := [(5, _), (0, _), (2, _), (3, _), (4, _)]) [0, 5, 1, 3, 2] rfl ?_
                exact g_is rfl (by rw [nI_8]; rfl) (ihi (i + 1) (by omega))
              · refine g_iconst F (v := 0) dX9_howMany_84 (by decide) ?_
                refine g_goto F 89 dX9_howMany_85 (by decide) ?_
                refine g_top (y := if ¬ enI x (i + 1) = 0 then 0 else 1) (by first | exact (if_pos c1).symm | exact (if_neg (fun z => z c1)).symm) ?_
                refine g_iadd F dX9_howMany_89 ?_
                refine g_istore_n F (lv2 := [(2, _), (4, _), (3, _), (6, _), (5, _), (0, _)]) dX9_howMany_90 rfl (by decide) rfl ?_
                refine g_iinc F (lv2 := [(5, _), (2, _), (4, _), (3, _), (6, _), (0, _)]) dX9_howMany_91 4 rfl rfl (by decide) rfl ?_
                refine g_goto F 10 dX9_howMany_94 (by decide) ?_
                refine g_lv (lv2 := [(5, _), (0, _), (2, _), (3, _), (4, _)]) [0, 5, 1, 3, 2] rfl ?_
                exact g_is rfl (by rw [nI_8]; rfl) (ihi (i + 1) (by omega))
            · refine g_iload_n F dX9_howMany_48 rfl 0 rfl ?_
              refine g_if_eq F 60 dX9_howMany_49 (by decide) (fun b2 => ?_) (fun b2 => ?_)
              · refine g_iload F dX9_howMany_60 1 rfl ?_
                refine g_bipush F (v := 33) dX9_howMany_62 (by decide +kernel) ?_
                refine g_bipush F (v := 126) dX9_howMany_64 (by decide +kernel) ?_
                refine g_callS F (kX9_within l _ _ _) (va_cwS 3 F.1.2.2.2.2 gX9_howMany_X9_within rfl rfl rfl (by decide +kernel) ⟨Nat.le_of_ble_eq_true rfl, Nat.le_of_ble_eq_true rfl⟩) rfl rfl rfl (Nat.le_of_ble_eq_true rfl) dX9_howMany_66 ⟨Nat.le_of_ble_eq_true rfl, Nat.le_of_ble_eq_true rfl⟩ (g_det ?_)
                refine g_ifB_eq F 76 dX9_howMany_69 (by decide) (fun b4 => ?_) (fun b4 => ?_)
                · refine g_iconst F (v := 0) dX9_howMany_76 (by decide) ?_
                  refine g_top (y := isI x (i + 1)) (by first | exact (isI_a b1).symm | exact (isI_b b1 b2 b4).symm | exact (isI_c b2 b4).symm | exact (isI_d b1 b2 b3).symm | exact (isI_e b2 b3).symm) ?_
                  refine g_istore F (lv2 := [(4, _), (3, _), (6, _), (5, _), (0, _), (2, _)]) dX9_howMany_77 (by decide) rfl ?_
                  refine g_iload_n F dX9_howMany_79 rfl 5 rfl ?_
                  refine g_iload_n F dX9_howMany_80 rfl 1 rfl ?_
                  refine g_if_eq F 88 dX9_howMany_81 (by decide) (fun c1 => ?_) (fun c1 => ?_)
                  · refine g_iconst F (v := 1) dX9_howMany_88 (by decide) ?_
                    refine g_top (y := if ¬ enI x (i + 1) = 0 then 0 else 1) (by first | exact (if_pos c1).symm | exact (if_neg (fun z => z c1)).symm) ?_
                    refine g_iadd F dX9_howMany_89 ?_
                    refine g_istore_n F (lv2 := [(2, _), (4, _), (3, _), (6, _), (5, _), (0, _)]) dX9_howMany_90 rfl (by decide) rfl ?_
                    refine g_iinc F (lv2 := [(5, _), (2, _), (4, _), (3, _), (6, _), (0, _)]) dX9_howMany_91 4 rfl rfl (by decide) rfl ?_
                    refine g_goto F 10 dX9_howMany_94 (by decide) ?_
                    refine g_lv (lv2 := [(5, _), (0, _), (2, _), (3, _), (4, _)]) [0, 5, 1, 3, 2] rfl ?_
                    exact g_is rfl (by rw [nI_8]; rfl) (ihi (i + 1) (by omega))
                  · refine g_iconst F (v := 0) dX9_howMany_84 (by decide) ?_
                    refine g_goto F 89 dX9_howMany_85 (by decide) ?_
                    refine g_top (y := if ¬ enI x (i + 1) = 0 then 0 else 1) (by first | exact (if_pos c1).symm | exact (if_neg (fun z => z c1)).symm) ?_
                    refine g_iadd F dX9_howMany_89 ?_
                    refine g_istore_n F (lv2 := [(2, _), (4, _), (3, _), (6, _), (5, _), (0, _)]) dX9_howMany_90 rfl (by decide) rfl ?_
                    refine g_iinc F (lv2 := [(5, _), (2, _), (4, _), (3, _), (6, _), (0, _)]) dX9_howMany_91 4 rfl rfl (by decide) rfl ?_
                    refine g_goto F 10 dX9_howMany_94 (by decide) ?_
                    refine g_lv (lv2 := [(5, _), (0, _), (2, _), (3, _), (4, _)]) [0, 5, 1, 3, 2] rfl ?_
                    exact g_is rfl (by rw [nI_8]; rfl) (ihi (i + 1) (by omega))
                · refine g_iconst F (v := 1) dX9_howMany_72 (by decide) ?_
                  refine g_goto F 77 dX9_howMany_73 (by decide) ?_
                  refine g_top (y := isI x (i + 1)) (by first | exact (isI_a b1).symm | exact (isI_b b1 b2 b4).symm | exact (isI_c b2 b4).symm | exact (isI_d b1 b2 b3).symm | exact (isI_e b2 b3).symm) ?_
                  refine g_istore F (lv2 := [(4, _), (3, _), (6, _), (5, _), (0, _), (2, _)]) dX9_howMany_77 (by decide) rfl ?_
                  refine g_iload_n F dX9_howMany_79 rfl 5 rfl ?_
                  refine g_iload_n F dX9_howMany_80 rfl 1 rfl ?_
                  refine g_if_eq F 88 dX9_howMany_81 (by decide) (fun c1 => ?_) (fun c1 => ?_)
                  · refine g_iconst F (v := 1) dX9_howMany_88 (by decide) ?_
                    refine g_top (y := if ¬ enI x (i + 1) = 0 then 0 else 1) (by first | exact (if_pos c1).symm | exact (if_neg (fun z => z c1)).symm) ?_
                    refine g_iadd F dX9_howMany_89 ?_
                    refine g_istore_n F (lv2 := [(2, _), (4, _), (3, _), (6, _), (5, _), (0, _)]) dX9_howMany_90 rfl (by decide) rfl ?_
                    refine g_iinc F (lv2 := [(5, _), (2, _), (4, _), (3, _), (6, _), (0, _)]) dX9_howMany_91 4 rfl rfl (by decide) rfl ?_
                    refine g_goto F 10 dX9_howMany_94 (by decide) ?_
                    refine g_lv (lv2 := [(5, _), (0, _), (2, _), (3, _), (4, _)]) [0, 5, 1, 3, 2] rfl ?_
                    exact g_is rfl (by rw [nI_8]; rfl) (ihi (i + 1) (by omega))
                  · refine g_iconst F (v := 0) dX9_howMany_84 (by decide) ?_
                    refine g_goto F 89 dX9_howMany_85 (by decide) ?_
                    refine g_top (y := if ¬ enI x (i + 1) = 0 then 0 else 1) (by first | exact (if_pos c1).symm | exact (if_neg (fun z => z c1)).symm) ?_
                    refine g_iadd F dX9_howMany_89 ?_
                    refine g_istore_n F (lv2 := [(2, _), (4, _), (3, _), (6, _), (5, _), (0, _)]) dX9_howMany_90 rfl (by decide) rfl ?_
                    refine g_iinc F (lv2 := [(5, _), (2, _), (4, _), (3, _), (6, _), (0, _)]) dX9_howMany_91 4 rfl rfl (by decide) rfl ?_
                    refine g_goto F 10 dX9_howMany_94 (by decide) ?_
                    refine g_lv (lv2 := [(5, _), (0, _), (2, _), (3, _), (4, _)]) [0, 5, 1, 3, 2] rfl ?_
                    exact g_is rfl (by rw [nI_8]; rfl) (ihi (i + 1) (by omega))
              · refine g_iload F dX9_howMany_52 1 rfl ?_
                refine g_if_ne F 76 dX9_howMany_54 (by decide) (fun b3 => ?_) (fun b3 => ?_)
                · refine g_iconst F (v := 0) dX9_howMany_76 (by decide) ?_
                  refine g_top (y := isI x (i + 1)) (by first | exact (isI_a b1).symm | exact (isI_b b1 b2 b4).symm | exact (isI_c b2 b4).symm | exact (isI_d b1 b2 b3).symm | exact (isI_e b2 b3).symm) ?_
                  refine g_istore F (lv2 := [(4, _), (3, _), (6, _), (5, _), (0, _), (2, _)]) dX9_howMany_77 (by decide) rfl ?_
                  refine g_iload_n F dX9_howMany_79 rfl 5 rfl ?_
                  refine g_iload_n F dX9_howMany_80 rfl 1 rfl ?_
                  refine g_if_eq F 88 dX9_howMany_81 (by decide) (fun c1 => ?_) (fun c1 => ?_)
                  · refine g_iconst F (v := 1) dX9_howMany_88 (by decide) ?_
                    refine g_top (y := if ¬ enI x (i + 1) = 0 then 0 else 1) (by first | exact (if_pos c1).symm | exact (if_neg (fun z => z c1)).symm) ?_
                    refine g_iadd F dX9_howMany_89 ?_
                    refine g_istore_n F (lv2 := [(2, _), (4, _), (3, _), (6, _), (5, _), (0, _)]) dX9_howMany_90 rfl (by decide) rfl ?_
                    refine g_iinc F (lv2 := [(5, _), (2, _), (4, _), (3, _), (6, _), (0, _)]) dX9_howMany_91 4 rfl rfl (by decide) rfl ?_
                    refine g_goto F 10 dX9_howMany_94 (by decide) ?_
                    refine g_lv (lv2 := [(5, _), (0, _), (2, _), (3, _), (4, _)]) [0, 5, 1, 3, 2] rfl ?_
                    exact g_is rfl (by rw [nI_8]; rfl) (ihi (i + 1) (by omega))
                  · refine g_iconst F (v := 0) dX9_howMany_84 (by decide) ?_
                    refine g_goto F 89 dX9_howMany_85 (by decide) ?_
                    refine g_top (y := if ¬ enI x (i + 1) = 0 then 0 else 1) (by first | exact (if_pos c1).symm | exact (if_neg (fun z => z c1)).symm) ?_
                    refine g_iadd F dX9_howMany_89 ?_
                    refine g_istore_n F (lv2 := [(2, _), (4, _), (3, _), (6, _), (5, _), (0, _)]) dX9_howMany_90 rfl (by decide) rfl ?_
                    refine g_iinc F (lv2 := [(5, _), (2, _), (4, _), (3, _), (6, _), (0, _)]) dX9_howMany_91 4 rfl rfl (by decide) rfl ?_
                    refine g_goto F 10 dX9_howMany_94 (by decide) ?_
                    refine g_lv (lv2 := [(5, _), (0, _), (2, _), (3, _), (4, _)]) [0, 5, 1, 3, 2] rfl ?_
                    exact g_is rfl (by rw [nI_8]; rfl) (ihi (i + 1) (by omega))
                · refine g_goto F 72 dX9_howMany_57 (by decide) ?_
                  refine g_iconst F (v := 1) dX9_howMany_72 (by decide) ?_
                  refine g_goto F 77 dX9_howMany_73 (by decide) ?_
                  refine g_top (y := isI x (i + 1)) (by first | exact (isI_a b1).symm | exact (isI_b b1 b2 b4).symm | exact (isI_c b2 b4).symm | exact (isI_d b1 b2 b3).symm | exact (isI_e b2 b3).symm) ?_
                  refine g_istore F (lv2 := [(4, _), (3, _), (6, _), (5, _), (0, _), (2, _)]) dX9_howMany_77 (by decide) rfl ?_
                  refine g_iload_n F dX9_howMany_79 rfl 5 rfl ?_
                  refine g_iload_n F dX9_howMany_80 rfl 1 rfl ?_
                  refine g_if_eq F 88 dX9_howMany_81 (by decide) (fun c1 => ?_) (fun c1 => ?_)
                  · refine g_iconst F (v := 1) dX9_howMany_88 (by decide) ?_
                    refine g_top (y := if ¬ enI x (i + 1) = 0 then 0 else 1) (by first | exact (if_pos c1).symm | exact (if_neg (fun z => z c1)).symm) ?_
                    refine g_iadd F dX9_howMany_89 ?_
                    refine g_istore_n F (lv2 := [(2, _), (4, _), (3, _), (6, _), (5, _), (0, _)]) dX9_howMany_90 rfl (by decide) rfl ?_
                    refine g_iinc F (lv2 := [(5, _), (2, _), (4, _), (3, _), (6, _), (0, _)]) dX9_howMany_91 4 rfl rfl (by decide) rfl ?_
                    refine g_goto F 10 dX9_howMany_94 (by decide) ?_
                    refine g_lv (lv2 := [(5, _), (0, _), (2, _), (3, _), (4, _)]) [0, 5, 1, 3, 2] rfl ?_
                    exact g_is rfl (by rw [nI_8]; rfl) (ihi (i + 1) (by omega))
                  · refine g_iconst F (v := 0) dX9_howMany_84 (by decide) ?_
                    refine g_goto F 89 dX9_howMany_85 (by decide) ?_
                    refine g_top (y := if ¬ enI x (i + 1) = 0 then 0 else 1) (by first | exact (if_pos c1).symm | exact (if_neg (fun z => z c1)).symm) ?_
                    refine g_iadd F dX9_howMany_89 ?_
                    refine g_istore_n F (lv2 := [(2, _), (4, _), (3, _), (6, _), (5, _), (0, _)]) dX9_howMany_90 rfl (by decide) rfl ?_
                    refine g_iinc F (lv2 := [(5, _), (2, _), (4, _), (3, _), (6, _), (0, _)]) dX9_howMany_91 4 rfl rfl (by decide) rfl ?_
                    refine g_goto F 10 dX9_howMany_94 (by decide) ?_
                    refine g_lv (lv2 := [(5, _), (0, _), (2, _), (3, _), (4, _)]) [0, 5, 1, 3, 2] rfl ?_
                    exact g_is rfl (by rw [nI_8]; rfl) (ihi (i + 1) (by omega))
          · refine g_iconst F (v := 1) dX9_howMany_37 (by decide) ?_
            refine g_goto F 42 dX9_howMany_38 (by decide) ?_
            refine g_top (y := enI x (i + 1)) (by first | exact (if_pos (Or.inl a1)).symm | exact (if_pos (Or.inr a2)).symm | exact (if_neg (fun z => z.elim (fun q => q a1) a2)).symm) ?_
            refine g_istore_n F (lv2 := [(3, _), (6, _), (5, _), (0, _), (2, _), (4, _)]) dX9_howMany_42 rfl (by decide) rfl ?_
            refine g_iload F dX9_howMany_43 5 rfl ?_
            refine g_if_eq F 76 dX9_howMany_45 (by decide) (fun b1 => ?_) (fun b1 => ?_)
            · refine g_iconst F (v := 0) dX9_howMany_76 (by decide) ?_
              refine g_top (y := isI x (i + 1)) (by first | exact (isI_a b1).symm | exact (isI_b b1 b2 b4).symm | exact (isI_c b2 b4).symm | exact (isI_d b1 b2 b3).symm | exact (isI_e b2 b3).symm) ?_
              refine g_istore F (lv2 := [(4, _), (3, _), (6, _), (5, _), (0, _), (2, _)]) dX9_howMany_77 (by decide) rfl ?_
              refine g_iload_n F dX9_howMany_79 rfl 5 rfl ?_
              refine g_iload_n F dX9_howMany_80 rfl 1 rfl ?_
              refine g_if_eq F 88 dX9_howMany_81 (by decide) (fun c1 => ?_) (fun c1 => ?_)
              · refine g_iconst F (v := 1) dX9_howMany_88 (by decide) ?_
                refine g_top (y := if ¬ enI x (i + 1) = 0 then 0 else 1) (by first | exact (if_pos c1).symm | exact (if_neg (fun z => z c1)).symm) ?_
                refine g_iadd F dX9_howMany_89 ?_
                refine g_istore_n F (lv2 := [(2, _), (4, _), (3, _), (6, _), (5, _), (0, _)]) dX9_howMany_90 rfl (by decide) rfl ?_
                refine g_iinc F (lv2 := [(5, _), (2, _), (4, _), (3, _), (6, _), (0, _)]) dX9_howMany_91 4 rfl rfl (by decide) rfl ?_
                refine g_goto F 10 dX9_howMany_94 (by decide) ?_
                refine g_lv (lv2 := [(5, _), (0, _), (2, _), (3, _), (4, _)]) [0, 5, 1, 3, 2] rfl ?_
                exact g_is rfl (by rw [nI_8]; rfl) (ihi (i + 1) (by omega))
              · refine g_iconst F (v := 0) dX9_howMany_84 (by decide) ?_
                refine g_goto F 89 dX9_howMany_85 (by decide) ?_
                refine g_top (y := if ¬ enI x (i + 1) = 0 then 0 else 1) (by first | exact (if_pos c1).symm | exact (if_neg (fun z => z c1)).symm) ?_
                refine g_iadd F dX9_howMany_89 ?_
                refine g_istore_n F (lv2 := [(2, _), (4, _), (3, _), (6, _), (5, _), (0, _)]) dX9_howMany_90 rfl (by decide) rfl ?_
                refine g_iinc F (lv2 := [(5, _), (2, _), (4, _), (3, _), (6, _), (0, _)]) dX9_howMany_91 4 rfl rfl (by decide) rfl ?_
                refine g_goto F 10 dX9_howMany_94 (by decide) ?_
                refine g_lv (lv2 := [(5, _), (0, _), (2, _), (3, _), (4, _)]) [0, 5, 1, 3, 2] rfl ?_
                exact g_is rfl (by rw [nI_8]; rfl) (ihi (i + 1) (by omega))
            · refine g_iload_n F dX9_howMany_48 rfl 0 rfl ?_
              refine g_if_eq F 60 dX9_howMany_49 (by decide) (fun b2 => ?_) (fun b2 => ?_)
              · refine g_iload F dX9_howMany_60 1 rfl ?_
                refine g_bipush F (v := 33) dX9_howMany_62 (by decide +kernel) ?_
                refine g_bipush F (v := 126) dX9_howMany_64 (by decide +kernel) ?_
                refine g_callS F (kX9_within l _ _ _) (va_cwS 3 F.1.2.2.2.2 gX9_howMany_X9_within rfl rfl rfl (by decide +kernel) ⟨Nat.le_of_ble_eq_true rfl, Nat.le_of_ble_eq_true rfl⟩) rfl rfl rfl (Nat.le_of_ble_eq_true rfl) dX9_howMany_66 ⟨Nat.le_of_ble_eq_true rfl, Nat.le_of_ble_eq_true rfl⟩ (g_det ?_)
                refine g_ifB_eq F 76 dX9_howMany_69 (by decide) (fun b4 => ?_) (fun b4 => ?_)
                · refine g_iconst F (v := 0) dX9_howMany_76 (by decide) ?_
                  refine g_top (y := isI x (i + 1)) (by first | exact (isI_a b1).symm | exact (isI_b b1 b2 b4).symm | exact (isI_c b2 b4).symm | exact (isI_d b1 b2 b3).symm | exact (isI_e b2 b3).symm) ?_
                  refine g_istore F (lv2 := [(4, _), (3, _), (6, _), (5, _), (0, _), (2, _)]) dX9_howMany_77 (by decide) rfl ?_
                  refine g_iload_n F dX9_howMany_79 rfl 5 rfl ?_
                  refine g_iload_n F dX9_howMany_80 rfl 1 rfl ?_
                  refine g_if_eq F 88 dX9_howMany_81 (by decide) (fun c1 => ?_) (fun c1 => ?_)
                  · refine g_iconst F (v := 1) dX9_howMany_88 (by decide) ?_
                    refine g_top (y := if ¬ enI x (i + 1) = 0 then 0 else 1) (by first | exact (if_pos c1).symm | exact (if_neg (fun z => z c1)).symm) ?_
                    refine g_iadd F dX9_howMany_89 ?_
                    refine g_istore_n F (lv2 := [(2, _), (4, _), (3, _), (6, _), (5, _), (0, _)]) dX9_howMany_90 rfl (by decide) rfl ?_
                    refine g_iinc F (lv2 := [(5, _), (2, _), (4, _), (3, _), (6, _), (0, _)]) dX9_howMany_91 4 rfl rfl (by decide) rfl ?_
                    refine g_goto F 10 dX9_howMany_94 (by decide) ?_
                    refine g_lv (lv2 := [(5, _), (0, _), (2, _), (3, _), (4, _)]) [0, 5, 1, 3, 2] rfl ?_
                    exact g_is rfl (by rw [nI_8]; rfl) (ihi (i + 1) (by omega))
                  · refine g_iconst F (v := 0) dX9_howMany_84 (by decide) ?_
                    refine g_goto F 89 dX9_howMany_85 (by decide) ?_
                    refine g_top (y := if ¬ enI x (i + 1) = 0 then 0 else 1) (by first | exact (if_pos c1).symm | exact (if_neg (fun z => z c1)).symm) ?_
                    refine g_iadd F dX9_howMany_89 ?_
                    refine g_istore_n F (lv2 := [(2, _), (4, _), (3, _), (6, _), (5, _), (0, _)]) dX9_howMany_90 rfl (by decide) rfl ?_
                    refine g_iinc F (lv2 := [(5, _), (2, _), (4, _), (3, _), (6, _), (0, _)]) dX9_howMany_91 4 rfl rfl (by decide) rfl ?_
                    refine g_goto F 10 dX9_howMany_94 (by decide) ?_
                    refine g_lv (lv2 := [(5, _), (0, _), (2, _), (3, _), (4, _)]) [0, 5, 1, 3, 2] rfl ?_
                    exact g_is rfl (by rw [nI_8]; rfl) (ihi (i + 1) (by omega))
                · refine g_iconst F (v := 1) dX9_howMany_72 (by decide) ?_
                  refine g_goto F 77 dX9_howMany_73 (by decide) ?_
                  refine g_top (y := isI x (i + 1)) (by first | exact (isI_a b1).symm | exact (isI_b b1 b2 b4).symm | exact (isI_c b2 b4).symm | exact (isI_d b1 b2 b3).symm | exact (isI_e b2 b3).symm) ?_
                  refine g_istore F (lv2 := [(4, _), (3, _), (6, _), (5, _), (0, _), (2, _)]) dX9_howMany_77 (by decide) rfl ?_
                  refine g_iload_n F dX9_howMany_79 rfl 5 rfl ?_
                  refine g_iload_n F dX9_howMany_80 rfl 1 rfl ?_
                  refine g_if_eq F 88 dX9_howMany_81 (by decide) (fun c1 => ?_) (fun c1 => ?_)
                  · refine g_iconst F (v := 1) dX9_howMany_88 (by decide) ?_
                    refine g_top (y := if ¬ enI x (i + 1) = 0 then 0 else 1) (by first | exact (if_pos c1).symm | exact (if_neg (fun z => z c1)).symm) ?_
                    refine g_iadd F dX9_howMany_89 ?_
                    refine g_istore_n F (lv2 := [(2, _), (4, _), (3, _), (6, _), (5, _), (0, _)]) dX9_howMany_90 rfl (by decide) rfl ?_
                    refine g_iinc F (lv2 := [(5, _), (2, _), (4, _), (3, _), (6, _), (0, _)]) dX9_howMany_91 4 rfl rfl (by decide) rfl ?_
                    refine g_goto F 10 dX9_howMany_94 (by decide) ?_
                    refine g_lv (lv2 := [(5, _), (0, _), (2, _), (3, _), (4, _)]) [0, 5, 1, 3, 2] rfl ?_
                    exact g_is rfl (by rw [nI_8]; rfl) (ihi (i + 1) (by omega))
                  · refine g_iconst F (v := 0) dX9_howMany_84 (by decide) ?_
                    refine g_goto F 89 dX9_howMany_85 (by decide) ?_
                    refine g_top (y := if ¬ enI x (i + 1) = 0 then 0 else 1) (by first | exact (if_pos c1).symm | exact (if_neg (fun z => z c1)).symm) ?_
                    refine g_iadd F dX9_howMany_89 ?_
                    refine g_istore_n F (lv2 := [(2, _), (4, _), (3, _), (6, _), (5, _), (0, _)]) dX9_howMany_90 rfl (by decide) rfl ?_
                    refine g_iinc F (lv2 := [(5, _), (2, _), (4, _), (3, _), (6, _), (0, _)]) dX9_howMany_91 4 rfl rfl (by decide) rfl ?_
                    refine g_goto F 10 dX9_howMany_94 (by decide) ?_
                    refine g_lv (lv2 := [(5, _), (0, _), (2, _), (3, _), (4, _)]) [0, 5, 1, 3, 2] rfl ?_
                    exact g_is rfl (by rw [nI_8]; rfl) (ihi (i + 1) (by omega))
              · refine g_iload F dX9_howMany_52 1 rfl ?_
                refine g_if_ne F 76 dX9_howMany_54 (by decide) (fun b3 => ?_) (fun b3 => ?_)
                · refine g_iconst F (v := 0) dX9_howMany_76 (by decide) ?_
                  refine g_top (y := isI x (i + 1)) (by first | exact (isI_a b1).symm | exact (isI_b b1 b2 b4).symm | exact (isI_c b2 b4).symm | exact (isI_d b1 b2 b3).symm | exact (isI_e b2 b3).symm) ?_
                  refine g_istore F (lv2 := [(4, _), (3, _), (6, _), (5, _), (0, _), (2, _)]) dX9_howMany_77 (by decide) rfl ?_
                  refine g_iload_n F dX9_howMany_79 rfl 5 rfl ?_
                  refine g_iload_n F dX9_howMany_80 rfl 1 rfl ?_
                  refine g_if_eq F 88 dX9_howMany_81 (by decide) (fun c1 => ?_) (fun c1 => ?_)
                  · refine g_iconst F (v := 1) dX9_howMany_88 (by decide) ?_
                    refine g_top (y := if ¬ enI x (i + 1) = 0 then 0 else 1) (by first | exact (if_pos c1).symm | exact (if_neg (fun z => z c1)).symm) ?_
                    refine g_iadd F dX9_howMany_89 ?_
                    refine g_istore_n F (lv2 := [(2, _), (4, _), (3, _), (6, _), (5, _), (0, _)]) dX9_howMany_90 rfl (by decide) rfl ?_
                    refine g_iinc F (lv2 := [(5, _), (2, _), (4, _), (3, _), (6, _), (0, _)]) dX9_howMany_91 4 rfl rfl (by decide) rfl ?_
                    refine g_goto F 10 dX9_howMany_94 (by decide) ?_
                    refine g_lv (lv2 := [(5, _), (0, _), (2, _), (3, _), (4, _)]) [0, 5, 1, 3, 2] rfl ?_
                    exact g_is rfl (by rw [nI_8]; rfl) (ihi (i + 1) (by omega))
                  · refine g_iconst F (v := 0) dX9_howMany_84 (by decide) ?_
                    refine g_goto F 89 dX9_howMany_85 (by decide) ?_
                    refine g_top (y := if ¬ enI x (i + 1) = 0 then 0 else 1) (by first | exact (if_pos c1).symm | exact (if_neg (fun z => z c1)).symm) ?_
                    refine g_iadd F dX9_howMany_89 ?_
                    refine g_istore_n F (lv2 := [(2, _), (4, _), (3, _), (6, _), (5, _), (0, _)]) dX9_howMany_90 rfl (by decide) rfl ?_
                    refine g_iinc F (lv2 := [(5, _), (2, _), (4, _), (3, _), (6, _), (0, _)]) dX9_howMany_91 4 rfl rfl (by decide) rfl ?_
                    refine g_goto F 10 dX9_howMany_94 (by decide) ?_
                    refine g_lv (lv2 := [(5, _), (0, _), (2, _), (3, _), (4, _)]) [0, 5, 1, 3, 2] rfl ?_
                    exact g_is rfl (by rw [nI_8]; rfl) (ihi (i + 1) (by omega))
                · refine g_goto F 72 dX9_howMany_57 (by decide) ?_
                  refine g_iconst F (v := 1) dX9_howMany_72 (by decide) ?_
                  refine g_goto F 77 dX9_howMany_73 (by decide) ?_
                  refine g_top (y := isI x (i + 1)) (by first | exact (isI_a b1).symm | exact (isI_b b1 b2 b4).symm | exact (isI_c b2 b4).symm | exact (isI_d b1 b2 b3).symm | exact (isI_e b2 b3).symm) ?_
                  refine g_istore F (lv2 := [(4, _), (3, _), (6, _), (5, _), (0, _), (2, _)]) dX9_howMany_77 (by decide) rfl ?_
                  refine g_iload_n F dX9_howMany_79 rfl 5 rfl ?_
                  refine g_iload_n F dX9_howMany_80 rfl 1 rfl ?_
                  refine g_if_eq F 88 dX9_howMany_81 (by decide) (fun c1 => ?_) (fun c1 => ?_)
                  · refine g_iconst F (v := 1) dX9_howMany_88 (by decide) ?_
                    refine g_top (y := if ¬ enI x (i + 1) = 0 then 0 else 1) (by first | exact (if_pos c1).symm | exact (if_neg (fun z => z c1)).symm) ?_
                    refine g_iadd F dX9_howMany_89 ?_
                    refine g_istore_n F (lv2 := [(2, _), (4, _), (3, _), (6, _), (5, _), (0, _)]) dX9_howMany_90 rfl (by decide) rfl ?_
                    refine g_iinc F (lv2 := [(5, _), (2, _), (4, _), (3, _), (6, _), (0, _)]) dX9_howMany_91 4 rfl rfl (by decide) rfl ?_
                    refine g_goto F 10 dX9_howMany_94 (by decide) ?_
                    refine g_lv (lv2 := [(5, _), (0, _), (2, _), (3, _), (4, _)]) [0, 5, 1, 3, 2] rfl ?_
                    exact g_is rfl (by rw [nI_8]; rfl) (ihi (i + 1) (by omega))
                  · refine g_iconst F (v := 0) dX9_howMany_84 (by decide) ?_
                    refine g_goto F 89 dX9_howMany_85 (by decide) ?_
                    refine g_top (y := if ¬ enI x (i + 1) = 0 then 0 else 1) (by first | exact (if_pos c1).symm | exact (if_neg (fun z => z c1)).symm) ?_
                    refine g_iadd F dX9_howMany_89 ?_
                    refine g_istore_n F (lv2 := [(2, _), (4, _), (3, _), (6, _), (5, _), (0, _)]) dX9_howMany_90 rfl (by decide) rfl ?_
                    refine g_iinc F (lv2 := [(5, _), (2, _), (4, _), (3, _), (6, _), (0, _)]) dX9_howMany_91 4 rfl rfl (by decide) rfl ?_
                    refine g_goto F 10 dX9_howMany_94 (by decide) ?_
                    refine g_lv (lv2 := [(5, _), (0, _), (2, _), (3, _), (4, _)]) [0, 5, 1, 3, 2] rfl ?_
                    exact g_is rfl (by rw [nI_8]; rfl) (ihi (i + 1) (by omega))
  refine g_lv (lv2 := [(5, _), (0, _), (2, _), (3, _), (4, _)]) [0, 4, 3, 2, 1] rfl ?_
  exact g_is rfl rfl (LP (8 - 0) (0) (by omega))
