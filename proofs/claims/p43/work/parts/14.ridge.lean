/-- places in a ridge, as the walks name them -/
abbrev chP (r c : Nat) : Nat := r + 1 + 6 + 5 * c
abbrev obP (r k : Nat) : Nat := r + 2 + 45 + 1 * k
abbrev noP (r e : Nat) : Nat := r + 3 + 47 + 1 * e
def stnF (M : Mm) (r : Nat) : Nat → Int32
  | 0 => 0
  | e + 1 => if M (noP r e) 5 = 0 then stnF M r e else stnF M r e + 1
def stdF (M : Mm) (r : Nat) (x : Int32) : Nat → Int32
  | 0 => 0
  | e + 1 => if M (noP r e) 5 = 0 then stdF M r x e else if M (noP r e) 0 = x then stdF M r x e + 1 else stdF M r x e
def finF (M : Mm) (r : Nat) (x : Int32) : Nat → Int32
  | 0 => 0
  | e + 1 => if M (noP r e) 5 = 0 then finF M r x e else if M (noP r e) 0 = x then finF M r x e + M (noP r e) 1 else finF M r x e
def mfF (g : Nat → Int32) : Nat → Int32 × Int32
  | 0 => (-1, 0)
  | c + 1 => if g c ≤ (mfF g c).2 then mfF g c else (nI c, g c)

abbrev rmX6_standingCount : Room := { frames := 0, cells := 0, slots := 0, locals := 0 }
theorem iX6_standingCount_3 : ∀ w ∈ u_ws RX3 TX3 6, w ∈ wsX6_standingCount := by decide +kernel
theorem iX6_standingCount_6 : ∀ w ∈ u_ws RX6 TX6 10, w ∈ wsX6_standingCount := by decide +kernel
set_option maxHeartbeats 4000000 in
set_option maxRecDepth 100000 in
theorem kX6_standingCount (l : Launch) {M : Mm} {r : Nat} (hr : isR 6 r) (n : Nat) (hn : M r 5 = nI n) (hn20 : n ≤ 20) : Ct l yX6_standingCount wsX6_standingCount rmX6_standingCount (fun B => [.ref (B + r)]) M (fun _ v u => v = some (.int (stnF M r n)) ∧ u = M) := by
  refine Ct.ofI (own := RX6) (by decide +kernel) rfl rfl (fun B => Nat.le_of_ble_eq_true rfl) ?_
  intro pp ee ss mm aa bb me c9 DD ca B Tl AA QQ F K
  show G pp l ee rmX6_standingCount ss mm aa bb me c9 QQ DD ca B Tl AA 3 0 0 M 0 [(0, .ref (B + r))] []
  refine g_iconst F (v := 0) dX6_standingCount_0 (by decide) ?_
  refine g_istore_n F (lv2 := [(1, _), (0, _)]) dX6_standingCount_1 rfl (by decide) rfl ?_
  refine g_iconst F (v := 0) dX6_standingCount_2 (by decide) ?_
  refine g_istore_n F (lv2 := [(2, _), (1, _), (0, _)]) dX6_standingCount_3 rfl (by decide) rfl ?_
  have LP : ∀ (ni i : Nat), i + ni = n → G pp l ee rmX6_standingCount ss mm aa bb me c9 QQ DD ca B Tl AA 3 0 0 (M) 4 [(2, .int (nI i)), (0, .ref (B + r)), (1, .int (stnF M r i))] [] := by
    intro ni
    induction ni with
    | zero =>
      intro i hni
      refine g_iload_n F dX6_standingCount_4 rfl 0 rfl ?_
      refine g_bipush F (v := 20) dX6_standingCount_5 (by decide +kernel) ?_
      refine g_icmpN_ge F 39 dX6_standingCount_7 (by decide) (i) (20) rfl rfl (by omega) (by omega) (fun hci => ?_) (fun hci => ?_)
      · obtain rfl : i = n := by omega
        refine g_iload_n F dX6_standingCount_39 rfl 2 rfl ?_
        exact K _ _ _ _ dX6_standingCount_40 rfl ⟨rfl, rfl⟩
      · refine g_iload_n F dX6_standingCount_10 rfl 0 rfl ?_
        refine g_aload_n F dX6_standingCount_11 rfl 1 rfl ?_
        refine gg6_noticeCount F iX6_standingCount_6 hr (by decide +kernel) dX6_standingCount_12 ?_
        refine g_top hn ?_
        refine g_icmpN_ge F 39 dX6_standingCount_15 (by decide) (i) (n) rfl rfl (by omega) (by omega) (fun hci => ?_) (fun hci => ?_)
        · obtain rfl : i = n := by omega
          refine g_iload_n F dX6_standingCount_39 rfl 2 rfl ?_
          exact K _ _ _ _ dX6_standingCount_40 rfl ⟨rfl, rfl⟩
        · exact absurd hci (by omega)
    | succ ni ihi =>
      intro i hni
      refine g_iload_n F dX6_standingCount_4 rfl 0 rfl ?_
      refine g_bipush F (v := 20) dX6_standingCount_5 (by decide +kernel) ?_
      refine g_icmpN_ge F 39 dX6_standingCount_7 (by decide) (i) (20) rfl rfl (by omega) (by omega) (fun hci => ?_) (fun hci => ?_)
      · exact absurd hci (by omega)
      · refine g_iload_n F dX6_standingCount_10 rfl 0 rfl ?_
        refine g_aload_n F dX6_standingCount_11 rfl 1 rfl ?_
        refine gg6_noticeCount F iX6_standingCount_6 hr (by decide +kernel) dX6_standingCount_12 ?_
        refine g_top hn ?_
        refine g_icmpN_ge F 39 dX6_standingCount_15 (by decide) (i) (n) rfl rfl (by omega) (by omega) (fun hci1 => ?_) (fun hci1 => ?_)
        · exact absurd hci1 (by omega)
        · refine g_aload_n F dX6_standingCount_18 rfl 1 rfl ?_
          refine gg6_notes F iX6_standingCount_6 hr (by decide +kernel) dX6_standingCount_19 ?_
          refine g_iload_n F dX6_standingCount_22 rfl 0 rfl ?_
          refine g_aaload13 F (sb6 hr).2.2.1 (i) rfl (by omega) dX6_standingCount_23 ?_
          refine gg3_standing F iX6_standingCount_3 (el13 (sb6 hr).2.2.1 (by omega)) (by decide +kernel) dX6_standingCount_24 ?_
          refine g_if_eq F 33 dX6_standingCount_27 (by decide) (fun h3 => ?_) (fun h3 => ?_)
          · refine g_iinc F (lv2 := [(2, _), (0, _), (1, _)]) dX6_standingCount_33 0 rfl (nI_1 _) (by decide) rfl ?_
            refine g_goto F 4 dX6_standingCount_36 (by decide) ?_
            refine g_lv (lv2 := [(2, _), (0, _), (1, _)]) [0, 1, 2] rfl ?_
            exact g_is rfl (by simp only [stnF, h3, if_true, if_false] <;> rfl) (ihi (i + 1) (by omega))
          · refine g_iinc F (lv2 := [(1, _), (2, _), (0, _)]) dX6_standingCount_30 2 rfl rfl (by decide) rfl ?_
            refine g_iinc F (lv2 := [(2, _), (1, _), (0, _)]) dX6_standingCount_33 1 rfl (nI_1 _) (by decide) rfl ?_
            refine g_goto F 4 dX6_standingCount_36 (by decide) ?_
            refine g_lv (lv2 := [(2, _), (0, _), (1, _)]) [0, 2, 1] rfl ?_
            exact g_is rfl (by simp only [stnF, h3, if_true, if_false] <;> rfl) (ihi (i + 1) (by omega))
  refine g_lv (lv2 := [(2, _), (0, _), (1, _)]) [0, 2, 1] rfl ?_
  exact g_is rfl rfl (LP (n - 0) (0) (by omega))

abbrev rmX6_standingOf : Room := { frames := 0, cells := 0, slots := 0, locals := 0 }
theorem iX6_standingOf_3 : ∀ w ∈ u_ws RX3 TX3 6, w ∈ wsX6_standingOf := by decide +kernel
theorem iX6_standingOf_6 : ∀ w ∈ u_ws RX6 TX6 10, w ∈ wsX6_standingOf := by decide +kernel
set_option maxHeartbeats 4000000 in
set_option maxRecDepth 100000 in
theorem kX6_standingOf (l : Launch) {M : Mm} {r : Nat} (hr : isR 6 r) (n : Nat) (hn : M r 5 = nI n) (hn20 : n ≤ 20) (x : Int32) : Ct l yX6_standingOf wsX6_standingOf rmX6_standingOf (fun B => [.ref (B + r), .int x]) M (fun _ v u => v = some (.int (stdF M r x n)) ∧ u = M) := by
  refine Ct.ofI (own := RX6) (by decide +kernel) rfl rfl (fun B => Nat.le_of_ble_eq_true rfl) ?_
  intro pp ee ss mm aa bb me c9 DD ca B Tl AA QQ F K
  show G pp l ee rmX6_standingOf ss mm aa bb me c9 QQ DD ca B Tl AA 4 0 0 M 0 [(0, .ref (B + r)), (1, .int x)] []
  refine g_iconst F (v := 0) dX6_standingOf_0 (by decide) ?_
  refine g_istore_n F (lv2 := [(2, _), (0, _), (1, _)]) dX6_standingOf_1 rfl (by decide) rfl ?_
  refine g_iconst F (v := 0) dX6_standingOf_2 (by decide) ?_
  refine g_istore_n F (lv2 := [(3, _), (2, _), (0, _), (1, _)]) dX6_standingOf_3 rfl (by decide) rfl ?_
  have LP : ∀ (ni i : Nat), i + ni = n → G pp l ee rmX6_standingOf ss mm aa bb me c9 QQ DD ca B Tl AA 4 0 0 (M) 4 [(3, .int (nI i)), (0, .ref (B + r)), (1, .int x), (2, .int (stdF M r x i))] [] := by
    intro ni
    induction ni with
    | zero =>
      intro i hni
      refine g_iload_n F dX6_standingOf_4 rfl 0 rfl ?_
      refine g_bipush F (v := 20) dX6_standingOf_5 (by decide +kernel) ?_
      refine g_icmpN_ge F 52 dX6_standingOf_7 (by decide) (i) (20) rfl rfl (by omega) (by omega) (fun hci => ?_) (fun hci => ?_)
      · obtain rfl : i = n := by omega
        refine g_iload_n F dX6_standingOf_52 rfl 3 rfl ?_
        exact K _ _ _ _ dX6_standingOf_53 rfl ⟨rfl, rfl⟩
      · refine g_iload_n F dX6_standingOf_10 rfl 0 rfl ?_
        refine g_aload_n F dX6_standingOf_11 rfl 1 rfl ?_
        refine gg6_noticeCount F iX6_standingOf_6 hr (by decide +kernel) dX6_standingOf_12 ?_
        refine g_top hn ?_
        refine g_icmpN_ge F 52 dX6_standingOf_15 (by decide) (i) (n) rfl rfl (by omega) (by omega) (fun hci => ?_) (fun hci => ?_)
        · obtain rfl : i = n := by omega
          refine g_iload_n F dX6_standingOf_52 rfl 3 rfl ?_
          exact K _ _ _ _ dX6_standingOf_53 rfl ⟨rfl, rfl⟩
        · exact absurd hci (by omega)
    | succ ni ihi =>
      intro i hni
      refine g_iload_n F dX6_standingOf_4 rfl 0 rfl ?_
      refine g_bipush F (v := 20) dX6_standingOf_5 (by decide +kernel) ?_
      refine g_icmpN_ge F 52 dX6_standingOf_7 (by decide) (i) (20) rfl rfl (by omega) (by omega) (fun hci => ?_) (fun hci => ?_)
      · exact absurd hci (by omega)
      · refine g_iload_n F dX6_standingOf_10 rfl 0 rfl ?_
        refine g_aload_n F dX6_standingOf_11 rfl 1 rfl ?_
        refine gg6_noticeCount F iX6_standingOf_6 hr (by decide +kernel) dX6_standingOf_12 ?_
        refine g_top hn ?_
        refine g_icmpN_ge F 52 dX6_standingOf_15 (by decide) (i) (n) rfl rfl (by omega) (by omega) (fun hci1 => ?_) (fun hci1 => ?_)
        · exact absurd hci1 (by omega)
        · refine g_aload_n F dX6_standingOf_18 rfl 1 rfl ?_
          refine gg6_notes F iX6_standingOf_6 hr (by decide +kernel) dX6_standingOf_19 ?_
          refine g_iload_n F dX6_standingOf_22 rfl 0 rfl ?_
          refine g_aaload13 F (sb6 hr).2.2.1 (i) rfl (by omega) dX6_standingOf_23 ?_
          refine gg3_standing F iX6_standingOf_3 (el13 (sb6 hr).2.2.1 (by omega)) (by decide +kernel) dX6_standingOf_24 ?_
          refine g_if_eq F 46 dX6_standingOf_27 (by decide) (fun h3 => ?_) (fun h3 => ?_)
          · refine g_iinc F (lv2 := [(3, _), (0, _), (1, _), (2, _)]) dX6_standingOf_46 0 rfl (nI_1 _) (by decide) rfl ?_
            refine g_goto F 4 dX6_standingOf_49 (by decide) ?_
            refine g_lv (lv2 := [(3, _), (0, _), (1, _), (2, _)]) [0, 1, 2, 3] rfl ?_
            exact g_is rfl (by simp only [stdF, h3, if_true, if_false] <;> rfl) (ihi (i + 1) (by omega))
          · refine g_aload_n F dX6_standingOf_30 rfl 1 rfl ?_
            refine gg6_notes F iX6_standingOf_6 hr (by decide +kernel) dX6_standingOf_31 ?_
            refine g_iload_n F dX6_standingOf_34 rfl 0 rfl ?_
            refine g_aaload13 F (sb6 hr).2.2.1 (i) rfl (by omega) dX6_standingOf_35 ?_
            refine gg3_chimney F iX6_standingOf_3 (el13 (sb6 hr).2.2.1 (by omega)) (by decide +kernel) dX6_standingOf_36 ?_
            refine g_iload_n F dX6_standingOf_39 rfl 2 rfl ?_
            refine g_icmp_ne F 46 dX6_standingOf_40 (by decide) (fun h4 => ?_) (fun h4 => ?_)
            · refine g_iinc F (lv2 := [(3, _), (0, _), (1, _), (2, _)]) dX6_standingOf_46 0 rfl (nI_1 _) (by decide) rfl ?_
              refine g_goto F 4 dX6_standingOf_49 (by decide) ?_
              refine g_lv (lv2 := [(3, _), (0, _), (1, _), (2, _)]) [0, 1, 2, 3] rfl ?_
              exact g_is rfl (by simp only [stdF, h3, h4, if_true, if_false] <;> rfl) (ihi (i + 1) (by omega))
            · refine g_iinc F (lv2 := [(2, _), (3, _), (0, _), (1, _)]) dX6_standingOf_43 3 rfl rfl (by decide) rfl ?_
              refine g_iinc F (lv2 := [(3, _), (2, _), (0, _), (1, _)]) dX6_standingOf_46 1 rfl (nI_1 _) (by decide) rfl ?_
              refine g_goto F 4 dX6_standingOf_49 (by decide) ?_
              refine g_lv (lv2 := [(3, _), (0, _), (1, _), (2, _)]) [0, 2, 3, 1] rfl ?_
              exact g_is rfl (by simp only [stdF, h3, h4, if_true, if_false] <;> rfl) (ihi (i + 1) (by omega))
  refine g_lv (lv2 := [(3, _), (0, _), (1, _), (2, _)]) [0, 2, 3, 1] rfl ?_
  exact g_is rfl rfl (LP (n - 0) (0) (by omega))

abbrev rmX6_finesByNotices : Room := { frames := 0, cells := 0, slots := 0, locals := 0 }
theorem iX6_finesByNotices_3 : ∀ w ∈ u_ws RX3 TX3 6, w ∈ wsX6_finesByNotices := by decide +kernel
theorem iX6_finesByNotices_6 : ∀ w ∈ u_ws RX6 TX6 10, w ∈ wsX6_finesByNotices := by decide +kernel
set_option maxHeartbeats 4000000 in
set_option maxRecDepth 100000 in
theorem kX6_finesByNotices (l : Launch) {M : Mm} {r : Nat} (hr : isR 6 r) (n : Nat) (hn : M r 5 = nI n) (hn20 : n ≤ 20) (x : Int32) : Ct l yX6_finesByNotices wsX6_finesByNotices rmX6_finesByNotices (fun B => [.ref (B + r), .int x]) M (fun _ v u => v = some (.int (finF M r x n)) ∧ u = M) := by
  refine Ct.ofI (own := RX6) (by decide +kernel) rfl rfl (fun B => Nat.le_of_ble_eq_true rfl) ?_
  intro pp ee ss mm aa bb me c9 DD ca B Tl AA QQ F K
  show G pp l ee rmX6_finesByNotices ss mm aa bb me c9 QQ DD ca B Tl AA 4 0 0 M 0 [(0, .ref (B + r)), (1, .int x)] []
  refine g_iconst F (v := 0) dX6_finesByNotices_0 (by decide) ?_
  refine g_istore_n F (lv2 := [(2, _), (0, _), (1, _)]) dX6_finesByNotices_1 rfl (by decide) rfl ?_
  refine g_iconst F (v := 0) dX6_finesByNotices_2 (by decide) ?_
  refine g_istore_n F (lv2 := [(3, _), (2, _), (0, _), (1, _)]) dX6_finesByNotices_3 rfl (by decide) rfl ?_
  have LP : ∀ (ni i : Nat), i + ni = n → G pp l ee rmX6_finesByNotices ss mm aa bb me c9 QQ DD ca B Tl AA 4 0 0 (M) 4 [(3, .int (nI i)), (0, .ref (B + r)), (1, .int x), (2, .int (finF M r x i))] [] := by
    intro ni
    induction ni with
    | zero =>
      intro i hni
      refine g_iload_n F dX6_finesByNotices_4 rfl 0 rfl ?_
      refine g_bipush F (v := 20) dX6_finesByNotices_5 (by decide +kernel) ?_
      refine g_icmpN_ge F 61 dX6_finesByNotices_7 (by decide) (i) (20) rfl rfl (by omega) (by omega) (fun hci => ?_) (fun hci => ?_)
      · obtain rfl : i = n := by omega
        refine g_iload_n F dX6_finesByNotices_61 rfl 3 rfl ?_
        exact K _ _ _ _ dX6_finesByNotices_62 rfl ⟨rfl, rfl⟩
      · refine g_iload_n F dX6_finesByNotices_10 rfl 0 rfl ?_
        refine g_aload_n F dX6_finesByNotices_11 rfl 1 rfl ?_
        refine gg6_noticeCount F iX6_finesByNotices_6 hr (by decide +kernel) dX6_finesByNotices_12 ?_
        refine g_top hn ?_
        refine g_icmpN_ge F 61 dX6_finesByNotices_15 (by decide) (i) (n) rfl rfl (by omega) (by omega) (fun hci => ?_) (fun hci => ?_)
        · obtain rfl : i = n := by omega
          refine g_iload_n F dX6_finesByNotices_61 rfl 3 rfl ?_
          exact K _ _ _ _ dX6_finesByNotices_62 rfl ⟨rfl, rfl⟩
        · exact absurd hci (by omega)
    | succ ni ihi =>
      intro i hni
      refine g_iload_n F dX6_finesByNotices_4 rfl 0 rfl ?_
      refine g_bipush F (v := 20) dX6_finesByNotices_5 (by decide +kernel) ?_
      refine g_icmpN_ge F 61 dX6_finesByNotices_7 (by decide) (i) (20) rfl rfl (by omega) (by omega) (fun hci => ?_) (fun hci => ?_)
      · exact absurd hci (by omega)
      · refine g_iload_n F dX6_finesByNotices_10 rfl 0 rfl ?_
        refine g_aload_n F dX6_finesByNotices_11 rfl 1 rfl ?_
        refine gg6_noticeCount F iX6_finesByNotices_6 hr (by decide +kernel) dX6_finesByNotices_12 ?_
        refine g_top hn ?_
        refine g_icmpN_ge F 61 dX6_finesByNotices_15 (by decide) (i) (n) rfl rfl (by omega) (by omega) (fun hci1 => ?_) (fun hci1 => ?_)
        · exact absurd hci1 (by omega)
        · refine g_aload_n F dX6_finesByNotices_18 rfl 1 rfl ?_
          refine gg6_notes F iX6_finesByNotices_6 hr (by decide +kernel) dX6_finesByNotices_19 ?_
          refine g_iload_n F dX6_finesByNotices_22 rfl 0 rfl ?_
          refine g_aaload13 F (sb6 hr).2.2.1 (i) rfl (by omega) dX6_finesByNotices_23 ?_
          refine gg3_standing F iX6_finesByNotices_3 (el13 (sb6 hr).2.2.1 (by omega)) (by decide +kernel) dX6_finesByNotices_24 ?_
          refine g_if_eq F 55 dX6_finesByNotices_27 (by decide) (fun h3 => ?_) (fun h3 => ?_)
          · refine g_iinc F (lv2 := [(3, _), (0, _), (1, _), (2, _)]) dX6_finesByNotices_55 0 rfl (nI_1 _) (by decide) rfl ?_
            refine g_goto F 4 dX6_finesByNotices_58 (by decide) ?_
            refine g_lv (lv2 := [(3, _), (0, _), (1, _), (2, _)]) [0, 1, 2, 3] rfl ?_
            exact g_is rfl (by simp only [finF, h3, if_true, if_false] <;> rfl) (ihi (i + 1) (by omega))
          · refine g_aload_n F dX6_finesByNotices_30 rfl 1 rfl ?_
            refine gg6_notes F iX6_finesByNotices_6 hr (by decide +kernel) dX6_finesByNotices_31 ?_
            refine g_iload_n F dX6_finesByNotices_34 rfl 0 rfl ?_
            refine g_aaload13 F (sb6 hr).2.2.1 (i) rfl (by omega) dX6_finesByNotices_35 ?_
            refine gg3_chimney F iX6_finesByNotices_3 (el13 (sb6 hr).2.2.1 (by omega)) (by decide +kernel) dX6_finesByNotices_36 ?_
            refine g_iload_n F dX6_finesByNotices_39 rfl 2 rfl ?_
            refine g_icmp_ne F 55 dX6_finesByNotices_40 (by decide) (fun h4 => ?_) (fun h4 => ?_)
            · refine g_iinc F (lv2 := [(3, _), (0, _), (1, _), (2, _)]) dX6_finesByNotices_55 0 rfl (nI_1 _) (by decide) rfl ?_
              refine g_goto F 4 dX6_finesByNotices_58 (by decide) ?_
              refine g_lv (lv2 := [(3, _), (0, _), (1, _), (2, _)]) [0, 1, 2, 3] rfl ?_
              exact g_is rfl (by simp only [finF, h3, h4, if_true, if_false] <;> rfl) (ihi (i + 1) (by omega))
            · refine g_iload_n F dX6_finesByNotices_43 rfl 3 rfl ?_
              refine g_aload_n F dX6_finesByNotices_44 rfl 1 rfl ?_
              refine gg6_notes F iX6_finesByNotices_6 hr (by decide +kernel) dX6_finesByNotices_45 ?_
              refine g_iload_n F dX6_finesByNotices_48 rfl 0 rfl ?_
              refine g_aaload13 F (sb6 hr).2.2.1 (i) rfl (by omega) dX6_finesByNotices_49 ?_
              refine gg3_fine F iX6_finesByNotices_3 (el13 (sb6 hr).2.2.1 (by omega)) (by decide +kernel) dX6_finesByNotices_50 ?_
              refine g_iadd F dX6_finesByNotices_53 ?_
              refine g_istore_n F (lv2 := [(2, _), (3, _), (0, _), (1, _)]) dX6_finesByNotices_54 rfl (by decide) rfl ?_
              refine g_iinc F (lv2 := [(3, _), (2, _), (0, _), (1, _)]) dX6_finesByNotices_55 1 rfl (nI_1 _) (by decide) rfl ?_
              refine g_goto F 4 dX6_finesByNotices_58 (by decide) ?_
              refine g_lv (lv2 := [(3, _), (0, _), (1, _), (2, _)]) [0, 2, 3, 1] rfl ?_
              exact g_is rfl (by simp only [finF, h3, h4, if_true, if_false] <;> rfl) (ihi (i + 1) (by omega))
  refine g_lv (lv2 := [(3, _), (0, _), (1, _), (2, _)]) [0, 2, 3, 1] rfl ?_
  exact g_is rfl rfl (LP (n - 0) (0) (by omega))


def leF (M : Mm) (r : Nat) : Nat → Int32
  | 0 => -1
  | k + 1 => if 0 < M (obP r k) 4 ∧ (leF M r k = -1 ∨ (M (obP r k) 3).toInt64 * (M (obP r (leF M r k).toNatClampNeg) 4).toInt64 < (M (obP r (leF M r k).toNatClampNeg) 3).toInt64 * (M (obP r k) 4).toInt64) then nI k else leF M r k
theorem leF_in (M : Mm) (r : Nat) : ∀ k, k ≤ 3 → leF M r k = -1 ∨ ∃ j, j < 3 ∧ leF M r k = nI j := by
  intro k
  induction k with
  | zero => intro _; exact Or.inl rfl
  | succ k ih =>
    intro hk
    unfold leF
    split
    · exact Or.inr ⟨k, by omega, rfl⟩
    · exact ih (by omega)
theorem nI_ne1 {j : Nat} (h : j < 100) : ¬ nI j = -1 := fun z => absurd (show nI j < 0 by rw [z]; decide) (nI_pos (by omega))

