set_option maxHeartbeats 4000000 in
set_option maxRecDepth 100000 in
theorem kX9_readF (l : Launch) {M : Mm} {L : Nat} (hL60 : L ≤ 60) (hL : M 709 8 = nI L) (hne : ¬ (rkF M).1 = -1) : Ct l yX9_read wsX9_read rmX9_read (fun B => [.ref (B + 709)]) M (fun _ v u => v = some (.int (0)) ∧ u = va_up (thM M 0) 709 (upd (rkF M).2 0 1)) := by
  refine Ct.ofI (own := RX9) (by decide +kernel) rfl rfl (fun B => Nat.le_of_ble_eq_true rfl) ?_
  intro pp ee ss mm aa bb me c9 DD ca B Tl AA QQ F K
  show G pp l ee rmX9_read ss mm aa bb me c9 QQ DD ca B Tl AA 3 0 0 M 0 [(0, .ref (B + 709))] []
  refine g_aload_n F dX9_read_0 rfl 0 rfl ?_
  refine g_callV F (kX9_fault l hL60 hL) (cwV 0 F.1.2.2.2.2 gX9_read_X9_fault rfl rfl rfl (by decide +kernel) ⟨Nat.le_of_ble_eq_true rfl, Nat.le_of_ble_eq_true rfl⟩) r709 (by decide) rfl rfl rfl rfl (Nat.le_of_ble_eq_true rfl) dX9_read_1 ⟨Nat.le_of_ble_eq_true rfl, Nat.le_of_ble_eq_true rfl⟩ (g_det ?_)
  refine g_iconst F (v := -1) dX9_read_4 (by decide) ?_
  refine g_icmp_eq F 14 dX9_read_5 (by decide) (fun h1 => ?_) (fun h1 => ?_)
  · exact absurd (by first | exact h1 | exact Decidable.not_not.mp h1) hne
  · refine g_aload_n F dX9_read_8 rfl 0 rfl ?_
    refine g_iconst F (v := 1) dX9_read_9 (by decide) ?_
    refine g_callV F (kX9_fails l _) (cwV 1 F.1.2.2.2.2 gX9_read_X9_fails rfl rfl rfl (by decide +kernel) ⟨Nat.le_of_ble_eq_true rfl, Nat.le_of_ble_eq_true rfl⟩) r709 (by decide) rfl rfl rfl rfl (Nat.le_of_ble_eq_true rfl) dX9_read_10 ⟨Nat.le_of_ble_eq_true rfl, Nat.le_of_ble_eq_true rfl⟩ (g_det ?_)
    refine g_mem (show _ = va_up (thM M 0) 709 (upd (rkF M).2 0 1) by rw [bx_uu, va_up_self]) ?_
    exact K _ _ _ _ dX9_read_13 rfl ⟨rfl, rfl⟩
